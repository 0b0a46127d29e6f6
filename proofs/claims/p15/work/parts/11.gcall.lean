/-- the links inside the nest that the class uses -/
def gN : List Cond := [.methodLinkNest "HeapImages" 15 ⟨"HeapImages$Heap", "<init>", "()V"⟩ "HeapImages", .methodLinkNest "HeapImages" 22 ⟨"HeapImages$Bytes", "<init>", "()V"⟩ "HeapImages", .methodLinkNest "HeapImages$Heap" 54 ⟨"HeapImages", "isHead", "(I)Z"⟩ "HeapImages", .methodLinkNest "HeapImages$Heap" 50 ⟨"HeapImages", "slotsOf", "(I)I"⟩ "HeapImages", .methodLinkNest "HeapImages$Heap" 67 ⟨"HeapImages", "kindOf", "(I)I"⟩ "HeapImages", .methodLinkNest "HeapImages$Heap" 70 ⟨"HeapImages", "valuesOf", "(I)I"⟩ "HeapImages", .methodLinkNest "HeapImages$Heap" 80 ⟨"HeapImages", "isNumber", "(I)Z"⟩ "HeapImages", .methodLinkNest "HeapImages$Reader" 97 ⟨"HeapImages", "mayHaveSlots", "(JJ)Z"⟩ "HeapImages", .methodLinkNest "HeapImages$Reader" 112 ⟨"HeapImages", "kindOf", "(I)I"⟩ "HeapImages", .methodLinkNest "HeapImages$Reader" 116 ⟨"HeapImages", "slotsOf", "(I)I"⟩ "HeapImages", .fieldLinkNest "HeapImages" 69 "HeapImages$Heap" "words" "[I" "HeapImages", .fieldLinkNest "HeapImages$Reader" 109 "HeapImages$Heap" "words" "[I" "HeapImages", .fieldLinkNest "HeapImages$Reader" 35 "HeapImages$Heap" "roots" "[I" "HeapImages", .fieldLinkNest "HeapImages" 76 "HeapImages$Heap" "roots" "[I" "HeapImages", .fieldLinkNest "HeapImages" 124 "HeapImages$Heap" "base" "I" "HeapImages", .fieldLinkNest "HeapImages" 135 "HeapImages$Heap" "top" "I" "HeapImages", .fieldLinkNest "HeapImages" 147 "HeapImages$Heap" "objects" "I" "HeapImages", .fieldLinkNest "HeapImages" 141 "HeapImages$Heap" "reached" "I" "HeapImages", .fieldLinkNest "HeapImages$Reader" 71 "HeapImages$Bytes" "row" "[I" "HeapImages", .fieldLinkNest "HeapImages" 110 "HeapImages$Bytes" "row" "[I" "HeapImages", .fieldLinkNest "HeapImages$Reader" 59 "HeapImages$Bytes" "size" "I" "HeapImages", .fieldLinkNest "HeapImages" 103 "HeapImages$Bytes" "size" "I" "HeapImages", .fieldLinkNest "HeapImages$Heap" 112 "HeapImages$Bytes" "size" "I" "HeapImages"]
theorem gN_warm {s U : State} (hW : s.WarmedH U.vm) (h : ∀ w ∈ gN, va_Nw w s) : ∀ w ∈ gN, va_Nw w U := by
  intro w hw
  have h0 := h w hw
  simp only [gN, List.mem_cons, List.not_mem_nil, or_false] at hw
  rcases hw with rfl | rfl | rfl | rfl | rfl | rfl | rfl | rfl | rfl | rfl | rfl | rfl | rfl | rfl | rfl | rfl | rfl | rfl | rfl | rfl | rfl | rfl | rfl <;> first | exact va_Nw.warmM hW h0 | exact va_Nw.warmF hW h0
theorem gN_call {U : State} {g : JFrame} {mk : MethodId} {a : Array Value} (h : ∀ w ∈ gN, va_Nw w U) : ∀ w ∈ gN, va_Nw w (U.calling g mk a) := by
  intro w hw
  have h0 := h w hw
  simp only [gN, List.mem_cons, List.not_mem_nil, or_false] at hw
  rcases hw with rfl | rfl | rfl | rfl | rfl | rfl | rfl | rfl | rfl | rfl | rfl | rfl | rfl | rfl | rfl | rfl | rfl | rfl | rfl | rfl | rfl | rfl | rfl <;> exact va_Nw.same rfl rfl h0
def gPre (av : List Value) (D : va_G) (cl : List vw_C) (tys : List (ClassId × FieldType)) (ws : va_W) (sz : Nat) : Array Value → State → Prop := va_Pc av (fun U => U.heap.size = sz ∧ va_P D cl ws U.heap ∧ va_K D cl tys U ∧ va_D (fun _ => True) ws ∧ ∀ w ∈ gN, va_Nw w U)
theorem gPre_blind {av : List Value} {D : va_G} {cl : List vw_C} {tys : List (ClassId × FieldType)} {ws : va_W} {sz : Nat} : FrameBlind (gPre av D cl tys ws sz) := fun a U g mk q => by
  obtain ⟨q0, q1, qP, qK, qD, qN⟩ := q
  exact ⟨q0, q1, qP, va_K.moved (u := U) (U := U.calling g mk a) (Vm.Alike.refl U.vm) qK, qD, gN_call qN⟩
/-- cells put back in their places -/
def gmix : va_W → List Nat → va_W → va_W
  | ws, i :: is, c :: w1 => gmix (ws.set i c) is w1
  | ws, [], _ => ws
  | ws, _ :: _, [] => ws
theorem gmix_ad : ∀ (is : List Nat) (ws wc w1 : va_W), is.map (fun i => ws[i]?) = wc.map some → w1.map (·.1) = wc.map (·.1) → va_nd is = true → (gmix ws is w1).map (·.1) = ws.map (·.1)
  | [], ws, wc, w1, _, _, _ => by cases w1 <;> rfl
  | i :: is, ws, wc, w1, h, h1, hn => by
    cases wc with
    | nil => simp at h
    | cons c wc =>
      cases w1 with
      | nil => simp at h1
      | cons d w1 =>
        simp only [List.map_cons, List.cons.injEq] at h h1
        simp only [va_nd, Bool.and_eq_true, decide_eq_true_eq] at hn
        have hset : (ws.set i d).map (·.1) = ws.map (·.1) := by
          rw [List.map_set]
          have hi : (ws.map (·.1))[i]? = some c.1 := by rw [List.getElem?_map, h.1]; rfl
          obtain ⟨hl, he⟩ := List.getElem?_eq_some_iff.mp hi
          rw [h1.1, ← he, List.set_getElem_self]
        have hrest : is.map (fun j => (ws.set i d)[j]?) = wc.map some := by
          rw [← h.2]
          apply List.map_congr_left
          intro j hj
          exact List.getElem?_set_ne (fun e : i = j => hn.1 (by rw [e]; exact hj))
        show (gmix (ws.set i d) is w1).map (·.1) = ws.map (·.1)
        rw [gmix_ad is (ws.set i d) wc w1 hrest h1.2 hn.2, hset]
theorem gmix_at : ∀ (is : List Nat) (ws wc w1 : va_W), is.map (fun i => ws[i]?) = wc.map some → w1.length = wc.length → va_nd is = true → ∀ (k : Nat) (q : Nat × va_E), (gmix ws is w1)[k]? = some q → (∃ j : Nat, w1[j]? = some q) ∨ (ws[k]? = some q ∧ k ∉ is)
  | [], ws, wc, w1, _, _, _, k, q, hk => by
    cases w1 <;> exact Or.inr ⟨hk, by simp⟩
  | i :: is, ws, wc, w1, h, h1, hn, k, q, hk => by
    cases wc with
    | nil => simp at h
    | cons c wc =>
      cases w1 with
      | nil => simp at h1
      | cons d w1 =>
        simp only [List.map_cons, List.cons.injEq] at h
        simp only [va_nd, Bool.and_eq_true, decide_eq_true_eq] at hn
        have hrest : is.map (fun j => (ws.set i d)[j]?) = wc.map some := by
          rw [← h.2]
          apply List.map_congr_left
          intro j hj
          exact List.getElem?_set_ne (fun e : i = j => hn.1 (by rw [e]; exact hj))
        rcases gmix_at is (ws.set i d) wc w1 hrest (by simpa using h1) hn.2 k q hk with ⟨j, hj⟩ | ⟨h2, h3⟩
        · exact Or.inl ⟨j + 1, hj⟩
        · by_cases hki : k = i
          · subst hki
            have hl : k < ws.length := (List.getElem?_eq_some_iff.mp h.1).1
            rw [List.getElem?_set_self hl] at h2
            exact Or.inl ⟨0, h2⟩
          · rw [List.getElem?_set_ne (Ne.symm hki)] at h2
            exact Or.inr ⟨h2, by simp [hki, h3]⟩
theorem va_D.ofAd {A : Nat → Prop} {ws ws' : va_W} (h : va_D A ws) (he : ws'.map (·.1) = ws.map (·.1)) : va_D A ws' := by
  have key : ∀ (k : Nat) (q : Nat × va_E), ws'[k]? = some q → ∃ q0, ws[k]? = some q0 ∧ q0.1 = q.1 := by
    intro k q hk
    have h1 : (ws'.map (·.1))[k]? = some q.1 := by rw [List.getElem?_map, hk]; rfl
    rw [he, List.getElem?_map] at h1
    cases h2 : ws[k]? with
    | none => rw [h2] at h1; cases h1
    | some q0 => rw [h2] at h1; exact ⟨q0, rfl, Option.some.inj h1⟩
  refine ⟨fun i j x y hi hj hxy => ?_, fun k q hk => ?_⟩
  · obtain ⟨x0, h1, h2⟩ := key i x hi
    obtain ⟨y0, h3, h4⟩ := key j y hj
    exact h.1 i j x0 y0 h1 h3 (h2.trans (hxy.trans h4.symm))
  · obtain ⟨q0, h1, h2⟩ := key k q hk
    rw [← h2]
    exact h.2 k q0 h1
theorem gfm {α β : Type} {f : α → Option β} : ∀ {l : List α} {r : List β}, l.map f = r.map some → l.filterMap f = r
  | [], [], _ => rfl
  | [], _ :: _, h => by simp at h
  | _ :: _, [], h => by simp at h
  | a :: l, b :: r, h => by
    simp only [List.map_cons, List.cons.injEq] at h
    rw [List.filterMap_cons, h.1]
    exact congrArg (b :: ·) (gfm h.2)
theorem gmix_ok {A0 : Nat → Prop} {D : va_G} {cl : List vw_C} {ws wc w1 : va_W} {H H1 : Heap} (hP : va_P D cl ws H) (hD : va_D A0 ws) (is : List Nat) (hC : is.map (fun i => ws[i]?) = wc.map some) (hn : va_nd is = true) (hs : w1.map (·.1) = wc.map (·.1))
    (hk : ∀ q : Nat, q < H.size → ¬ va_A wc H.size q → H1[q]? = H[q]?) (hP1 : va_P D cl w1 H1) : va_P D cl (gmix ws is w1) H1 ∧ va_D A0 (gmix ws is w1) := by
  have hlen : w1.length = wc.length := by have := congrArg List.length hs; simpa using this
  refine ⟨fun k q hq => ?_, hD.ofAd (gmix_ad is ws wc w1 hC hs hn)⟩
  rcases gmix_at is ws wc w1 hC hlen hn k q hq with ⟨j, hj⟩ | ⟨h2, h3⟩
  · exact hP1 j q hj
  · refine (hP k q h2).kept (hk q.1 (hP k q h2).lt ?_)
    rintro (⟨j, e, hj⟩ | h)
    · have h4 : (is.map (fun i => ws[i]?))[j]? = some (some (q.1, e)) := by rw [hC, List.getElem?_map, hj]; rfl
      rw [List.getElem?_map] at h4
      cases h5 : is[j]? with
      | none => rw [h5] at h4; cases h4
      | some i =>
        rw [h5] at h4
        have h6 : ws[i]? = some (q.1, e) := Option.some.inj h4
        have h7 := hD.1 k i q (q.1, e) h2 h6 rfl
        exact h3 (h7 ▸ List.mem_of_getElem? h5)
    · exact Nat.not_le.mpr (hP k q h2).lt h
theorem g_met {l : Launch} {y : MethodName} {Ts Ts' : List Cond} {rm : Room} {cc : ByteArray} {maxL : Nat} {ret : Option FieldType} {av : List Value} {D : va_G} {cl : List vw_C} {tys : List (ClassId × FieldType)} {ws : va_W} {mc ms : Nat} (QQ : (Nat → Prop) → Array Value → State → Outcome → State → Prop) (hy : plainName y.cls = true) (hw : Ts = Cond.code y cc maxL ret :: Ts') (hlen : (lg_sl av).length ≤ maxL)
    (body : ∀ (p : Program) (e : Env) (s : State) (m : MethodId) (args : Array Value) (below : List Frame) (meth : Method) (c : Code) (A : Nat → Prop) (Q : State → Prop), gF p m c cc maxL s args Ts y.cls D cl tys A → meth.locks = false → meth.sig.returnType = ret → meth.name = y.name → (∀ w ∈ gN, va_Nw w s) → Q = MQ below (QQ A) args s mc ms A → gW p l e rm s m args below meth c 0 0 Q D cl A maxL ws (lv_args 0 av) 0 [])
    (sz : Nat) : Met l y Ts rm (gPre av D cl tys ws sz) (QQ (va_A ws sz)) mc ms (va_A ws sz) := by
  refine Met.ofW (cc := cc) (maxL := maxL) (ret := ret) hy hw ?_
  intro p e s m args below meth c s₁ B hml hv
  obtain ⟨rfl, hsz, hP, hK, hD0, hN⟩ := hv
  subst hsz
  have hD := hD0.self (sz := s.heap.size)
  generalize hAe : va_A ws s.heap.size = A at hD ⊢
  have hA : ∀ q : Nat, s.heap.size ≤ q → A q := fun q h => by rw [← hAe]; exact Or.inr h
  have hl := lv_entry av (n := maxL) hlen
  rw [lg_entry_eq]
  exact body p e s m av.toArray below meth c A _ ⟨B.exec, B.bytes, hml, findClass_of_methodNamed B.named, atoms_spec (ws := Ts) B.pre, hK, hA⟩ B.notSynchronized B.returns (name_of_methodNamed B.named B.method).1 hN rfl s.heap [] _ hP hD va_S.rf hl
section GC
variable {p : Program} {l : Launch} {e : Env} {R : Room} {s : State} {m : MethodId} {args : Array Value} {below : List Frame} {meth : Method} {c : Code} {cells slots : Nat} {Q : State → Prop} {D : va_G} {cl : List vw_C} {A : Nat → Prop} {nL : Nat} {ws : va_W} {lv : List (Nat × Value)} {pc : Nat} {rest : List Value}
variable {cc : ByteArray} {Ts : List Cond} {own : String} {tys : List (ClassId × FieldType)}
theorem gPre_at {H : Heap} {locs : List Loc} {av : List Value} {wc : va_W} (F : gF p m c cc nL s args Ts own D cl tys A) (hN : ∀ w ∈ gN, va_Nw w s) (hP : va_P D cl ws H) (hD : va_D A ws) (is : List Nat) (hC : is.map (fun i => ws[i]?) = wc.map some) (hn : va_nd is = true) : ∀ U : State, U.heap = H → s.WarmedH U.vm → gPre av D cl tys wc H.size av.toArray U :=
  fun U hU hW => ⟨rfl, by rw [hU], by rw [hU]; exact hP.sub is (gfm hC), va_K.moved hW.alike F.2.2.2.2.2.1, (hD.sub is hn hC).weaken (fun _ _ _ _ => trivial), gN_warm hW hN⟩
theorem g_callVi (F : gF p m c cc nL s args Ts own D cl tys A) {y : MethodName} {Tc Tc' : List Cond} {rmc : Room} {bytes : ByteArray} {maxLc mc ms n index : Nat} {retc : Option FieldType} {As st0 : List Value} {wc : va_W} {S : Type} {post : Int32 → S → Prop} {wf : S → va_W} {b : Nat} {C : String} (hM : ∀ sz : Nat, Met l y Tc rmc (gPre (.ref b :: As) D cl tys wc sz) (va_Qi post (gB D cl tys wf (va_A wc sz)) (va_A wc sz)) mc ms (va_A wc sz)) (hG : GoodIn Ts Tc) (hw : Tc = Cond.code y bytes maxLc retc :: Tc') (hrc : rmc.cells = mc) (hrs : rmc.slots = ms) (hini : Cond.initialized y.cls ∈ Ts) (hlk : Cond.methodLink own index y ∈ Ts) (hin : Cond.instanceMethod y ∈ Ts) (hsel : Cond.selects C y y ∈ Ts) (hd : y.cls ≠ "java/lang/invoke/MethodHandle" ∧ y.cls ≠ "java/lang/invoke/VarHandle" ∧ (parseMethodDescriptor y.desc).map (fun d => d.parameters.length) = some n) (hR : rmc.frames + 1 ≤ R.frames ∧ 8 + (maxLc + 11) + rmc.locals ≤ R.locals) (hf : cells + mc ≤ R.cells ∧ slots + ms ≤ R.slots) (hN : ∀ w ∈ gN, va_Nw w s) (q0 : Nat) {ci : Nat} {q : vw_C} {fs : List Value} (hrv : ws[q0]? = some (b, .inr (ci, fs))) (hcl : cl[ci]? = some q) (hq : q.1 = C) (is : List Nat) (hC : is.map (fun i => ws[i]?) = wc.map some) (hnd : va_nd is = true) (hsame : ∀ u, (wf u).map (·.1) = wc.map (·.1)) (hn : As.length = n) (hst : (rest.map fun v => v.category).sum ≤ 8) (hst0 : st0 = As.reverse ++ .ref b :: rest) (hdg : decode cc pc = .ok (.invokevirtual index, 3)) {cells' slots' : Nat} (hcc : cells + mc = cells') (hss : slots + ms = slots') (k : ∀ (r : Int32) (u : S), post r u → gW p l e R s m args below meth c cells' slots' Q D cl A nL (gmix ws is (wf u)) lv (pc + 3) (.int r :: rest)) : gW p l e R s m args below meth c cells slots Q D cl A nL ws lv pc st0 := by
  intro H locs ls hP hD hS hl
  subst hst0
  subst hcc
  subst hss
  have hFc := va_free (wc := wc) hD hS F.2.2.2.2.2.2 is hC
  have hts := F.2.2.2.2.1
  subst hq
  refine va_calli (va_runV (As := As) (rest := rest) ⟨F.1, F.2.1, F.2.2.1, F.2.2.2.1, hts⟩ (hM H.size) ⟨callB_of n hts hG hw hrc hrs (hts _ hini) (hts _ hlk) hd hR, hts _ hin, hts _ hsel⟩ ⟨gPre_blind, va_recv F.2.2.2.2.2.1 hP hcl hrv, gPre_at (locs := locs) F hN hP hD is hC hnd⟩ rfl hn hl.1 rfl (lv_room hst) hdg hf) hS (fun q _ h => hFc q h) hFc (fun r u t H1 locs1 ht hvm hpo hB hz1 hk1 hS1 => ?_)
  obtain ⟨hP1, hK1, hD1⟩ := hB
  rw [ht] at hP1
  have h1 := gmix_ok hP hD is hC hnd (hsame u) hk1 hP1
  exact k r u hpo H1 locs1 ls h1.1 h1.2 hS1 hl
theorem g_callSi (F : gF p m c cc nL s args Ts own D cl tys A) {y : MethodName} {Tc Tc' : List Cond} {rmc : Room} {bytes : ByteArray} {maxLc mc ms n index : Nat} {retc : Option FieldType} {As st0 : List Value} {wc : va_W} {S : Type} {post : Int32 → S → Prop} {wf : S → va_W} (hM : ∀ sz : Nat, Met l y Tc rmc (gPre (As) D cl tys wc sz) (va_Qi post (gB D cl tys wf (va_A wc sz)) (va_A wc sz)) mc ms (va_A wc sz)) (hG : GoodIn Ts Tc) (hw : Tc = Cond.code y bytes maxLc retc :: Tc') (hrc : rmc.cells = mc) (hrs : rmc.slots = ms) (hini : Cond.initialized y.cls ∈ Ts) (hlk : Cond.methodLink own index y ∈ Ts) (hstat : Cond.static y ∈ Ts) (hd : y.cls ≠ "java/lang/invoke/MethodHandle" ∧ y.cls ≠ "java/lang/invoke/VarHandle" ∧ (parseMethodDescriptor y.desc).map (fun d => d.parameters.length) = some n) (hR : rmc.frames + 1 ≤ R.frames ∧ 8 + (maxLc + 11) + rmc.locals ≤ R.locals) (hf : cells + mc ≤ R.cells ∧ slots + ms ≤ R.slots) (hN : ∀ w ∈ gN, va_Nw w s) (is : List Nat) (hC : is.map (fun i => ws[i]?) = wc.map some) (hnd : va_nd is = true) (hsame : ∀ u, (wf u).map (·.1) = wc.map (·.1)) (hn : As.length = n) (hst : (rest.map fun v => v.category).sum ≤ 8) (hst0 : st0 = As.reverse ++ rest) (hdg : decode cc pc = .ok (.invokestatic index, 3)) {cells' slots' : Nat} (hcc : cells + mc = cells') (hss : slots + ms = slots') (k : ∀ (r : Int32) (u : S), post r u → gW p l e R s m args below meth c cells' slots' Q D cl A nL (gmix ws is (wf u)) lv (pc + 3) (.int r :: rest)) : gW p l e R s m args below meth c cells slots Q D cl A nL ws lv pc st0 := by
  intro H locs ls hP hD hS hl
  subst hst0
  subst hcc
  subst hss
  have hFc := va_free (wc := wc) hD hS F.2.2.2.2.2.2 is hC
  have hts := F.2.2.2.2.1
  refine va_calli (va_runS (As := As) (rest := rest) ⟨F.1, F.2.1, F.2.2.1, F.2.2.2.1, hts⟩ (hM H.size) ⟨callB_of n hts hG hw hrc hrs (hts _ hini) (hts _ hlk) hd hR, hts _ hstat⟩ ⟨gPre_blind, gPre_at (locs := locs) F hN hP hD is hC hnd⟩ rfl hn hl.1 rfl (lv_room hst) hdg hf) hS (fun q _ h => hFc q h) hFc (fun r u t H1 locs1 ht hvm hpo hB hz1 hk1 hS1 => ?_)
  obtain ⟨hP1, hK1, hD1⟩ := hB
  rw [ht] at hP1
  have h1 := gmix_ok hP hD is hC hnd (hsame u) hk1 hP1
  exact k r u hpo H1 locs1 ls h1.1 h1.2 hS1 hl
theorem g_callNi (F : gF p m c cc nL s args Ts own D cl tys A) {y : MethodName} {Tc Tc' : List Cond} {rmc : Room} {bytes : ByteArray} {maxLc mc ms n index : Nat} {retc : Option FieldType} {As st0 : List Value} {wc : va_W} {S : Type} {post : Int32 → S → Prop} {wf : S → va_W} {host : String} (hM : ∀ sz : Nat, Met l y Tc rmc (gPre (As) D cl tys wc sz) (va_Qi post (gB D cl tys wf (va_A wc sz)) (va_A wc sz)) mc ms (va_A wc sz)) (hG : GoodIn Ts Tc) (hw : Tc = Cond.code y bytes maxLc retc :: Tc') (hrc : rmc.cells = mc) (hrs : rmc.slots = ms) (hini : Cond.initialized y.cls ∈ Ts) (hlk : va_Nw (.methodLinkNest own index y host) s) (hstat : Cond.static y ∈ Ts) (hd : y.cls ≠ "java/lang/invoke/MethodHandle" ∧ y.cls ≠ "java/lang/invoke/VarHandle" ∧ (parseMethodDescriptor y.desc).map (fun d => d.parameters.length) = some n) (hR : rmc.frames + 1 ≤ R.frames ∧ 8 + (maxLc + 11) + rmc.locals ≤ R.locals) (hf : cells + mc ≤ R.cells ∧ slots + ms ≤ R.slots) (hN : ∀ w ∈ gN, va_Nw w s) (is : List Nat) (hC : is.map (fun i => ws[i]?) = wc.map some) (hnd : va_nd is = true) (hsame : ∀ u, (wf u).map (·.1) = wc.map (·.1)) (hn : As.length = n) (hst : (rest.map fun v => v.category).sum ≤ 8) (hst0 : st0 = As.reverse ++ rest) (hdg : decode cc pc = .ok (.invokestatic index, 3)) {cells' slots' : Nat} (hcc : cells + mc = cells') (hss : slots + ms = slots') (k : ∀ (r : Int32) (u : S), post r u → gW p l e R s m args below meth c cells' slots' Q D cl A nL (gmix ws is (wf u)) lv (pc + 3) (.int r :: rest)) : gW p l e R s m args below meth c cells slots Q D cl A nL ws lv pc st0 := by
  intro H locs ls hP hD hS hl
  subst hst0
  subst hcc
  subst hss
  have hFc := va_free (wc := wc) hD hS F.2.2.2.2.2.2 is hC
  have hts := F.2.2.2.2.1
  refine va_calli (va_runSN (As := As) (rest := rest) ⟨F.1, F.2.1, F.2.2.1, F.2.2.2.1, hts⟩ (hM H.size) ⟨va_cnB n hts hG hw hrc hrs hlk (hts _ hini) hd hR, hts _ hstat, trivial⟩ ⟨gPre_blind, gPre_at (locs := locs) F hN hP hD is hC hnd⟩ rfl hn hl.1 rfl (lv_room hst) hdg hf) hS (fun q _ h => hFc q h) hFc (fun r u t H1 locs1 ht hvm hpo hB hz1 hk1 hS1 => ?_)
  obtain ⟨hP1, hK1, hD1⟩ := hB
  rw [ht] at hP1
  have h1 := gmix_ok hP hD is hC hnd (hsame u) hk1 hP1
  exact k r u hpo H1 locs1 ls h1.1 h1.2 hS1 hl
theorem g_callVl (F : gF p m c cc nL s args Ts own D cl tys A) {y : MethodName} {Tc Tc' : List Cond} {rmc : Room} {bytes : ByteArray} {maxLc mc ms n index : Nat} {retc : Option FieldType} {As st0 : List Value} {wc : va_W} {S : Type} {post : Int64 → S → Prop} {wf : S → va_W} {b : Nat} {C : String} (hM : ∀ sz : Nat, Met l y Tc rmc (gPre (.ref b :: As) D cl tys wc sz) (va_Ql post (gB D cl tys wf (va_A wc sz)) (va_A wc sz)) mc ms (va_A wc sz)) (hG : GoodIn Ts Tc) (hw : Tc = Cond.code y bytes maxLc retc :: Tc') (hrc : rmc.cells = mc) (hrs : rmc.slots = ms) (hini : Cond.initialized y.cls ∈ Ts) (hlk : Cond.methodLink own index y ∈ Ts) (hin : Cond.instanceMethod y ∈ Ts) (hsel : Cond.selects C y y ∈ Ts) (hd : y.cls ≠ "java/lang/invoke/MethodHandle" ∧ y.cls ≠ "java/lang/invoke/VarHandle" ∧ (parseMethodDescriptor y.desc).map (fun d => d.parameters.length) = some n) (hR : rmc.frames + 1 ≤ R.frames ∧ 8 + (maxLc + 11) + rmc.locals ≤ R.locals) (hf : cells + mc ≤ R.cells ∧ slots + ms ≤ R.slots) (hN : ∀ w ∈ gN, va_Nw w s) (q0 : Nat) {ci : Nat} {q : vw_C} {fs : List Value} (hrv : ws[q0]? = some (b, .inr (ci, fs))) (hcl : cl[ci]? = some q) (hq : q.1 = C) (is : List Nat) (hC : is.map (fun i => ws[i]?) = wc.map some) (hnd : va_nd is = true) (hsame : ∀ u, (wf u).map (·.1) = wc.map (·.1)) (hn : As.length = n) (hst : (rest.map fun v => v.category).sum ≤ 8) (hst0 : st0 = As.reverse ++ .ref b :: rest) (hdg : decode cc pc = .ok (.invokevirtual index, 3)) {cells' slots' : Nat} (hcc : cells + mc = cells') (hss : slots + ms = slots') (k : ∀ (r : Int64) (u : S), post r u → gW p l e R s m args below meth c cells' slots' Q D cl A nL (gmix ws is (wf u)) lv (pc + 3) (.long r :: rest)) : gW p l e R s m args below meth c cells slots Q D cl A nL ws lv pc st0 := by
  intro H locs ls hP hD hS hl
  subst hst0
  subst hcc
  subst hss
  have hFc := va_free (wc := wc) hD hS F.2.2.2.2.2.2 is hC
  have hts := F.2.2.2.2.1
  subst hq
  refine va_calll (va_runV (As := As) (rest := rest) ⟨F.1, F.2.1, F.2.2.1, F.2.2.2.1, hts⟩ (hM H.size) ⟨callB_of n hts hG hw hrc hrs (hts _ hini) (hts _ hlk) hd hR, hts _ hin, hts _ hsel⟩ ⟨gPre_blind, va_recv F.2.2.2.2.2.1 hP hcl hrv, gPre_at (locs := locs) F hN hP hD is hC hnd⟩ rfl hn hl.1 rfl (lv_room hst) hdg hf) hS (fun q _ h => hFc q h) hFc (fun r u t H1 locs1 ht hvm hpo hB hz1 hk1 hS1 => ?_)
  obtain ⟨hP1, hK1, hD1⟩ := hB
  rw [ht] at hP1
  have h1 := gmix_ok hP hD is hC hnd (hsame u) hk1 hP1
  exact k r u hpo H1 locs1 ls h1.1 h1.2 hS1 hl
theorem g_callSl (F : gF p m c cc nL s args Ts own D cl tys A) {y : MethodName} {Tc Tc' : List Cond} {rmc : Room} {bytes : ByteArray} {maxLc mc ms n index : Nat} {retc : Option FieldType} {As st0 : List Value} {wc : va_W} {S : Type} {post : Int64 → S → Prop} {wf : S → va_W} (hM : ∀ sz : Nat, Met l y Tc rmc (gPre (As) D cl tys wc sz) (va_Ql post (gB D cl tys wf (va_A wc sz)) (va_A wc sz)) mc ms (va_A wc sz)) (hG : GoodIn Ts Tc) (hw : Tc = Cond.code y bytes maxLc retc :: Tc') (hrc : rmc.cells = mc) (hrs : rmc.slots = ms) (hini : Cond.initialized y.cls ∈ Ts) (hlk : Cond.methodLink own index y ∈ Ts) (hstat : Cond.static y ∈ Ts) (hd : y.cls ≠ "java/lang/invoke/MethodHandle" ∧ y.cls ≠ "java/lang/invoke/VarHandle" ∧ (parseMethodDescriptor y.desc).map (fun d => d.parameters.length) = some n) (hR : rmc.frames + 1 ≤ R.frames ∧ 8 + (maxLc + 11) + rmc.locals ≤ R.locals) (hf : cells + mc ≤ R.cells ∧ slots + ms ≤ R.slots) (hN : ∀ w ∈ gN, va_Nw w s) (is : List Nat) (hC : is.map (fun i => ws[i]?) = wc.map some) (hnd : va_nd is = true) (hsame : ∀ u, (wf u).map (·.1) = wc.map (·.1)) (hn : As.length = n) (hst : (rest.map fun v => v.category).sum ≤ 8) (hst0 : st0 = As.reverse ++ rest) (hdg : decode cc pc = .ok (.invokestatic index, 3)) {cells' slots' : Nat} (hcc : cells + mc = cells') (hss : slots + ms = slots') (k : ∀ (r : Int64) (u : S), post r u → gW p l e R s m args below meth c cells' slots' Q D cl A nL (gmix ws is (wf u)) lv (pc + 3) (.long r :: rest)) : gW p l e R s m args below meth c cells slots Q D cl A nL ws lv pc st0 := by
  intro H locs ls hP hD hS hl
  subst hst0
  subst hcc
  subst hss
  have hFc := va_free (wc := wc) hD hS F.2.2.2.2.2.2 is hC
  have hts := F.2.2.2.2.1
  refine va_calll (va_runS (As := As) (rest := rest) ⟨F.1, F.2.1, F.2.2.1, F.2.2.2.1, hts⟩ (hM H.size) ⟨callB_of n hts hG hw hrc hrs (hts _ hini) (hts _ hlk) hd hR, hts _ hstat⟩ ⟨gPre_blind, gPre_at (locs := locs) F hN hP hD is hC hnd⟩ rfl hn hl.1 rfl (lv_room hst) hdg hf) hS (fun q _ h => hFc q h) hFc (fun r u t H1 locs1 ht hvm hpo hB hz1 hk1 hS1 => ?_)
  obtain ⟨hP1, hK1, hD1⟩ := hB
  rw [ht] at hP1
  have h1 := gmix_ok hP hD is hC hnd (hsame u) hk1 hP1
  exact k r u hpo H1 locs1 ls h1.1 h1.2 hS1 hl
theorem g_callNl (F : gF p m c cc nL s args Ts own D cl tys A) {y : MethodName} {Tc Tc' : List Cond} {rmc : Room} {bytes : ByteArray} {maxLc mc ms n index : Nat} {retc : Option FieldType} {As st0 : List Value} {wc : va_W} {S : Type} {post : Int64 → S → Prop} {wf : S → va_W} {host : String} (hM : ∀ sz : Nat, Met l y Tc rmc (gPre (As) D cl tys wc sz) (va_Ql post (gB D cl tys wf (va_A wc sz)) (va_A wc sz)) mc ms (va_A wc sz)) (hG : GoodIn Ts Tc) (hw : Tc = Cond.code y bytes maxLc retc :: Tc') (hrc : rmc.cells = mc) (hrs : rmc.slots = ms) (hini : Cond.initialized y.cls ∈ Ts) (hlk : va_Nw (.methodLinkNest own index y host) s) (hstat : Cond.static y ∈ Ts) (hd : y.cls ≠ "java/lang/invoke/MethodHandle" ∧ y.cls ≠ "java/lang/invoke/VarHandle" ∧ (parseMethodDescriptor y.desc).map (fun d => d.parameters.length) = some n) (hR : rmc.frames + 1 ≤ R.frames ∧ 8 + (maxLc + 11) + rmc.locals ≤ R.locals) (hf : cells + mc ≤ R.cells ∧ slots + ms ≤ R.slots) (hN : ∀ w ∈ gN, va_Nw w s) (is : List Nat) (hC : is.map (fun i => ws[i]?) = wc.map some) (hnd : va_nd is = true) (hsame : ∀ u, (wf u).map (·.1) = wc.map (·.1)) (hn : As.length = n) (hst : (rest.map fun v => v.category).sum ≤ 8) (hst0 : st0 = As.reverse ++ rest) (hdg : decode cc pc = .ok (.invokestatic index, 3)) {cells' slots' : Nat} (hcc : cells + mc = cells') (hss : slots + ms = slots') (k : ∀ (r : Int64) (u : S), post r u → gW p l e R s m args below meth c cells' slots' Q D cl A nL (gmix ws is (wf u)) lv (pc + 3) (.long r :: rest)) : gW p l e R s m args below meth c cells slots Q D cl A nL ws lv pc st0 := by
  intro H locs ls hP hD hS hl
  subst hst0
  subst hcc
  subst hss
  have hFc := va_free (wc := wc) hD hS F.2.2.2.2.2.2 is hC
  have hts := F.2.2.2.2.1
  refine va_calll (va_runSN (As := As) (rest := rest) ⟨F.1, F.2.1, F.2.2.1, F.2.2.2.1, hts⟩ (hM H.size) ⟨va_cnB n hts hG hw hrc hrs hlk (hts _ hini) hd hR, hts _ hstat, trivial⟩ ⟨gPre_blind, gPre_at (locs := locs) F hN hP hD is hC hnd⟩ rfl hn hl.1 rfl (lv_room hst) hdg hf) hS (fun q _ h => hFc q h) hFc (fun r u t H1 locs1 ht hvm hpo hB hz1 hk1 hS1 => ?_)
  obtain ⟨hP1, hK1, hD1⟩ := hB
  rw [ht] at hP1
  have h1 := gmix_ok hP hD is hC hnd (hsame u) hk1 hP1
  exact k r u hpo H1 locs1 ls h1.1 h1.2 hS1 hl
theorem g_callVv (F : gF p m c cc nL s args Ts own D cl tys A) {y : MethodName} {Tc Tc' : List Cond} {rmc : Room} {bytes : ByteArray} {maxLc mc ms n index : Nat} {retc : Option FieldType} {As st0 : List Value} {wc : va_W} {S : Type} {post : S → Prop} {wf : S → va_W} {b : Nat} {C : String} (hM : ∀ sz : Nat, Met l y Tc rmc (gPre (.ref b :: As) D cl tys wc sz) (va_Qv post (gB D cl tys wf (va_A wc sz)) (va_A wc sz)) mc ms (va_A wc sz)) (hG : GoodIn Ts Tc) (hw : Tc = Cond.code y bytes maxLc retc :: Tc') (hrc : rmc.cells = mc) (hrs : rmc.slots = ms) (hini : Cond.initialized y.cls ∈ Ts) (hlk : Cond.methodLink own index y ∈ Ts) (hin : Cond.instanceMethod y ∈ Ts) (hsel : Cond.selects C y y ∈ Ts) (hd : y.cls ≠ "java/lang/invoke/MethodHandle" ∧ y.cls ≠ "java/lang/invoke/VarHandle" ∧ (parseMethodDescriptor y.desc).map (fun d => d.parameters.length) = some n) (hR : rmc.frames + 1 ≤ R.frames ∧ 8 + (maxLc + 11) + rmc.locals ≤ R.locals) (hf : cells + mc ≤ R.cells ∧ slots + ms ≤ R.slots) (hN : ∀ w ∈ gN, va_Nw w s) (q0 : Nat) {ci : Nat} {q : vw_C} {fs : List Value} (hrv : ws[q0]? = some (b, .inr (ci, fs))) (hcl : cl[ci]? = some q) (hq : q.1 = C) (is : List Nat) (hC : is.map (fun i => ws[i]?) = wc.map some) (hnd : va_nd is = true) (hsame : ∀ u, (wf u).map (·.1) = wc.map (·.1)) (hn : As.length = n) (hst : (rest.map fun v => v.category).sum ≤ 8) (hst0 : st0 = As.reverse ++ .ref b :: rest) (hdg : decode cc pc = .ok (.invokevirtual index, 3)) {cells' slots' : Nat} (hcc : cells + mc = cells') (hss : slots + ms = slots') (k : ∀ u : S, post u → gW p l e R s m args below meth c cells' slots' Q D cl A nL (gmix ws is (wf u)) lv (pc + 3) rest) : gW p l e R s m args below meth c cells slots Q D cl A nL ws lv pc st0 := by
  intro H locs ls hP hD hS hl
  subst hst0
  subst hcc
  subst hss
  have hFc := va_free (wc := wc) hD hS F.2.2.2.2.2.2 is hC
  have hts := F.2.2.2.2.1
  subst hq
  refine va_callv (va_runV (As := As) (rest := rest) ⟨F.1, F.2.1, F.2.2.1, F.2.2.2.1, hts⟩ (hM H.size) ⟨callB_of n hts hG hw hrc hrs (hts _ hini) (hts _ hlk) hd hR, hts _ hin, hts _ hsel⟩ ⟨gPre_blind, va_recv F.2.2.2.2.2.1 hP hcl hrv, gPre_at (locs := locs) F hN hP hD is hC hnd⟩ rfl hn hl.1 rfl (lv_room hst) hdg hf) hS (fun q _ h => hFc q h) hFc (fun u t H1 locs1 ht hvm hpo hB hz1 hk1 hS1 => ?_)
  obtain ⟨hP1, hK1, hD1⟩ := hB
  rw [ht] at hP1
  have h1 := gmix_ok hP hD is hC hnd (hsame u) hk1 hP1
  exact k u hpo H1 locs1 ls h1.1 h1.2 hS1 hl
theorem g_callSv (F : gF p m c cc nL s args Ts own D cl tys A) {y : MethodName} {Tc Tc' : List Cond} {rmc : Room} {bytes : ByteArray} {maxLc mc ms n index : Nat} {retc : Option FieldType} {As st0 : List Value} {wc : va_W} {S : Type} {post : S → Prop} {wf : S → va_W} (hM : ∀ sz : Nat, Met l y Tc rmc (gPre (As) D cl tys wc sz) (va_Qv post (gB D cl tys wf (va_A wc sz)) (va_A wc sz)) mc ms (va_A wc sz)) (hG : GoodIn Ts Tc) (hw : Tc = Cond.code y bytes maxLc retc :: Tc') (hrc : rmc.cells = mc) (hrs : rmc.slots = ms) (hini : Cond.initialized y.cls ∈ Ts) (hlk : Cond.methodLink own index y ∈ Ts) (hstat : Cond.static y ∈ Ts) (hd : y.cls ≠ "java/lang/invoke/MethodHandle" ∧ y.cls ≠ "java/lang/invoke/VarHandle" ∧ (parseMethodDescriptor y.desc).map (fun d => d.parameters.length) = some n) (hR : rmc.frames + 1 ≤ R.frames ∧ 8 + (maxLc + 11) + rmc.locals ≤ R.locals) (hf : cells + mc ≤ R.cells ∧ slots + ms ≤ R.slots) (hN : ∀ w ∈ gN, va_Nw w s) (is : List Nat) (hC : is.map (fun i => ws[i]?) = wc.map some) (hnd : va_nd is = true) (hsame : ∀ u, (wf u).map (·.1) = wc.map (·.1)) (hn : As.length = n) (hst : (rest.map fun v => v.category).sum ≤ 8) (hst0 : st0 = As.reverse ++ rest) (hdg : decode cc pc = .ok (.invokestatic index, 3)) {cells' slots' : Nat} (hcc : cells + mc = cells') (hss : slots + ms = slots') (k : ∀ u : S, post u → gW p l e R s m args below meth c cells' slots' Q D cl A nL (gmix ws is (wf u)) lv (pc + 3) rest) : gW p l e R s m args below meth c cells slots Q D cl A nL ws lv pc st0 := by
  intro H locs ls hP hD hS hl
  subst hst0
  subst hcc
  subst hss
  have hFc := va_free (wc := wc) hD hS F.2.2.2.2.2.2 is hC
  have hts := F.2.2.2.2.1
  refine va_callv (va_runS (As := As) (rest := rest) ⟨F.1, F.2.1, F.2.2.1, F.2.2.2.1, hts⟩ (hM H.size) ⟨callB_of n hts hG hw hrc hrs (hts _ hini) (hts _ hlk) hd hR, hts _ hstat⟩ ⟨gPre_blind, gPre_at (locs := locs) F hN hP hD is hC hnd⟩ rfl hn hl.1 rfl (lv_room hst) hdg hf) hS (fun q _ h => hFc q h) hFc (fun u t H1 locs1 ht hvm hpo hB hz1 hk1 hS1 => ?_)
  obtain ⟨hP1, hK1, hD1⟩ := hB
  rw [ht] at hP1
  have h1 := gmix_ok hP hD is hC hnd (hsame u) hk1 hP1
  exact k u hpo H1 locs1 ls h1.1 h1.2 hS1 hl
theorem g_callNv (F : gF p m c cc nL s args Ts own D cl tys A) {y : MethodName} {Tc Tc' : List Cond} {rmc : Room} {bytes : ByteArray} {maxLc mc ms n index : Nat} {retc : Option FieldType} {As st0 : List Value} {wc : va_W} {S : Type} {post : S → Prop} {wf : S → va_W} {host : String} (hM : ∀ sz : Nat, Met l y Tc rmc (gPre (As) D cl tys wc sz) (va_Qv post (gB D cl tys wf (va_A wc sz)) (va_A wc sz)) mc ms (va_A wc sz)) (hG : GoodIn Ts Tc) (hw : Tc = Cond.code y bytes maxLc retc :: Tc') (hrc : rmc.cells = mc) (hrs : rmc.slots = ms) (hini : Cond.initialized y.cls ∈ Ts) (hlk : va_Nw (.methodLinkNest own index y host) s) (hstat : Cond.static y ∈ Ts) (hd : y.cls ≠ "java/lang/invoke/MethodHandle" ∧ y.cls ≠ "java/lang/invoke/VarHandle" ∧ (parseMethodDescriptor y.desc).map (fun d => d.parameters.length) = some n) (hR : rmc.frames + 1 ≤ R.frames ∧ 8 + (maxLc + 11) + rmc.locals ≤ R.locals) (hf : cells + mc ≤ R.cells ∧ slots + ms ≤ R.slots) (hN : ∀ w ∈ gN, va_Nw w s) (is : List Nat) (hC : is.map (fun i => ws[i]?) = wc.map some) (hnd : va_nd is = true) (hsame : ∀ u, (wf u).map (·.1) = wc.map (·.1)) (hn : As.length = n) (hst : (rest.map fun v => v.category).sum ≤ 8) (hst0 : st0 = As.reverse ++ rest) (hdg : decode cc pc = .ok (.invokestatic index, 3)) {cells' slots' : Nat} (hcc : cells + mc = cells') (hss : slots + ms = slots') (k : ∀ u : S, post u → gW p l e R s m args below meth c cells' slots' Q D cl A nL (gmix ws is (wf u)) lv (pc + 3) rest) : gW p l e R s m args below meth c cells slots Q D cl A nL ws lv pc st0 := by
  intro H locs ls hP hD hS hl
  subst hst0
  subst hcc
  subst hss
  have hFc := va_free (wc := wc) hD hS F.2.2.2.2.2.2 is hC
  have hts := F.2.2.2.2.1
  refine va_callv (va_runSN (As := As) (rest := rest) ⟨F.1, F.2.1, F.2.2.1, F.2.2.2.1, hts⟩ (hM H.size) ⟨va_cnB n hts hG hw hrc hrs hlk (hts _ hini) hd hR, hts _ hstat, trivial⟩ ⟨gPre_blind, gPre_at (locs := locs) F hN hP hD is hC hnd⟩ rfl hn hl.1 rfl (lv_room hst) hdg hf) hS (fun q _ h => hFc q h) hFc (fun u t H1 locs1 ht hvm hpo hB hz1 hk1 hS1 => ?_)
  obtain ⟨hP1, hK1, hD1⟩ := hB
  rw [ht] at hP1
  have h1 := gmix_ok hP hD is hC hnd (hsame u) hk1 hP1
  exact k u hpo H1 locs1 ls h1.1 h1.2 hS1 hl
end GC
