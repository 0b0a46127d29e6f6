/-- words on the exceptions that the tables tell, but that are not carried by a list of words -/
def gXw : List Cond := [.castable "java/lang/IndexOutOfBoundsException" "java/lang/IndexOutOfBoundsException", .castable "java/lang/IllegalArgumentException" "java/lang/IllegalArgumentException", .castable "java/lang/IllegalStateException" "java/lang/IllegalStateException", .castable "java/lang/UnsupportedOperationException" "java/lang/UnsupportedOperationException", .declares ⟨"java/lang/RuntimeException", "<init>", "()V"⟩, .declares ⟨"java/lang/Exception", "<init>", "()V"⟩, .declares ⟨"java/lang/Throwable", "<init>", "()V"⟩]
theorem gXw_warm {s U : State} (hW : s.WarmedH U.vm) (h : ∀ w ∈ gXw, va_Nw w s) : ∀ w ∈ gXw, va_Nw w U := by
  intro w hw
  have h0 := h w hw
  simp only [gXw, List.mem_cons, List.not_mem_nil, or_false] at hw
  rcases hw with rfl | rfl | rfl | rfl | rfl | rfl | rfl <;> first | exact va_Nw.warmD hW h0 | exact va_Nw.warmC hW h0
theorem gXw_call {U : State} {g : JFrame} {mk : MethodId} {a : Array Value} (h : ∀ w ∈ gXw, va_Nw w U) : ∀ w ∈ gXw, va_Nw w (U.calling g mk a) := by
  intro w hw
  have h0 := h w hw
  simp only [gXw, List.mem_cons, List.not_mem_nil, or_false] at hw
  rcases hw with rfl | rfl | rfl | rfl | rfl | rfl | rfl <;> exact va_Nw.same rfl rfl h0
def exn : Nat → String
  | 1 => "java/lang/IndexOutOfBoundsException"
  | 2 => "java/lang/IllegalArgumentException"
  | 3 => "java/lang/IllegalStateException"
  | _ => "java/lang/UnsupportedOperationException"
/-- Throwable's two statics, outside of what may be written -/
def gZ (A : Nat → Prop) (U : State) : Prop := vx_Zq Bundle.tN "UNASSIGNED_STACK" Bundle.steD A U U.heap ∧ vx_Zq Bundle.tN "SUPPRESSED_SENTINEL" Bundle.listD A U U.heap
theorem gZ_at {A B : Nat → Prop} {s U : State} {H : Heap} {locs : List Loc} (hZ : gZ A s) (hS : va_S A s.heap H locs) (hF : ∀ q, B q → A q) (hU : U.heap = H) (hW : s.WarmedH U.vm) : gZ B U := by
  unfold gZ
  rw [hU]
  exact ⟨((hZ.1.kept hS.2.1).narrow hF).moved hW.alike, ((hZ.2.kept hS.2.1).narrow hF).moved hW.alike⟩
theorem gZ_call {A : Nat → Prop} {U : State} {g : JFrame} {mk : MethodId} {a : Array Value} (h : gZ A U) : gZ A (U.calling g mk a) :=
  ⟨h.1.moved (u := U) (U := U.calling g mk a) (Vm.Alike.refl U.vm), h.2.moved (u := U) (U := U.calling g mk a) (Vm.Alike.refl U.vm)⟩
def gPreX (av : List Value) (D : va_G) (cl : List vw_C) (tys : List (ClassId × FieldType)) (ws : va_W) (sz : Nat) : Array Value → State → Prop := va_Pc av (fun U => U.heap.size = sz ∧ va_P D cl ws U.heap ∧ va_K D cl tys U ∧ va_D (fun _ => True) ws ∧ (∀ w ∈ gN, va_Nw w U) ∧ (∀ w ∈ gXw, va_Nw w U) ∧ gZ (va_A ws sz) U)
theorem gPreX_blind {av : List Value} {D : va_G} {cl : List vw_C} {tys : List (ClassId × FieldType)} {ws : va_W} {sz : Nat} : FrameBlind (gPreX av D cl tys ws sz) := fun a U g mk q => by
  obtain ⟨q0, q1, qP, qK, qD, qN, qX, qZ⟩ := q
  exact ⟨q0, q1, qP, va_K.moved (u := U) (U := U.calling g mk a) (Vm.Alike.refl U.vm) qK, qD, gN_call qN, gXw_call qX, gZ_call qZ⟩
def gBX {S : Type} (D : va_G) (cl : List vw_C) (tys : List (ClassId × FieldType)) (wf : S → va_W) (ex : String) (A : Nat → Prop) : String → S → State → Prop := fun E u t => E = ex ∧ gB D cl tys wf A u t
theorem g_metX {l : Launch} {y : MethodName} {Ts Ts' : List Cond} {rm : Room} {cc : ByteArray} {maxL : Nat} {ret : Option FieldType} {av : List Value} {D : va_G} {cl : List vw_C} {tys : List (ClassId × FieldType)} {ws : va_W} {mc ms : Nat} (QQ : (Nat → Prop) → Array Value → State → Outcome → State → Prop) (XX : (Nat → Prop) → String → State → State → Prop) (hy : plainName y.cls = true) (hw : Ts = Cond.code y cc maxL ret :: Ts') (hlen : (lg_sl av).length ≤ maxL)
    (body : ∀ (p : Program) (e : Env) (s : State) (m : MethodId) (args : Array Value) (below : List Frame) (meth : Method) (c : Code) (A : Nat → Prop) (Q : State → Prop), gF p m c cc maxL s args Ts y.cls D cl tys A → meth.locks = false → meth.sig.returnType = ret → meth.name = y.name → (∀ w ∈ gN, va_Nw w s) → (∀ w ∈ gXw, va_Nw w s) → gZ A s → (∀ x ∈ c.exceptionTable.toList, False) → Q = vx_MQ below (QQ A) (XX A) args s mc ms A → gW p l e rm s m args below meth c 0 0 Q D cl A maxL ws (lv_args 0 av) 0 [])
    (sz : Nat) : vx_Met l y Ts rm (gPreX av D cl tys ws sz) (QQ (va_A ws sz)) (XX (va_A ws sz)) mc ms (va_A ws sz) := by
  refine vx_ofW (cc := cc) (maxL := maxL) (ret := ret) hy hw ?_
  intro p e s m args below meth c s₁ B hml hne hv
  obtain ⟨rfl, hsz, hP, hK, hD0, hN, hX, hZ⟩ := hv
  subst hsz
  have hD := hD0.self (sz := s.heap.size)
  generalize hAe : va_A ws s.heap.size = A at hD hZ ⊢
  have hA : ∀ q : Nat, s.heap.size ≤ q → A q := fun q h => by rw [← hAe]; exact Or.inr h
  have hl := lv_entry av (n := maxL) hlen
  rw [lg_entry_eq]
  exact body p e s m av.toArray below meth c A _ ⟨B.exec, B.bytes, hml, findClass_of_methodNamed B.named, atoms_spec (ws := Ts) B.pre, hK, hA⟩ B.notSynchronized B.returns (name_of_methodNamed B.named B.method).1 hN hX hZ hne rfl s.heap [] _ hP hD va_S.rf hl
section GX
variable {p : Program} {l : Launch} {e : Env} {R : Room} {s : State} {m : MethodId} {args : Array Value} {below : List Frame} {meth : Method} {c : Code} {cells slots : Nat} {Q : State → Prop} {D : va_G} {cl : List vw_C} {A : Nat → Prop} {nL : Nat} {ws : va_W} {lv : List (Nat × Value)} {pc : Nat} {rest : List Value}
variable {cc : ByteArray} {Ts : List Cond} {own : String} {tys : List (ClassId × FieldType)}
theorem g_iretX (F : gF p m c cc nL s args Ts own D cl tys A) {S : Type} {post : Int32 → S → Prop} {wf : S → va_W} {XC : String → State → State → Prop} {mc ms : Nat} (hQ : Q = vx_MQ below (va_Qi post (gB D cl tys wf A) A) XC args s mc ms A) (hlocks : meth.locks = false) (hr : meth.sig.returnType = some .int) {v : Int32} (hc : cells ≤ mc) (hs : slots ≤ ms) (u : S) (hw : wf u = ws) (hp : post v u) (hdg : decode cc pc = .ok (.ireturn, 1)) : gW p l e R s m args below meth c cells slots Q D cl A nL ws lv pc [.int v] := by
  subst hQ
  subst hw
  exact fun H locs ls hP hD hS hl => vx_ret (W.widen hc hs (W.iret (v := v) F.1 F.2.1 hr (fun t ht hW => ⟨⟨v, u, rfl, hp, by rw [ht]; exact hP, va_K.moved hW.alike F.2.2.2.2.2.1, hD⟩, hS.F ht⟩) hS.2.2 hdg hlocks))
theorem g_vretX (F : gF p m c cc nL s args Ts own D cl tys A) {S : Type} {post : S → Prop} {wf : S → va_W} {XC : String → State → State → Prop} {mc ms : Nat} (hQ : Q = vx_MQ below (va_Qv post (gB D cl tys wf A) A) XC args s mc ms A) (hlocks : meth.locks = false) (hr : meth.sig.returnType = none) (hc : cells ≤ mc) (hs : slots ≤ ms) (u : S) (hw : wf u = ws) (hp : post u) (hdg : decode cc pc = .ok (.return_, 1)) : gW p l e R s m args below meth c cells slots Q D cl A nL ws lv pc [] := by
  subst hQ
  subst hw
  exact fun H locs ls hP hD hS hl => vx_ret (W.widen hc hs (W.vret F.1 F.2.1 hr (fun t ht hW => ⟨⟨u, rfl, hp, by rw [ht]; exact hP, va_K.moved hW.alike F.2.2.2.2.2.1, hD⟩, hS.F ht⟩) hS.2.2 hdg hlocks))
theorem g_zretX (F : gF p m c cc nL s args Ts own D cl tys A) {S : Type} {post : Int32 → S → Prop} {wf : S → va_W} {XC : String → State → State → Prop} {mc ms : Nat} (hQ : Q = vx_MQ below (va_Qi post (gB D cl tys wf A) A) XC args s mc ms A) (hlocks : meth.locks = false) (hr : meth.sig.returnType = some .boolean) {v : Int32} (hn : narrow .boolean (.int v) = .int v) (hc : cells ≤ mc) (hs : slots ≤ ms) (u : S) (hw : wf u = ws) (hp : post v u) (hdg : decode cc pc = .ok (.ireturn, 1)) : gW p l e R s m args below meth c cells slots Q D cl A nL ws lv pc [.int v] := by
  subst hQ
  subst hw
  exact fun H locs ls hP hD hS hl => vx_ret (W.widen hc hs (W.zret (v := v) F.1 F.2.1 hr hn (fun t ht hW => ⟨⟨v, u, rfl, hp, by rw [ht]; exact hP, va_K.moved hW.alike F.2.2.2.2.2.1, hD⟩, hS.F ht⟩) hS.2.2 hdg hlocks))
theorem g_throw (F : gF p m c cc nL s args Ts own D cl tys A) {S : Type} {px : S → Prop} {wf : S → va_W} {ex : String} {Qc : Array Value → State → Outcome → State → Prop} {cls : String} {names : List String} {ik ic mc ms : Nat} (hQ : Q = vx_MQ below Qc (vx_X px (gBX D cl tys wf ex A) A) args s mc ms A) (hlt : l.stackTraces = false) (hlocks : meth.locks = false) (hne : ∀ x ∈ c.exceptionTable.toList, False) (hX : ∀ w ∈ gXw, va_Nw w s) (hZ : gZ A s) (hcls : Bundle.fit cls = true) (hnames : ∀ n ∈ names, Bundle.fit n = true) (hk : Cond.classLink own ik cls ∈ Ts) (hini : Cond.initialized cls ∈ Ts) (hgw : ∀ w ∈ (vx_at0 own ic cls names).filter goodWord, w ∈ Ts) (hng : ∀ w ∈ (vx_at0 own ic cls names).filter (fun w => !goodWord w), w ∈ gXw) (hgood : ∀ w ∈ Cond.classLink own ik cls :: Cond.initialized cls :: vx_at0 own ic cls names, vx_ot w = true)
    (d0 : decode cc pc = .ok (.new ik, 3)) (d3 : decode cc (pc + 3) = .ok (.dup, 1)) (d4 : decode cc (pc + 4) = .ok (.invokespecial ic, 3)) (d7 : decode cc (pc + 7) = .ok (.athrow, 1)) (hRf : names.length + 3 < R.frames) (hRl : (rest.map fun v => v.category).sum + (13 * (names.length + 1) + 42) ≤ R.locals) (hRc : cells + 1 ≤ R.cells) (hRs : slots + 6 ≤ R.slots) (hc : cells + 1 ≤ mc) (hs : slots + 6 ≤ ms) (hex : cls = ex) (u : S) (hw : wf u = ws) (hp : px u) :
    gW p l e R s m args below meth c cells slots Q D cl A nL ws lv pc rest := by
  subst hQ
  subst hw
  intro H locs ls hP hD hS hl
  have hts := F.2.2.2.2.1
  refine vx_throw0 F.1 F.2.1 hlt (names := names) F.2.2.2.1 hcls hnames (hts _ hk) (hts _ hini) (vx_hat (B := gXw) (fun w h => hts _ (hgw w h)) hng (fun w h => (hX w h).use (by simp only [gXw, List.mem_cons, List.not_mem_nil, or_false] at h; rcases h with rfl | rfl | rfl | rfl | rfl | rfl | rfl <;> rfl))) hgood hZ.1 hZ.2 hS (by rw [F.2.2.1]; exact hl.1) d0 d3 d4 d7 (fun x h => absurd (hne x h) id) hRf hRl hRc hRs hlocks ?_ hS.2.2 hc hs
  intro t hal hsz hq
  refine ⟨u, hp, ⟨hex, hP.kept (fun k q h => hq q.1 (hP k q h).lt), va_K.moved hal F.2.2.2.2.2.1, hD⟩, ⟨Nat.le_trans hS.1 hsz, fun q h1 h2 => ?_⟩⟩
  rw [hq q (Nat.lt_of_lt_of_le h1 hS.1)]
  exact hS.2.1 q h1 h2
theorem gPreX_at {H : Heap} {locs : List Loc} {av : List Value} {wc : va_W} (F : gF p m c cc nL s args Ts own D cl tys A) (hN : ∀ w ∈ gN, va_Nw w s) (hX : ∀ w ∈ gXw, va_Nw w s) (hZ : gZ A s) (hP : va_P D cl ws H) (hD : va_D A ws) (hS : va_S A s.heap H locs) (is : List Nat) (hC : is.map (fun i => ws[i]?) = wc.map some) (hn : va_nd is = true) : ∀ U : State, U.heap = H → s.WarmedH U.vm → gPreX av D cl tys wc H.size av.toArray U :=
  fun U hU hW => ⟨rfl, by rw [hU], by rw [hU]; exact hP.sub is (gfm hC), va_K.moved hW.alike F.2.2.2.2.2.1, (hD.sub is hn hC).weaken (fun _ _ _ _ => trivial), gN_warm hW hN, gXw_warm hW hX, gZ_at hZ hS (va_free hD hS F.2.2.2.2.2.2 is hC) hU hW⟩
theorem g_xcallVi (F : gF p m c cc nL s args Ts own D cl tys A) {y : MethodName} {Tc Tc' : List Cond} {rmc : Room} {bytes : ByteArray} {maxLc mc1 ms1 mc ms n index : Nat} {retc : Option FieldType} {As st0 : List Value} {wc : va_W} {S1 S : Type} {post1 : Int32 → S1 → Prop} {px1 : S1 → Prop} {wf1 : S1 → va_W} {ex1 ex : String} {px : S → Prop} {wf : S → va_W} {Qc : Array Value → State → Outcome → State → Prop} {b : Nat} {C : String} (hM : ∀ sz : Nat, vx_Met l y Tc rmc (gPreX (.ref b :: As) D cl tys wc sz) (va_Qi post1 (gB D cl tys wf1 (va_A wc sz)) (va_A wc sz)) (vx_X px1 (gBX D cl tys wf1 ex1 (va_A wc sz)) (va_A wc sz)) mc1 ms1 (va_A wc sz)) (hG : GoodIn Ts Tc) (hw : Tc = Cond.code y bytes maxLc retc :: Tc') (hrc : rmc.cells = mc1) (hrs : rmc.slots = ms1) (hini : Cond.initialized y.cls ∈ Ts) (hlk : Cond.methodLink own index y ∈ Ts) (hin : Cond.instanceMethod y ∈ Ts) (hsel : Cond.selects C y y ∈ Ts) (hd : y.cls ≠ "java/lang/invoke/MethodHandle" ∧ y.cls ≠ "java/lang/invoke/VarHandle" ∧ (parseMethodDescriptor y.desc).map (fun d => d.parameters.length) = some n) (hR : rmc.frames + 1 ≤ R.frames ∧ 8 + (maxLc + 11) + rmc.locals ≤ R.locals) (hf : cells + mc1 ≤ R.cells ∧ slots + ms1 ≤ R.slots) (hN : ∀ w ∈ gN, va_Nw w s) (hX : ∀ w ∈ gXw, va_Nw w s) (hZ : gZ A s) (hne : ∀ x ∈ c.exceptionTable.toList, False) (hlocks : meth.locks = false) (q0 : Nat) {ci : Nat} {q : vw_C} {fs : List Value} (hrv : ws[q0]? = some (b, .inr (ci, fs))) (hcl : cl[ci]? = some q) (hq : q.1 = C) (is : List Nat) (hC : is.map (fun i => ws[i]?) = wc.map some) (hnd : va_nd is = true) (hsame : ∀ u, (wf1 u).map (·.1) = wc.map (·.1)) (hn : As.length = n) (hst : (rest.map fun v => v.category).sum ≤ 8) (hst0 : st0 = As.reverse ++ .ref b :: rest) (hdg : decode cc pc = .ok (.invokevirtual index, 3)) (hQ : Q = (vx_MQ below Qc (vx_X px (gBX D cl tys wf ex A) A) args s mc ms A)) {cells' slots' : Nat} (hcc : cells + mc1 = cells') (hss : slots + ms1 = slots') (hc : cells' ≤ mc) (hs : slots' ≤ ms) (kx : ∀ u : S1, px1 u → ex1 = ex ∧ ∃ u2 : S, px u2 ∧ wf u2 = gmix ws is (wf1 u)) (k : ∀ (r : Int32) (u : S1), post1 r u → gW p l e R s m args below meth c cells' slots' Q D cl A nL (gmix ws is (wf1 u)) lv (pc + 3) (.int r :: rest)) : gW p l e R s m args below meth c cells slots Q D cl A nL ws lv pc st0 := by
  subst hQ
  intro H locs ls hP hD hS hl
  subst hst0
  subst hcc
  subst hss
  have hFc := va_free (wc := wc) hD hS F.2.2.2.2.2.2 is hC
  have hts := F.2.2.2.2.1
  subst hq
  refine vx_calli (vx_runV (As := As) (rest := rest) ⟨F.1, F.2.1, F.2.2.1, F.2.2.2.1, hts⟩ (hM H.size) ⟨callB_of n hts hG hw hrc hrs (hts _ hini) (hts _ hlk) hd hR, hts _ hin, hts _ hsel⟩ ⟨gPreX_blind, va_recv F.2.2.2.2.2.1 hP hcl hrv, gPreX_at F hN hX hZ hP hD hS is hC hnd⟩ rfl hn hl.1 rfl (lv_room hst) hdg hf) hS (fun q _ h => hFc q h) hFc (fun q _ h => hFc q h) (fun E ce q9 u t H1 locs1 ht hvm hpo hB hz1 hk1 hS1 hce hcv hcl => ?_) (fun r u t H1 locs1 ht hvm hpo hB hz1 hk1 hS1 => ?_)
  · obtain ⟨hE, hP1, hK1, hD1⟩ := hB
    rw [ht] at hP1
    have h1 := gmix_ok hP hD is hC hnd (hsame u) hk1 hP1
    obtain ⟨he, u2, hp2, hw2⟩ := kx u hpo
    refine vx_out (fun x h => absurd (hne x h) id) hlocks hce hcv hcl (fun t2 ht2 hal2 => ⟨u2, hp2, ⟨hE.trans he, ?_, va_K.moved hal2 F.2.2.2.2.2.1, ?_⟩, hS1.F ht2⟩) hS1.2.2 hc hs
    · rw [ht2, hw2]; exact h1.1
    · rw [hw2]; exact h1.2
  · obtain ⟨hP1, hK1, hD1⟩ := hB
    rw [ht] at hP1
    have h1 := gmix_ok hP hD is hC hnd (hsame u) hk1 hP1
    exact k r u hpo H1 locs1 ls h1.1 h1.2 hS1 hl
theorem g_xcallSi (F : gF p m c cc nL s args Ts own D cl tys A) {y : MethodName} {Tc Tc' : List Cond} {rmc : Room} {bytes : ByteArray} {maxLc mc1 ms1 mc ms n index : Nat} {retc : Option FieldType} {As st0 : List Value} {wc : va_W} {S1 S : Type} {post1 : Int32 → S1 → Prop} {px1 : S1 → Prop} {wf1 : S1 → va_W} {ex1 ex : String} {px : S → Prop} {wf : S → va_W} {Qc : Array Value → State → Outcome → State → Prop} (hM : ∀ sz : Nat, vx_Met l y Tc rmc (gPreX (As) D cl tys wc sz) (va_Qi post1 (gB D cl tys wf1 (va_A wc sz)) (va_A wc sz)) (vx_X px1 (gBX D cl tys wf1 ex1 (va_A wc sz)) (va_A wc sz)) mc1 ms1 (va_A wc sz)) (hG : GoodIn Ts Tc) (hw : Tc = Cond.code y bytes maxLc retc :: Tc') (hrc : rmc.cells = mc1) (hrs : rmc.slots = ms1) (hini : Cond.initialized y.cls ∈ Ts) (hlk : Cond.methodLink own index y ∈ Ts) (hstat : Cond.static y ∈ Ts) (hd : y.cls ≠ "java/lang/invoke/MethodHandle" ∧ y.cls ≠ "java/lang/invoke/VarHandle" ∧ (parseMethodDescriptor y.desc).map (fun d => d.parameters.length) = some n) (hR : rmc.frames + 1 ≤ R.frames ∧ 8 + (maxLc + 11) + rmc.locals ≤ R.locals) (hf : cells + mc1 ≤ R.cells ∧ slots + ms1 ≤ R.slots) (hN : ∀ w ∈ gN, va_Nw w s) (hX : ∀ w ∈ gXw, va_Nw w s) (hZ : gZ A s) (hne : ∀ x ∈ c.exceptionTable.toList, False) (hlocks : meth.locks = false) (is : List Nat) (hC : is.map (fun i => ws[i]?) = wc.map some) (hnd : va_nd is = true) (hsame : ∀ u, (wf1 u).map (·.1) = wc.map (·.1)) (hn : As.length = n) (hst : (rest.map fun v => v.category).sum ≤ 8) (hst0 : st0 = As.reverse ++ rest) (hdg : decode cc pc = .ok (.invokestatic index, 3)) (hQ : Q = (vx_MQ below Qc (vx_X px (gBX D cl tys wf ex A) A) args s mc ms A)) {cells' slots' : Nat} (hcc : cells + mc1 = cells') (hss : slots + ms1 = slots') (hc : cells' ≤ mc) (hs : slots' ≤ ms) (kx : ∀ u : S1, px1 u → ex1 = ex ∧ ∃ u2 : S, px u2 ∧ wf u2 = gmix ws is (wf1 u)) (k : ∀ (r : Int32) (u : S1), post1 r u → gW p l e R s m args below meth c cells' slots' Q D cl A nL (gmix ws is (wf1 u)) lv (pc + 3) (.int r :: rest)) : gW p l e R s m args below meth c cells slots Q D cl A nL ws lv pc st0 := by
  subst hQ
  intro H locs ls hP hD hS hl
  subst hst0
  subst hcc
  subst hss
  have hFc := va_free (wc := wc) hD hS F.2.2.2.2.2.2 is hC
  have hts := F.2.2.2.2.1
  refine vx_calli (vx_runS (As := As) (rest := rest) ⟨F.1, F.2.1, F.2.2.1, F.2.2.2.1, hts⟩ (hM H.size) ⟨callB_of n hts hG hw hrc hrs (hts _ hini) (hts _ hlk) hd hR, hts _ hstat⟩ ⟨gPreX_blind, gPreX_at F hN hX hZ hP hD hS is hC hnd⟩ rfl hn hl.1 rfl (lv_room hst) hdg hf) hS (fun q _ h => hFc q h) hFc (fun q _ h => hFc q h) (fun E ce q9 u t H1 locs1 ht hvm hpo hB hz1 hk1 hS1 hce hcv hcl => ?_) (fun r u t H1 locs1 ht hvm hpo hB hz1 hk1 hS1 => ?_)
  · obtain ⟨hE, hP1, hK1, hD1⟩ := hB
    rw [ht] at hP1
    have h1 := gmix_ok hP hD is hC hnd (hsame u) hk1 hP1
    obtain ⟨he, u2, hp2, hw2⟩ := kx u hpo
    refine vx_out (fun x h => absurd (hne x h) id) hlocks hce hcv hcl (fun t2 ht2 hal2 => ⟨u2, hp2, ⟨hE.trans he, ?_, va_K.moved hal2 F.2.2.2.2.2.1, ?_⟩, hS1.F ht2⟩) hS1.2.2 hc hs
    · rw [ht2, hw2]; exact h1.1
    · rw [hw2]; exact h1.2
  · obtain ⟨hP1, hK1, hD1⟩ := hB
    rw [ht] at hP1
    have h1 := gmix_ok hP hD is hC hnd (hsame u) hk1 hP1
    exact k r u hpo H1 locs1 ls h1.1 h1.2 hS1 hl
theorem g_xcallVv (F : gF p m c cc nL s args Ts own D cl tys A) {y : MethodName} {Tc Tc' : List Cond} {rmc : Room} {bytes : ByteArray} {maxLc mc1 ms1 mc ms n index : Nat} {retc : Option FieldType} {As st0 : List Value} {wc : va_W} {S1 S : Type} {post1 : S1 → Prop} {px1 : S1 → Prop} {wf1 : S1 → va_W} {ex1 ex : String} {px : S → Prop} {wf : S → va_W} {Qc : Array Value → State → Outcome → State → Prop} {b : Nat} {C : String} (hM : ∀ sz : Nat, vx_Met l y Tc rmc (gPreX (.ref b :: As) D cl tys wc sz) (va_Qv post1 (gB D cl tys wf1 (va_A wc sz)) (va_A wc sz)) (vx_X px1 (gBX D cl tys wf1 ex1 (va_A wc sz)) (va_A wc sz)) mc1 ms1 (va_A wc sz)) (hG : GoodIn Ts Tc) (hw : Tc = Cond.code y bytes maxLc retc :: Tc') (hrc : rmc.cells = mc1) (hrs : rmc.slots = ms1) (hini : Cond.initialized y.cls ∈ Ts) (hlk : Cond.methodLink own index y ∈ Ts) (hin : Cond.instanceMethod y ∈ Ts) (hsel : Cond.selects C y y ∈ Ts) (hd : y.cls ≠ "java/lang/invoke/MethodHandle" ∧ y.cls ≠ "java/lang/invoke/VarHandle" ∧ (parseMethodDescriptor y.desc).map (fun d => d.parameters.length) = some n) (hR : rmc.frames + 1 ≤ R.frames ∧ 8 + (maxLc + 11) + rmc.locals ≤ R.locals) (hf : cells + mc1 ≤ R.cells ∧ slots + ms1 ≤ R.slots) (hN : ∀ w ∈ gN, va_Nw w s) (hX : ∀ w ∈ gXw, va_Nw w s) (hZ : gZ A s) (hne : ∀ x ∈ c.exceptionTable.toList, False) (hlocks : meth.locks = false) (q0 : Nat) {ci : Nat} {q : vw_C} {fs : List Value} (hrv : ws[q0]? = some (b, .inr (ci, fs))) (hcl : cl[ci]? = some q) (hq : q.1 = C) (is : List Nat) (hC : is.map (fun i => ws[i]?) = wc.map some) (hnd : va_nd is = true) (hsame : ∀ u, (wf1 u).map (·.1) = wc.map (·.1)) (hn : As.length = n) (hst : (rest.map fun v => v.category).sum ≤ 8) (hst0 : st0 = As.reverse ++ .ref b :: rest) (hdg : decode cc pc = .ok (.invokevirtual index, 3)) (hQ : Q = (vx_MQ below Qc (vx_X px (gBX D cl tys wf ex A) A) args s mc ms A)) {cells' slots' : Nat} (hcc : cells + mc1 = cells') (hss : slots + ms1 = slots') (hc : cells' ≤ mc) (hs : slots' ≤ ms) (kx : ∀ u : S1, px1 u → ex1 = ex ∧ ∃ u2 : S, px u2 ∧ wf u2 = gmix ws is (wf1 u)) (k : ∀ u : S1, post1 u → gW p l e R s m args below meth c cells' slots' Q D cl A nL (gmix ws is (wf1 u)) lv (pc + 3) rest) : gW p l e R s m args below meth c cells slots Q D cl A nL ws lv pc st0 := by
  subst hQ
  intro H locs ls hP hD hS hl
  subst hst0
  subst hcc
  subst hss
  have hFc := va_free (wc := wc) hD hS F.2.2.2.2.2.2 is hC
  have hts := F.2.2.2.2.1
  subst hq
  refine vx_callv (vx_runV (As := As) (rest := rest) ⟨F.1, F.2.1, F.2.2.1, F.2.2.2.1, hts⟩ (hM H.size) ⟨callB_of n hts hG hw hrc hrs (hts _ hini) (hts _ hlk) hd hR, hts _ hin, hts _ hsel⟩ ⟨gPreX_blind, va_recv F.2.2.2.2.2.1 hP hcl hrv, gPreX_at F hN hX hZ hP hD hS is hC hnd⟩ rfl hn hl.1 rfl (lv_room hst) hdg hf) hS (fun q _ h => hFc q h) hFc (fun q _ h => hFc q h) (fun E ce q9 u t H1 locs1 ht hvm hpo hB hz1 hk1 hS1 hce hcv hcl => ?_) (fun u t H1 locs1 ht hvm hpo hB hz1 hk1 hS1 => ?_)
  · obtain ⟨hE, hP1, hK1, hD1⟩ := hB
    rw [ht] at hP1
    have h1 := gmix_ok hP hD is hC hnd (hsame u) hk1 hP1
    obtain ⟨he, u2, hp2, hw2⟩ := kx u hpo
    refine vx_out (fun x h => absurd (hne x h) id) hlocks hce hcv hcl (fun t2 ht2 hal2 => ⟨u2, hp2, ⟨hE.trans he, ?_, va_K.moved hal2 F.2.2.2.2.2.1, ?_⟩, hS1.F ht2⟩) hS1.2.2 hc hs
    · rw [ht2, hw2]; exact h1.1
    · rw [hw2]; exact h1.2
  · obtain ⟨hP1, hK1, hD1⟩ := hB
    rw [ht] at hP1
    have h1 := gmix_ok hP hD is hC hnd (hsame u) hk1 hP1
    exact k u hpo H1 locs1 ls h1.1 h1.2 hS1 hl
theorem g_xcallSv (F : gF p m c cc nL s args Ts own D cl tys A) {y : MethodName} {Tc Tc' : List Cond} {rmc : Room} {bytes : ByteArray} {maxLc mc1 ms1 mc ms n index : Nat} {retc : Option FieldType} {As st0 : List Value} {wc : va_W} {S1 S : Type} {post1 : S1 → Prop} {px1 : S1 → Prop} {wf1 : S1 → va_W} {ex1 ex : String} {px : S → Prop} {wf : S → va_W} {Qc : Array Value → State → Outcome → State → Prop} (hM : ∀ sz : Nat, vx_Met l y Tc rmc (gPreX (As) D cl tys wc sz) (va_Qv post1 (gB D cl tys wf1 (va_A wc sz)) (va_A wc sz)) (vx_X px1 (gBX D cl tys wf1 ex1 (va_A wc sz)) (va_A wc sz)) mc1 ms1 (va_A wc sz)) (hG : GoodIn Ts Tc) (hw : Tc = Cond.code y bytes maxLc retc :: Tc') (hrc : rmc.cells = mc1) (hrs : rmc.slots = ms1) (hini : Cond.initialized y.cls ∈ Ts) (hlk : Cond.methodLink own index y ∈ Ts) (hstat : Cond.static y ∈ Ts) (hd : y.cls ≠ "java/lang/invoke/MethodHandle" ∧ y.cls ≠ "java/lang/invoke/VarHandle" ∧ (parseMethodDescriptor y.desc).map (fun d => d.parameters.length) = some n) (hR : rmc.frames + 1 ≤ R.frames ∧ 8 + (maxLc + 11) + rmc.locals ≤ R.locals) (hf : cells + mc1 ≤ R.cells ∧ slots + ms1 ≤ R.slots) (hN : ∀ w ∈ gN, va_Nw w s) (hX : ∀ w ∈ gXw, va_Nw w s) (hZ : gZ A s) (hne : ∀ x ∈ c.exceptionTable.toList, False) (hlocks : meth.locks = false) (is : List Nat) (hC : is.map (fun i => ws[i]?) = wc.map some) (hnd : va_nd is = true) (hsame : ∀ u, (wf1 u).map (·.1) = wc.map (·.1)) (hn : As.length = n) (hst : (rest.map fun v => v.category).sum ≤ 8) (hst0 : st0 = As.reverse ++ rest) (hdg : decode cc pc = .ok (.invokestatic index, 3)) (hQ : Q = (vx_MQ below Qc (vx_X px (gBX D cl tys wf ex A) A) args s mc ms A)) {cells' slots' : Nat} (hcc : cells + mc1 = cells') (hss : slots + ms1 = slots') (hc : cells' ≤ mc) (hs : slots' ≤ ms) (kx : ∀ u : S1, px1 u → ex1 = ex ∧ ∃ u2 : S, px u2 ∧ wf u2 = gmix ws is (wf1 u)) (k : ∀ u : S1, post1 u → gW p l e R s m args below meth c cells' slots' Q D cl A nL (gmix ws is (wf1 u)) lv (pc + 3) rest) : gW p l e R s m args below meth c cells slots Q D cl A nL ws lv pc st0 := by
  subst hQ
  intro H locs ls hP hD hS hl
  subst hst0
  subst hcc
  subst hss
  have hFc := va_free (wc := wc) hD hS F.2.2.2.2.2.2 is hC
  have hts := F.2.2.2.2.1
  refine vx_callv (vx_runS (As := As) (rest := rest) ⟨F.1, F.2.1, F.2.2.1, F.2.2.2.1, hts⟩ (hM H.size) ⟨callB_of n hts hG hw hrc hrs (hts _ hini) (hts _ hlk) hd hR, hts _ hstat⟩ ⟨gPreX_blind, gPreX_at F hN hX hZ hP hD hS is hC hnd⟩ rfl hn hl.1 rfl (lv_room hst) hdg hf) hS (fun q _ h => hFc q h) hFc (fun q _ h => hFc q h) (fun E ce q9 u t H1 locs1 ht hvm hpo hB hz1 hk1 hS1 hce hcv hcl => ?_) (fun u t H1 locs1 ht hvm hpo hB hz1 hk1 hS1 => ?_)
  · obtain ⟨hE, hP1, hK1, hD1⟩ := hB
    rw [ht] at hP1
    have h1 := gmix_ok hP hD is hC hnd (hsame u) hk1 hP1
    obtain ⟨he, u2, hp2, hw2⟩ := kx u hpo
    refine vx_out (fun x h => absurd (hne x h) id) hlocks hce hcv hcl (fun t2 ht2 hal2 => ⟨u2, hp2, ⟨hE.trans he, ?_, va_K.moved hal2 F.2.2.2.2.2.1, ?_⟩, hS1.F ht2⟩) hS1.2.2 hc hs
    · rw [ht2, hw2]; exact h1.1
    · rw [hw2]; exact h1.2
  · obtain ⟨hP1, hK1, hD1⟩ := hB
    rw [ht] at hP1
    have h1 := gmix_ok hP hD is hC hnd (hsame u) hk1 hP1
    exact k u hpo H1 locs1 ls h1.1 h1.2 hS1 hl
theorem vx_callr9 {S SX : Type} {post : S → Prop} {px : SX → Prop} {B : S → Nat → State → Prop} {BX : String → SX → State → Prop} {AX A0 A1 : Nat → Prop} {H0 H : Heap} {locs : List Loc} {ls : Array Slot} {st0 : List Value} {free : Addr → Prop} {a : Array Value} {mc ms : Nat} (hr : vx_Run p l e R s m args below meth c H locs cells slots mc ms (F0 m pc ls st0) rest (va_Qr post B A1 a) (vx_X px BX AX) free) (hS : va_S A0 H0 H locs) (hA : ∀ q, q < H.size → A1 q → A0 q) (hf : ∀ q, free q → A0 q) (hAX : ∀ q, q < H.size → AX q → A0 q)
    (kx : ∀ (E : String) (ce : Cell) (q9 : Addr) (u : SX) (t : State) (H1 : Heap) (locs1 : List Loc), t.heap = H1 → s.vm.Alike t.vm → px u → BX E u t → H.size ≤ H1.size → (∀ q : Nat, q < H.size → ¬ AX q → H1[q]? = H[q]?) → va_S A0 H0 H1 locs1 → H1[q9]? = some ce → ce.vm = .none → s.vm.findClass E = some ce.cls → vx_W p l e R s m args below meth c H1 locs1 (cells + mc) (slots + ms) Q (F0 m pc ls rest) q9)
    (kk : ∀ (u : S) (ra : Nat) (t : State) (H1 : Heap) (locs1 : List Loc), t.heap = H1 → s.vm.Alike t.vm → post u → B u ra t → H.size ≤ H1.size → (∀ q : Nat, q < H.size → ¬ A1 q → H1[q]? = H[q]?) → va_S A0 H0 H1 locs1 → W p l e R s m args below meth c H1 locs1 (cells + mc) (slots + ms) Q (F0 m (pc + 3) ls (.ref ra :: rest))) : W p l e R s m args below meth c H locs cells slots Q (F0 m pc ls st0) := by
  intro T hT X
  rcases hr T hT X with ⟨v, st₀, t, T', L, h0, X', hL, e1, e2, ⟨⟨u, ra, hv, hp, hb⟩, hF⟩, st⟩ | ⟨q, st₀, t, T', L, E, ce, h0, X', hL, e1, e2, ⟨u, hp, hb, hF⟩, hce, hcv, hcl, st⟩
  · cases hv
    obtain ⟨k1, k2, k3⟩ := vx_keep h0 e1 hS hA hf hL hF
    obtain ⟨t2, a1, b1⟩ := kk u ra t T'.heap (locs ++ L) e1.symm (by rw [← e2]; exact X'.warmed.alike) hp hb k1 k2 k3 T' rfl X'
    exact ⟨t2, st t2 a1, b1⟩
  · obtain ⟨k1, k2, k3⟩ := vx_keep h0 e1 hS hAX hf hL hF
    obtain ⟨t2, a1, b1⟩ := kx E ce q u t T'.heap (locs ++ L) e1.symm (by rw [← e2]; exact X'.warmed.alike) hp hb k1 k2 k3 (by rw [e1]; exact hce) hcv hcl T' rfl X'
    exact ⟨t2, st.trans a1, b1⟩
theorem g_aldq (F : gF p m c cc nL s args Ts own D cl tys A) (q0 t0 : Nat) {a : Nat} {cA : ClassId} {C : String} {n : Nat} {f : Nat → Option Nat} (ha : ws[q0]? = some (a, .inl (cA, n, .inr (.inr (.inr (.inr f)))))) (ht : tys[t0]? = some (cA, .object C)) {i : Int32} (hin : inR i n) {v : Value} (hv : va_rf (f i.toNatClampNeg) = v) (hdg : decode cc pc = .ok (.aaload, 1)) (k : gW p l e R s m args below meth c cells slots Q D cl A nL ws lv (pc + 1) (v :: rest)) : gW p l e R s m args below meth c cells slots Q D cl A nL ws lv pc (.int i :: .ref a :: rest) := by
  subst hv
  exact fun H locs ls hP hD hS hl => va_aldq F.1 F.2.1 F.2.2.2.2.2.1 hP q0 t0 ha ht hin hdg (k H locs ls hP hD hS hl)
theorem g_astq (F : gF p m c cc nL s args Ts own D cl tys A) (q0 t0 qk ci : Nat) {a : Nat} {cA : ClassId} {r : vw_C} {n v : Nat} {vs : List Value} {f : Nat → Option Nat} (ha : ws[q0]? = some (a, .inl (cA, n, .inr (.inr (.inr (.inr f)))))) (ht : tys[t0]? = some (cA, .object r.1)) (hv : ws[qk]? = some (v, .inr (ci, vs))) (hc : cl[ci]? = some r) {i : Int32} (hin : inR i n) (hdg : decode cc pc = .ok (.aastore, 1)) {ws' : va_W} (hw : ws.set q0 (a, .inl (cA, n, .inr (.inr (.inr (.inr (va_up f i.toNatClampNeg (some v))))))) = ws') (k : gW p l e R s m args below meth c cells slots Q D cl A nL ws' lv (pc + 1) rest) : gW p l e R s m args below meth c cells slots Q D cl A nL ws lv pc (.ref v :: .int i :: .ref a :: rest) := by
  subst hw
  exact fun H locs ls hP hD hS hl => va_astq F.1 F.2.1 F.2.2.2.2.2.1 hP hD hS q0 t0 qk ci ha ht hv hc hin hdg (fun H1 locs1 hP1 hD1 hS1 => k H1 locs1 ls hP1 hD1 hS1 hl)
theorem g_widen {k n : Nat} (h1 : cells ≤ k) (h2 : slots ≤ n) (kk : gW p l e R s m args below meth c k n Q D cl A nL ws lv pc rest) : gW p l e R s m args below meth c cells slots Q D cl A nL ws lv pc rest := fun H locs ls hP hD hS hl => W.widen h1 h2 (kk H locs ls hP hD hS hl)
theorem g_aretX (F : gF p m c cc nL s args Ts own D cl tys A) {S : Type} {post : S → Prop} {B : S → Nat → State → Prop} {XC : String → State → State → Prop} (hlocks : meth.locks = false) {nm : String} (hr : meth.sig.returnType = some (.object nm)) {v : Nat} {mc ms : Nat} (hc : cells ≤ mc) (hs : slots ≤ ms) (u : S) (hp : post u) (hB : ∀ t : State, va_P D cl ws t.heap → va_K D cl tys t → va_D A ws → B u v t) (hdg : decode cc pc = .ok (.areturn, 1)) (hQ : Q = vx_MQ below (va_Qr post B A) XC args s mc ms A) : gW p l e R s m args below meth c cells slots Q D cl A nL ws lv pc [.ref v] := by
  subst hQ
  exact fun H locs ls hP hD hS hl => vx_ret (W.widen hc hs (W.aret (v := .ref v) F.1 F.2.1 hr (Or.inl ⟨_, rfl⟩) (Or.inr ⟨_, rfl⟩) (fun t ht hW => ⟨⟨u, v, rfl, hp, hB t (by rw [ht]; exact hP) (va_K.moved hW.alike F.2.2.2.2.2.1) hD⟩, hS.F ht⟩) hS.2.2 hdg hlocks))
theorem g_tableIn (F : gF p m c cc nL s args Ts own D cl tys A) {dflt lo hi : Int} {offs : Array Int} {len : Nat} {x : Int32} {off : Int} {tgt : Nat} (hdg : decode cc pc = .ok (.tableswitch dflt lo hi offs, len)) (h1 : ¬ x.toInt < lo) (h2 : ¬ hi < x.toInt) (ho : offs[(x.toInt - lo).toNat]? = some off) (ht : (pc : Int) + off = (tgt : Int)) (k : gW p l e R s m args below meth c cells slots Q D cl A nL ws lv tgt rest) : gW p l e R s m args below meth c cells slots Q D cl A nL ws lv pc (.int x :: rest) := fun H locs ls hP hD hS hl => lv_tableIn F.1 F.2.1 hdg h1 h2 ho ht (k H locs ls hP hD hS hl)
theorem g_tableOut (F : gF p m c cc nL s args Ts own D cl tys A) {dflt lo hi : Int} {offs : Array Int} {len : Nat} {x : Int32} {tgt : Nat} (hdg : decode cc pc = .ok (.tableswitch dflt lo hi offs, len)) (h : x.toInt < lo ∨ hi < x.toInt) (ht : (pc : Int) + dflt = (tgt : Int)) (k : gW p l e R s m args below meth c cells slots Q D cl A nL ws lv tgt rest) : gW p l e R s m args below meth c cells slots Q D cl A nL ws lv pc (.int x :: rest) := fun H locs ls hP hD hS hl => lv_tableOut F.1 F.2.1 hdg h ht (k H locs ls hP hD hS hl)
end GX
