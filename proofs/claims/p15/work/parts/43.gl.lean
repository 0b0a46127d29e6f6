/-- of two of the exceptions none is the other -/
def gNc : List (String × String) := [("java/lang/IndexOutOfBoundsException", "java/lang/IllegalArgumentException"), ("java/lang/IndexOutOfBoundsException", "java/lang/IllegalStateException"), ("java/lang/IndexOutOfBoundsException", "java/lang/UnsupportedOperationException"), ("java/lang/IllegalArgumentException", "java/lang/IndexOutOfBoundsException"), ("java/lang/IllegalArgumentException", "java/lang/IllegalStateException"), ("java/lang/IllegalArgumentException", "java/lang/UnsupportedOperationException"), ("java/lang/IllegalStateException", "java/lang/IndexOutOfBoundsException"), ("java/lang/IllegalStateException", "java/lang/IllegalArgumentException"), ("java/lang/IllegalStateException", "java/lang/UnsupportedOperationException"), ("java/lang/UnsupportedOperationException", "java/lang/IndexOutOfBoundsException"), ("java/lang/UnsupportedOperationException", "java/lang/IllegalArgumentException"), ("java/lang/UnsupportedOperationException", "java/lang/IllegalStateException")]
def gPreL (av : List Value) (D : va_G) (cl : List vw_C) (tys : List (ClassId × FieldType)) (ws : va_W) (sz : Nat) : Array Value → State → Prop := va_Pc av (fun U => U.heap.size = sz ∧ va_P D cl ws U.heap ∧ va_K D cl tys U ∧ va_D (fun _ => True) ws ∧ (∀ w ∈ gN, va_Nw w U) ∧ (∀ w ∈ gXw, va_Nw w U) ∧ gZ (va_A ws sz) U ∧ ∀ q ∈ gNc, va_Nc q.1 q.2 U)
theorem gPreL_blind {av : List Value} {D : va_G} {cl : List vw_C} {tys : List (ClassId × FieldType)} {ws : va_W} {sz : Nat} : FrameBlind (gPreL av D cl tys ws sz) := fun a U g mk q => by
  obtain ⟨q0, q1, qP, qK, qD, qN, qX, qZ, qC⟩ := q
  exact ⟨q0, q1, qP, va_K.moved (u := U) (U := U.calling g mk a) (Vm.Alike.refl U.vm) qK, qD, gN_call qN, gXw_call qX, gZ_call qZ, fun z hz => (qC z hz).moved (u := U) (U := U.calling g mk a) (Vm.Alike.refl U.vm)⟩
def gCatch (c : Code) (own : String) (args : Array Value) (s : State) (pc : Nat) (E : String) (h : Nat) : Prop := ∃ (pre : List ExceptionTableEntry) (x : ExceptionTableEntry) (suf : List ExceptionTableEntry) (name : String), c.exceptionTable.toList = pre ++ x :: suf ∧ (∀ z ∈ pre, covers z pc = false ∨ (z.catchType ≠ 0 ∧ ∃ nm : String, (Cond.classLink own z.catchType nm).before args s = true ∧ va_Nc E nm s)) ∧ covers x pc = true ∧ x.catchType ≠ 0 ∧ (Cond.classLink own x.catchType name).before args s = true ∧ (Cond.castable E name).before args s = true ∧ x.handlerPc = h
theorem g_metL {l : Launch} {y : MethodName} {Ts Ts' : List Cond} {rm : Room} {cc : ByteArray} {maxL : Nat} {ret : Option FieldType} {hh : List (Nat × Nat × Nat × Nat)} {av : List Value} {D : va_G} {cl : List vw_C} {tys : List (ClassId × FieldType)} {ws : va_W} {mc ms : Nat} (QQ : (Nat → Prop) → Array Value → State → Outcome → State → Prop) (hy : plainName y.cls = true) (hw : Ts = Cond.codeWith y cc maxL ret hh :: Ts') (hlen : (lg_sl av).length ≤ maxL)
    (body : ∀ (p : Program) (e : Env) (s : State) (m : MethodId) (args : Array Value) (below : List Frame) (meth : Method) (c : Code) (A : Nat → Prop) (Q : State → Prop), gF p m c cc maxL s args Ts y.cls D cl tys A → meth.locks = false → meth.sig.returnType = ret → meth.name = y.name → (∀ w ∈ gN, va_Nw w s) → (∀ w ∈ gXw, va_Nw w s) → gZ A s → (∀ q ∈ gNc, va_Nc q.1 q.2 s) → c.exceptionTable.toList = tableOf hh → Q = MQ below (QQ A) args s mc ms A → gW p l e rm s m args below meth c 0 0 Q D cl A maxL ws (lv_args 0 av) 0 [])
    (sz : Nat) : Met l y Ts rm (gPreL av D cl tys ws sz) (QQ (va_A ws sz)) mc ms (va_A ws sz) := by
  refine va_MetW (cc := cc) (maxL := maxL) (ret := ret) (hh := hh) hy hw ?_
  intro p e s m args below meth c s₁ B hml hv
  obtain ⟨rfl, hsz, hP, hK, hD0, hN, hX, hZ, hC⟩ := hv
  subst hsz
  have hD := hD0.self (sz := s.heap.size)
  generalize hAe : va_A ws s.heap.size = A at hD hZ ⊢
  have hA : ∀ q : Nat, s.heap.size ≤ q → A q := fun q h => by rw [← hAe]; exact Or.inr h
  have hl := lv_entry av (n := maxL) hlen
  have hts := atoms_spec (ws := Ts) B.pre
  have htab : c.exceptionTable.toList = tableOf hh := vx_table (x := y) B (hts _ (by rw [hw]; exact List.mem_cons_self))
  rw [lg_entry_eq]
  exact body p e s m av.toArray below meth c A _ ⟨B.exec, B.bytes, hml, findClass_of_methodNamed B.named, hts, hK, hA⟩ B.notSynchronized B.returns (name_of_methodNamed B.named B.method).1 hN hX hZ hC htab rfl s.heap [] _ hP hD va_S.rf hl
section GL
variable {p : Program} {l : Launch} {e : Env} {R : Room} {s : State} {m : MethodId} {args : Array Value} {below : List Frame} {meth : Method} {c : Code} {cells slots : Nat} {Q : State → Prop} {D : va_G} {cl : List vw_C} {A : Nat → Prop} {nL : Nat} {ws : va_W} {lv : List (Nat × Value)} {pc : Nat} {rest : List Value}
variable {cc : ByteArray} {Ts : List Cond} {own : String} {tys : List (ClassId × FieldType)}
theorem gPreL_at {H : Heap} {locs : List Loc} {av : List Value} {wc : va_W} (F : gF p m c cc nL s args Ts own D cl tys A) (hN : ∀ w ∈ gN, va_Nw w s) (hX : ∀ w ∈ gXw, va_Nw w s) (hZ : gZ A s) (hC0 : ∀ q ∈ gNc, va_Nc q.1 q.2 s) (hP : va_P D cl ws H) (hD : va_D A ws) (hS : va_S A s.heap H locs) (is : List Nat) (hC : is.map (fun i => ws[i]?) = wc.map some) (hn : va_nd is = true) : ∀ U : State, U.heap = H → s.WarmedH U.vm → gPreL av D cl tys wc H.size av.toArray U :=
  fun U hU hW => ⟨rfl, by rw [hU], by rw [hU]; exact hP.sub is (gfm hC), va_K.moved hW.alike F.2.2.2.2.2.1, (hD.sub is hn hC).weaken (fun _ _ _ _ => trivial), gN_warm hW hN, gXw_warm hW hX, gZ_at hZ hS (va_free hD hS F.2.2.2.2.2.2 is hC) hU hW, fun z hz => (hC0 z hz).moved hW.alike⟩
theorem g_catchV (F : gF p m c cc nL s args Ts own D cl tys A) {y : MethodName} {Tc Tc' : List Cond} {rmc : Room} {bytes : ByteArray} {maxLc mc1 ms1 n index : Nat} {retc : Option FieldType} {As st0 : List Value} {wc : va_W} {S1 : Type} {post1 : Int32 → S1 → Prop} {px1 : S1 → Prop} {wf1 : S1 → va_W} {ex1 : String} {b : Nat} {C : String} (hM : ∀ sz : Nat, vx_Met l y Tc rmc (gPreX (.ref b :: As) D cl tys wc sz) (va_Qi post1 (gB D cl tys wf1 (va_A wc sz)) (va_A wc sz)) (vx_X px1 (gBX D cl tys wf1 ex1 (va_A wc sz)) (va_A wc sz)) mc1 ms1 (va_A wc sz)) (hG : GoodIn Ts Tc) (hw : Tc = Cond.code y bytes maxLc retc :: Tc') (hrc : rmc.cells = mc1) (hrs : rmc.slots = ms1) (hini : Cond.initialized y.cls ∈ Ts) (hlk : Cond.methodLink own index y ∈ Ts) (hin : Cond.instanceMethod y ∈ Ts) (hsel : Cond.selects C y y ∈ Ts) (hd : y.cls ≠ "java/lang/invoke/MethodHandle" ∧ y.cls ≠ "java/lang/invoke/VarHandle" ∧ (parseMethodDescriptor y.desc).map (fun d => d.parameters.length) = some n) (hR : rmc.frames + 1 ≤ R.frames ∧ 8 + (maxLc + 11) + rmc.locals ≤ R.locals) (hf : cells + mc1 ≤ R.cells ∧ slots + ms1 ≤ R.slots) (hN : ∀ w ∈ gN, va_Nw w s) (hX : ∀ w ∈ gXw, va_Nw w s) (hZ : gZ A s) (q0 : Nat) {ci : Nat} {q : vw_C} {fs : List Value} (hrv : ws[q0]? = some (b, .inr (ci, fs))) (hcl : cl[ci]? = some q) (hq : q.1 = C) (is : List Nat) (hC : is.map (fun i => ws[i]?) = wc.map some) (hnd : va_nd is = true) (hsame : ∀ u, (wf1 u).map (·.1) = wc.map (·.1)) (hn : As.length = n) (hst : (rest.map fun v => v.category).sum ≤ 8) (hst0 : st0 = As.reverse ++ .ref b :: rest) (hdg : decode cc pc = .ok (.invokevirtual index, 3)) {cells' slots' : Nat} (hcc : cells + mc1 = cells') (hss : slots + ms1 = slots') (kx : ∀ u : S1, px1 u → ∃ h : Nat, gCatch c own args s pc ex1 h ∧ ∀ q9 : Nat, gW p l e R s m args below meth c cells' slots' Q D cl A nL (gmix ws is (wf1 u)) lv h [.ref q9]) (k : ∀ (r : Int32) (u : S1), post1 r u → gW p l e R s m args below meth c cells' slots' Q D cl A nL (gmix ws is (wf1 u)) lv (pc + 3) (.int r :: rest)) : gW p l e R s m args below meth c cells slots Q D cl A nL ws lv pc st0 := by
  intro H locs ls hP hD hS hl
  subst hst0
  subst hcc
  subst hss
  have hFc := va_free (wc := wc) hD hS F.2.2.2.2.2.2 is hC
  have hts := F.2.2.2.2.1
  subst hq
  refine vx_calli (vx_runV (As := As) (rest := rest) ⟨F.1, F.2.1, F.2.2.1, F.2.2.2.1, hts⟩ (hM H.size) ⟨callB_of n hts hG hw hrc hrs (hts _ hini) (hts _ hlk) hd hR, hts _ hin, hts _ hsel⟩ ⟨gPreX_blind, va_recv F.2.2.2.2.2.1 hP hcl hrv, gPreX_at F hN hX hZ hP hD hS is hC hnd⟩ rfl hn hl.1 rfl (lv_room hst) hdg hf) hS (fun q _ h => hFc q h) hFc (fun q _ h => hFc q h) (fun E ce q9 u t H1 locs1 ht hvm hpo hB hz1 hk1 hS1 hce hcv hcl => ?_) (fun r u t H1 locs1 ht hvm hpo hB hz1 hk1 hS1 => ?_)
  · obtain ⟨hE, hP1, hK1, hD1⟩ := hB
    subst hE
    rw [ht] at hP1
    have h1 := gmix_ok hP hD is hC hnd (hsame u) hk1 hP1
    obtain ⟨h, ⟨pre, x, suf, name, e1, e2, e3, e4, e5, e6, e7⟩, kk⟩ := kx u hpo
    subst e7
    exact vx_catch (own := own) (name := name) F.2.2.2.1 pre x suf e1 e2 e3 e4 e5 e6 hce hcv hcl (kk q9 H1 locs1 ls h1.1 h1.2 hS1 hl)
  · obtain ⟨hP1, hK1, hD1⟩ := hB
    rw [ht] at hP1
    have h1 := gmix_ok hP hD is hC hnd (hsame u) hk1 hP1
    exact k r u hpo H1 locs1 ls h1.1 h1.2 hS1 hl
theorem g_callSW (F : gF p m c cc nL s args Ts own D cl tys A) {y : MethodName} {Tc Tc' : List Cond} {rmc : Room} {bytes : ByteArray} {maxLc mc1 ms1 n index : Nat} {retc : Option FieldType} {As st0 : List Value} {wc : va_W} {S1 : Type} {post1 : Int32 → S1 → Prop} {wf1 : S1 → va_W} {hh : List (Nat × Nat × Nat × Nat)} (hM : ∀ sz : Nat, Met l y Tc rmc (gPreL As D cl tys wc sz) (va_Qi post1 (gB D cl tys wf1 (va_A wc sz)) (va_A wc sz)) mc1 ms1 (va_A wc sz)) (hG : GoodIn Ts Tc) (hini : Cond.initialized y.cls ∈ Ts) (hlk : Cond.methodLink own index y ∈ Ts) (hstat : Cond.static y ∈ Ts) (hw : Tc = Cond.codeWith y bytes maxLc retc hh :: Tc') (hrc : rmc.cells = mc1) (hrs : rmc.slots = ms1) (hd : y.cls ≠ "java/lang/invoke/MethodHandle" ∧ y.cls ≠ "java/lang/invoke/VarHandle" ∧ (parseMethodDescriptor y.desc).map (fun d => d.parameters.length) = some n) (hR : rmc.frames + 1 ≤ R.frames ∧ 8 + (maxLc + 11) + rmc.locals ≤ R.locals) (hf : cells + mc1 ≤ R.cells ∧ slots + ms1 ≤ R.slots) (hN : ∀ w ∈ gN, va_Nw w s) (hX : ∀ w ∈ gXw, va_Nw w s) (hZ : gZ A s) (hC0 : ∀ q ∈ gNc, va_Nc q.1 q.2 s) (is : List Nat) (hC : is.map (fun i => ws[i]?) = wc.map some) (hnd : va_nd is = true) (hsame : ∀ u, (wf1 u).map (·.1) = wc.map (·.1)) (hn : As.length = n) (hst : (rest.map fun v => v.category).sum ≤ 8) (hst0 : st0 = As.reverse ++ rest) (hdg : decode cc pc = .ok (.invokestatic index, 3)) {cells' slots' : Nat} (hcc : cells + mc1 = cells') (hss : slots + ms1 = slots') (k : ∀ (r : Int32) (u : S1), post1 r u → gW p l e R s m args below meth c cells' slots' Q D cl A nL (gmix ws is (wf1 u)) lv (pc + 3) (.int r :: rest)) : gW p l e R s m args below meth c cells slots Q D cl A nL ws lv pc st0 := by
  intro H locs ls hP hD hS hl
  subst hst0
  subst hcc
  subst hss
  have hFc := va_free (wc := wc) hD hS F.2.2.2.2.2.2 is hC
  have hts := F.2.2.2.2.1
  have hc : Cond.codeWith y bytes maxLc retc hh ∈ Tc := by rw [hw]; exact List.mem_cons_self
  have hcw : vx_CSW R s args own index y bytes maxLc retc hh Tc rmc mc1 ms1 n := ⟨⟨hrc, hrs, hR.1, hR.2, pay_in hts hG, hc⟩, hts _ (hG _ hc).1, hts _ hini, ⟨hd.1, hd.2.1⟩, fun sig h => (by
    have h2 := hd.2.2
    rw [h] at h2
    exact (Option.some.inj h2).symm), hts _ hlk, hts _ hstat⟩
  refine va_calli (vx_runSW (As := As) (rest := rest) ⟨F.1, F.2.1, F.2.2.1, F.2.2.2.1, hts⟩ (hM H.size) hcw ⟨gPreL_blind, gPreL_at F hN hX hZ hC0 hP hD hS is hC hnd⟩ rfl hn hl.1 rfl (lv_room hst) hdg hf) hS (fun q _ h => hFc q h) hFc (fun r u t H1 locs1 ht hvm hpo hB hz1 hk1 hS1 => ?_)
  obtain ⟨hP1, hK1, hD1⟩ := hB
  rw [ht] at hP1
  have h1 := gmix_ok hP hD is hC hnd (hsame u) hk1 hP1
  exact k r u hpo H1 locs1 ls h1.1 h1.2 hS1 hl
theorem g_sld (F : gF p m c cc nL s args Ts own D cl tys A) {b L : Nat} {xs : Nat → Int32} (hX : va_X b L xs s s.heap) (hbl : b < s.heap.size) (hbA : ¬ A b) {i : Int32} {j : Nat} (hi : i = Int32.ofNat j) (hj : j < L) (hL : L ≤ 100000) (hdg : decode cc pc = .ok (.iaload, 1)) (k : gW p l e R s m args below meth c cells slots Q D cl A nL ws lv (pc + 1) (.int (xs j) :: rest)) : gW p l e R s m args below meth c cells slots Q D cl A nL ws lv pc (.int i :: .ref b :: rest) := by
  intro H locs ls hP hD hS hl
  have e1 : i.toNatClampNeg = j := by
    subst hi
    rw [Int32.toNatClampNeg, Int32.toInt_ofNat_of_lt (by omega)]
    rfl
  have hin : vp_in i L := fun q => by
    rcases q with q | q
    · have := Int32.lt_iff_toInt_lt.mp q
      subst hi
      rw [Int32.toInt_ofNat_of_lt (by omega)] at this
      simp at this
      omega
    · omega
  refine va_sld F.1 F.2.1 hX hbl hbA hS hin hdg ?_
  rw [e1]
  exact k H locs ls hP hD hS hl
theorem g_slen (F : gF p m c cc nL s args Ts own D cl tys A) {b L : Nat} {xs : Nat → Int32} (hX : va_X b L xs s s.heap) (hbl : b < s.heap.size) (hbA : ¬ A b) (hdg : decode cc pc = .ok (.arraylength, 1)) (k : gW p l e R s m args below meth c cells slots Q D cl A nL ws lv (pc + 1) (.int (Int32.ofNat L) :: rest)) : gW p l e R s m args below meth c cells slots Q D cl A nL ws lv pc (.ref b :: rest) :=
  fun H locs ls hP hD hS hl => va_slen F.1 F.2.1 hX hbl hbA hS hdg (k H locs ls hP hD hS hl)

theorem g_catchP (F : gF p m c cc nL s args Ts own D cl tys A) {y : MethodName} {Tc Tc' : List Cond} {rmc : Room} {bytes : ByteArray} {maxLc mc1 ms1 n index : Nat} {retc : Option FieldType} {As st0 : List Value} {wc : va_W} {S1 : Type} {post1 : Int32 → S1 → Prop} {px1 : S1 → Prop} {wf1 : S1 → va_W} {ex1 : String} {b : Nat} {C : String} (hM : ∀ sz : Nat, vx_Met l y Tc rmc (gPreX (.ref b :: As) D cl tys wc sz) (va_Qi post1 (gB D cl tys wf1 (va_A wc sz)) (va_A wc sz)) (vx_X px1 (gBX D cl tys wf1 ex1 (va_A wc sz)) (va_A wc sz)) mc1 ms1 (va_A wc sz)) (hG : GoodIn Ts Tc) (hw : Tc = Cond.code y bytes maxLc retc :: Tc') (hrc : rmc.cells = mc1) (hrs : rmc.slots = ms1) (hini : Cond.initialized y.cls ∈ Ts) (hlk : Cond.methodLink own index y ∈ Ts) (hin : Cond.instanceMethod y ∈ Ts) (hsel : Cond.selects C y y ∈ Ts) (hd : y.cls ≠ "java/lang/invoke/MethodHandle" ∧ y.cls ≠ "java/lang/invoke/VarHandle" ∧ (parseMethodDescriptor y.desc).map (fun d => d.parameters.length) = some n) (hR : rmc.frames + 1 ≤ R.frames ∧ 8 + (maxLc + 11) + rmc.locals ≤ R.locals) (hf : cells + mc1 ≤ R.cells ∧ slots + ms1 ≤ R.slots) (hN : ∀ w ∈ gN, va_Nw w s) (hX : ∀ w ∈ gXw, va_Nw w s) (hZ : gZ A s) (q0 : Nat) {ci : Nat} {q : vw_C} {fs : List Value} (hrv : ws[q0]? = some (b, .inr (ci, fs))) (hcl : cl[ci]? = some q) (hq : q.1 = C) (wp wt : va_W) (hws : ws = wp ++ wc ++ wt) (hsame : ∀ u, (wf1 u).map (·.1) = wc.map (·.1)) (hn : As.length = n) (hst : (rest.map fun v => v.category).sum ≤ 8) (hst0 : st0 = As.reverse ++ .ref b :: rest) (hdg : decode cc pc = .ok (.invokevirtual index, 3)) {cells' slots' : Nat} (hcc : cells + mc1 = cells') (hss : slots + ms1 = slots') (kx : ∀ u : S1, px1 u → ∃ h : Nat, gCatch c own args s pc ex1 h ∧ ∀ q9 : Nat, gW p l e R s m args below meth c cells' slots' Q D cl A nL (wp ++ wf1 u ++ wt) lv h [.ref q9]) (k : ∀ (r : Int32) (u : S1), post1 r u → gW p l e R s m args below meth c cells' slots' Q D cl A nL (wp ++ wf1 u ++ wt) lv (pc + 3) (.int r :: rest)) : gW p l e R s m args below meth c cells slots Q D cl A nL ws lv pc st0 := by
  subst hws
  have e : ∀ u, gmix (wp ++ wc ++ wt) (List.range' wp.length wc.length) (wf1 u) = wp ++ wf1 u ++ wt := fun u => gmix_pr wc (wf1 u) wp wt (len_ad (hsame u))
  exact g_catchV F hM hG hw hrc hrs hini hlk hin hsel hd hR hf hN hX hZ q0 hrv hcl hq (List.range' wp.length wc.length) (pr_C wc wp wt) (va_nd_range _ _) hsame hn hst hst0 hdg hcc hss (fun u hp => by rw [e u]; exact kx u hp) (fun r u hp => by rw [e u]; exact k r u hp)
theorem g_callSWP (F : gF p m c cc nL s args Ts own D cl tys A) {y : MethodName} {Tc Tc' : List Cond} {rmc : Room} {bytes : ByteArray} {maxLc mc1 ms1 n index : Nat} {retc : Option FieldType} {As st0 : List Value} {wc : va_W} {S1 : Type} {post1 : Int32 → S1 → Prop} {wf1 : S1 → va_W} {hh : List (Nat × Nat × Nat × Nat)} (hM : ∀ sz : Nat, Met l y Tc rmc (gPreL As D cl tys wc sz) (va_Qi post1 (gB D cl tys wf1 (va_A wc sz)) (va_A wc sz)) mc1 ms1 (va_A wc sz)) (hG : GoodIn Ts Tc) (hini : Cond.initialized y.cls ∈ Ts) (hlk : Cond.methodLink own index y ∈ Ts) (hstat : Cond.static y ∈ Ts) (hw : Tc = Cond.codeWith y bytes maxLc retc hh :: Tc') (hrc : rmc.cells = mc1) (hrs : rmc.slots = ms1) (hd : y.cls ≠ "java/lang/invoke/MethodHandle" ∧ y.cls ≠ "java/lang/invoke/VarHandle" ∧ (parseMethodDescriptor y.desc).map (fun d => d.parameters.length) = some n) (hR : rmc.frames + 1 ≤ R.frames ∧ 8 + (maxLc + 11) + rmc.locals ≤ R.locals) (hf : cells + mc1 ≤ R.cells ∧ slots + ms1 ≤ R.slots) (hN : ∀ w ∈ gN, va_Nw w s) (hX : ∀ w ∈ gXw, va_Nw w s) (hZ : gZ A s) (hC0 : ∀ q ∈ gNc, va_Nc q.1 q.2 s) (wp wt : va_W) (hws : ws = wp ++ wc ++ wt) (hsame : ∀ u, (wf1 u).map (·.1) = wc.map (·.1)) (hn : As.length = n) (hst : (rest.map fun v => v.category).sum ≤ 8) (hst0 : st0 = As.reverse ++ rest) (hdg : decode cc pc = .ok (.invokestatic index, 3)) {cells' slots' : Nat} (hcc : cells + mc1 = cells') (hss : slots + ms1 = slots') (k : ∀ (r : Int32) (u : S1), post1 r u → gW p l e R s m args below meth c cells' slots' Q D cl A nL (wp ++ wf1 u ++ wt) lv (pc + 3) (.int r :: rest)) : gW p l e R s m args below meth c cells slots Q D cl A nL ws lv pc st0 := by
  subst hws
  have e : ∀ u, gmix (wp ++ wc ++ wt) (List.range' wp.length wc.length) (wf1 u) = wp ++ wf1 u ++ wt := fun u => gmix_pr wc (wf1 u) wp wt (len_ad (hsame u))
  exact g_callSW F hM hG hini hlk hstat hw hrc hrs hd hR hf hN hX hZ hC0 (List.range' wp.length wc.length) (pr_C wc wp wt) (va_nd_range _ _) hsame hn hst hst0 hdg hcc hss (fun r u hp => by rw [e u]; exact k r u hp)
end GL
