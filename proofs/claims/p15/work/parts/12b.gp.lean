section GP
variable {p : Program} {l : Launch} {e : Env} {R : Room} {s : State} {m : MethodId} {args : Array Value} {below : List Frame} {meth : Method} {c : Code} {cells slots : Nat} {Q : State → Prop} {D : va_G} {cl : List vw_C} {A : Nat → Prop} {nL : Nat} {ws : va_W} {lv : List (Nat × Value)} {pc : Nat} {rest : List Value}
variable {cc : ByteArray} {Ts : List Cond} {own : String} {tys : List (ClassId × FieldType)}
theorem va_nd_range : ∀ (n a : Nat), va_nd (List.range' a n) = true
  | 0, a => rfl
  | n + 1, a => by
    rw [List.range'_succ]
    show (decide (a ∉ List.range' (a + 1) n) && va_nd (List.range' (a + 1) n)) = true
    rw [va_nd_range n (a + 1), Bool.and_true, decide_eq_true_eq, List.mem_range'_1]
    omega
theorem pr_C : ∀ (wc wp wt : va_W), (List.range' wp.length wc.length).map (fun i => (wp ++ wc ++ wt)[i]?) = wc.map some
  | [], wp, wt => rfl
  | c :: wc, wp, wt => by
    have h := pr_C wc (wp ++ [c]) wt
    rw [List.length_append, List.length_singleton] at h
    show (List.range' wp.length (wc.length + 1)).map _ = _
    rw [List.range'_succ, List.map_cons, List.map_cons]
    congr 1
    · rw [List.append_assoc, List.getElem?_append_right (Nat.le_refl _), Nat.sub_self]
      rfl
    · rw [← h]
      apply List.map_congr_left
      intro i _
      rw [List.append_assoc, List.append_assoc, List.append_assoc]
      rfl
theorem gmix_pr : ∀ (wc w1 wp wt : va_W), w1.length = wc.length → gmix (wp ++ wc ++ wt) (List.range' wp.length wc.length) w1 = wp ++ w1 ++ wt
  | [], w1, wp, wt, h => by
    have : w1 = [] := List.length_eq_zero_iff.mp h
    subst this
    rfl
  | c :: wc, [], wp, wt, h => by simp at h
  | c :: wc, d :: w1, wp, wt, h => by
    have h2 := gmix_pr wc w1 (wp ++ [d]) wt (by simpa using h)
    rw [List.length_append, List.length_singleton] at h2
    show gmix (wp ++ (c :: wc) ++ wt) (List.range' wp.length (wc.length + 1)) (d :: w1) = _
    rw [List.range'_succ]
    show gmix ((wp ++ (c :: wc) ++ wt).set wp.length d) (List.range' (wp.length + 1) wc.length) w1 = _
    have e1 : (wp ++ (c :: wc) ++ wt).set wp.length d = wp ++ [d] ++ wc ++ wt := by
      rw [List.append_assoc, List.set_append_right _ _ (Nat.le_refl _), Nat.sub_self]
      simp
    rw [e1, h2]
    simp
theorem len_ad {wa wb : va_W} (h : wa.map (·.1) = wb.map (·.1)) : wa.length = wb.length := by
  have := congrArg List.length h
  simpa using this
theorem g_sub {ws' : va_W} (is : List Nat) (hC : is.map (fun i => ws[i]?) = ws'.map some) (hn : va_nd is = true) (k : gW p l e R s m args below meth c cells slots Q D cl A nL ws' lv pc rest) : gW p l e R s m args below meth c cells slots Q D cl A nL ws lv pc rest := fun H locs ls hP hD hS hl => k H locs ls (hP.sub is (gfm hC)) (hD.sub is hn hC) hS hl
theorem g_callPi (F : gF p m c cc nL s args Ts own D cl tys A) {y : MethodName} {Tc Tc' : List Cond} {rmc : Room} {bytes : ByteArray} {maxLc mc1 ms1 n index : Nat} {retc : Option FieldType} {As st0 : List Value} {wc : va_W} {S1 : Type} {post1 : Int32 → S1 → Prop} {wf1 : S1 → va_W} {b : Nat} {C : String} (hM : ∀ sz : Nat, Met l y Tc rmc (gPre (.ref b :: As) D cl tys wc sz) (va_Qi post1 (gB D cl tys wf1 (va_A wc sz)) (va_A wc sz)) mc1 ms1 (va_A wc sz)) (hG : GoodIn Ts Tc) (hw : Tc = Cond.code y bytes maxLc retc :: Tc') (hrc : rmc.cells = mc1) (hrs : rmc.slots = ms1) (hini : Cond.initialized y.cls ∈ Ts) (hlk : Cond.methodLink own index y ∈ Ts) (hin : Cond.instanceMethod y ∈ Ts) (hsel : Cond.selects C y y ∈ Ts) (hd : y.cls ≠ "java/lang/invoke/MethodHandle" ∧ y.cls ≠ "java/lang/invoke/VarHandle" ∧ (parseMethodDescriptor y.desc).map (fun d => d.parameters.length) = some n) (hR : rmc.frames + 1 ≤ R.frames ∧ 8 + (maxLc + 11) + rmc.locals ≤ R.locals) (hf : cells + mc1 ≤ R.cells ∧ slots + ms1 ≤ R.slots) (hN : ∀ w ∈ gN, va_Nw w s) (q0 : Nat) {ci : Nat} {q : vw_C} {fs : List Value} (hrv : ws[q0]? = some (b, .inr (ci, fs))) (hcl : cl[ci]? = some q) (hq : q.1 = C) (wp wt : va_W) (hws : ws = wp ++ wc ++ wt) (hsame : ∀ u, (wf1 u).map (·.1) = wc.map (·.1)) (hn : As.length = n) (hst : (rest.map fun v => v.category).sum ≤ 8) (hst0 : st0 = As.reverse ++ .ref b :: rest) (hdg : decode cc pc = .ok (.invokevirtual index, 3)) {cells' slots' : Nat} (hcc : cells + mc1 = cells') (hss : slots + ms1 = slots') (k : ∀ (r : Int32) (u : S1), post1 r u → gW p l e R s m args below meth c cells' slots' Q D cl A nL (wp ++ wf1 u ++ wt) lv (pc + 3) (.int r :: rest)) : gW p l e R s m args below meth c cells slots Q D cl A nL ws lv pc st0 := by
  subst hws
  have e : ∀ u, gmix (wp ++ wc ++ wt) (List.range' wp.length wc.length) (wf1 u) = wp ++ wf1 u ++ wt := fun u => gmix_pr wc (wf1 u) wp wt (len_ad (hsame u))
  exact g_callVi F hM hG hw hrc hrs hini hlk hin hsel hd hR hf hN q0 hrv hcl hq (List.range' wp.length wc.length) (pr_C wc wp wt) (va_nd_range _ _) hsame hn hst hst0 hdg hcc hss (fun r u hp => by rw [e u]; exact k r u hp)
theorem g_callPv (F : gF p m c cc nL s args Ts own D cl tys A) {y : MethodName} {Tc Tc' : List Cond} {rmc : Room} {bytes : ByteArray} {maxLc mc1 ms1 n index : Nat} {retc : Option FieldType} {As st0 : List Value} {wc : va_W} {S1 : Type} {post1 : S1 → Prop} {wf1 : S1 → va_W} {b : Nat} {C : String} (hM : ∀ sz : Nat, Met l y Tc rmc (gPre (.ref b :: As) D cl tys wc sz) (va_Qv post1 (gB D cl tys wf1 (va_A wc sz)) (va_A wc sz)) mc1 ms1 (va_A wc sz)) (hG : GoodIn Ts Tc) (hw : Tc = Cond.code y bytes maxLc retc :: Tc') (hrc : rmc.cells = mc1) (hrs : rmc.slots = ms1) (hini : Cond.initialized y.cls ∈ Ts) (hlk : Cond.methodLink own index y ∈ Ts) (hin : Cond.instanceMethod y ∈ Ts) (hsel : Cond.selects C y y ∈ Ts) (hd : y.cls ≠ "java/lang/invoke/MethodHandle" ∧ y.cls ≠ "java/lang/invoke/VarHandle" ∧ (parseMethodDescriptor y.desc).map (fun d => d.parameters.length) = some n) (hR : rmc.frames + 1 ≤ R.frames ∧ 8 + (maxLc + 11) + rmc.locals ≤ R.locals) (hf : cells + mc1 ≤ R.cells ∧ slots + ms1 ≤ R.slots) (hN : ∀ w ∈ gN, va_Nw w s) (q0 : Nat) {ci : Nat} {q : vw_C} {fs : List Value} (hrv : ws[q0]? = some (b, .inr (ci, fs))) (hcl : cl[ci]? = some q) (hq : q.1 = C) (wp wt : va_W) (hws : ws = wp ++ wc ++ wt) (hsame : ∀ u, (wf1 u).map (·.1) = wc.map (·.1)) (hn : As.length = n) (hst : (rest.map fun v => v.category).sum ≤ 8) (hst0 : st0 = As.reverse ++ .ref b :: rest) (hdg : decode cc pc = .ok (.invokevirtual index, 3)) {cells' slots' : Nat} (hcc : cells + mc1 = cells') (hss : slots + ms1 = slots') (k : ∀ u : S1, post1 u → gW p l e R s m args below meth c cells' slots' Q D cl A nL (wp ++ wf1 u ++ wt) lv (pc + 3) rest) : gW p l e R s m args below meth c cells slots Q D cl A nL ws lv pc st0 := by
  subst hws
  have e : ∀ u, gmix (wp ++ wc ++ wt) (List.range' wp.length wc.length) (wf1 u) = wp ++ wf1 u ++ wt := fun u => gmix_pr wc (wf1 u) wp wt (len_ad (hsame u))
  exact g_callVv F hM hG hw hrc hrs hini hlk hin hsel hd hR hf hN q0 hrv hcl hq (List.range' wp.length wc.length) (pr_C wc wp wt) (va_nd_range _ _) hsame hn hst hst0 hdg hcc hss (fun u hp => by rw [e u]; exact k u hp)
end GP
