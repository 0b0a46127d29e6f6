section GA
variable {p : Program} {l : Launch} {e : Env} {R : Room} {s : State} {m : MethodId} {args : Array Value} {below : List Frame} {meth : Method} {c : Code} {cells slots : Nat} {Q : State → Prop} {D : va_G} {cl : List vw_C} {A : Nat → Prop} {nL : Nat} {ws : va_W} {lv : List (Nat × Value)} {pc : Nat} {rest : List Value}
variable {cc : ByteArray} {Ts : List Cond} {own : String} {tys : List (ClassId × FieldType)}
theorem g_newi (F : gF p m c cc nL s args Ts own D cl tys A) {cA : ClassId} (t0 : Nat) (hT : tys[t0]? = some (cA, .int)) (harr : Cond.arrayClass .int ∈ Ts) {n : Int32} {N' : Nat} (hn : ¬ n < 0) (hN : n.toNatClampNeg = N') (hby : N' * componentBytes .int ≤ 536870912) (hc : cells + 1 ≤ R.cells) (hs : slots + N' ≤ R.slots) (hdg : decode cc pc = .ok (.newarray .int, 2)) {cells' slots' : Nat} (hcc : cells + 1 = cells') (hss : slots + N' = slots') (k : ∀ q : Nat, gW p l e R s m args below meth c cells' slots' Q D cl A nL (ws ++ [(q, .inl (cA, N', .inl (fun _ => 0)))]) lv (pc + 2) (.ref q :: rest)) : gW p l e R s m args below meth c cells slots Q D cl A nL ws lv pc (.int n :: rest) := by
  subst hcc
  subst hss
  intro H locs ls hP hD hS hl
  refine va_newa (atype := .int) (a0 := (N', .inl (fun _ => 0))) F.1 F.2.1 (F.2.2.2.2.1 _ harr) rfl F.2.2.2.2.2.1 hP hD hS F.2.2.2.2.2.2 (fun cB => rfl) hn hN hby hc hs hdg (fun q cB H1 hK1 hP1 hD1 hS1 => ?_)
  have h1 := (F.2.2.2.2.2.1.2 t0 _ hT).2
  have h2 := (hK1.2 tys.length (cB, .int) (by rw [List.getElem?_append_right (Nat.le_refl _), Nat.sub_self]; rfl)).2
  have h3 : cB = cA := Option.some.inj (h2.symm.trans h1)
  subst h3
  exact k q H1 locs ls hP1 hD1 hS1 hl
theorem g_newl (F : gF p m c cc nL s args Ts own D cl tys A) {cA : ClassId} (t0 : Nat) (hT : tys[t0]? = some (cA, .long)) (harr : Cond.arrayClass .long ∈ Ts) {n : Int32} {N' : Nat} (hn : ¬ n < 0) (hN : n.toNatClampNeg = N') (hby : N' * componentBytes .long ≤ 536870912) (hc : cells + 1 ≤ R.cells) (hs : slots + N' ≤ R.slots) (hdg : decode cc pc = .ok (.newarray .long, 2)) {cells' slots' : Nat} (hcc : cells + 1 = cells') (hss : slots + N' = slots') (k : ∀ q : Nat, gW p l e R s m args below meth c cells' slots' Q D cl A nL (ws ++ [(q, .inl (cA, N', .inr (.inl (fun _ => 0))))]) lv (pc + 2) (.ref q :: rest)) : gW p l e R s m args below meth c cells slots Q D cl A nL ws lv pc (.int n :: rest) := by
  subst hcc
  subst hss
  intro H locs ls hP hD hS hl
  refine va_newa (atype := .long) (a0 := (N', .inr (.inl (fun _ => 0)))) F.1 F.2.1 (F.2.2.2.2.1 _ harr) rfl F.2.2.2.2.2.1 hP hD hS F.2.2.2.2.2.2 (fun cB => rfl) hn hN hby hc hs hdg (fun q cB H1 hK1 hP1 hD1 hS1 => ?_)
  have h1 := (F.2.2.2.2.2.1.2 t0 _ hT).2
  have h2 := (hK1.2 tys.length (cB, .long) (by rw [List.getElem?_append_right (Nat.le_refl _), Nat.sub_self]; rfl)).2
  have h3 : cB = cA := Option.some.inj (h2.symm.trans h1)
  subst h3
  exact k q H1 locs ls hP1 hD1 hS1 hl
theorem g_newo (F : gF p m c cc nL s args Ts own D cl tys A) {C : String} {T : u_T} {N ci index : Nat} (hin : ∀ w ∈ u_ws C T N, w ∈ Ts) (ty : Nat → FieldType) (hty : ∀ k, k < N → parseFieldDescriptor (T k).2.2.1 = some (ty k)) (hcl : Cond.classLink own index C ∈ Ts) (hinst : Cond.instantiable C N ∈ Ts) (hini : Cond.initialized C ∈ Ts) (hc : cl[ci]? = some (C, T, N)) {fs : List Value} (hfs : ∀ j, j < N → defaultValue (ty j) = vp_V fs j) (hcells : cells + 1 ≤ R.cells) (hslots : slots + N ≤ R.slots) (hdg : decode cc pc = .ok (.new index, 3)) {cells' slots' : Nat} (hcc : cells + 1 = cells') (hss : slots + N = slots') (k : ∀ q : Nat, gW p l e R s m args below meth c cells' slots' Q D cl A nL (ws ++ [(q, .inr (ci, fs))]) lv (pc + 3) (.ref q :: rest)) : gW p l e R s m args below meth c cells slots Q D cl A nL ws lv pc rest := by
  subst hcc
  subst hss
  exact fun H locs ls hP hD hS hl => va_new F.1 F.2.1 F.2.2.2.2.1 hin ty hty F.2.2.2.1 (F.2.2.2.2.1 _ hcl) (F.2.2.2.2.1 _ hinst) (F.2.2.2.2.1 _ hini) F.2.2.2.2.2.1 hP hD hS F.2.2.2.2.2.2 hc hfs hcells hslots hdg (fun q H1 hP1 hD1 hS1 => k q H1 locs ls hP1 hD1 hS1 hl)
theorem g_putF (F : gF p m c cc nL s args Ts own D cl tys A) {C : String} {T : u_T} {N ci index a : Nat} (hmn : meth.name = "<init>") (hin : ∀ w ∈ u_ws C T N, w ∈ Ts) (ty0 : Nat → FieldType) (hty : ∀ k, k < N → parseFieldDescriptor (T k).2.2.1 = some (ty0 k)) (hnm : ∀ a, a < N → ∀ b, b < N → a ≠ b → (T a).2.1 ≠ (T b).2.1) (q0 : Nat) {fs : List Value} (he : ws[q0]? = some (a, .inr (ci, fs))) (hc : cl[ci]? = some (C, T, N)) (j : Nat) (hj : j < N) (hlink : Cond.fieldLink own index (T j).1 (T j).2.1 (T j).2.2.1 ∈ Ts) (hfin : (T j).2.2.2 = true) (hown : (T j).1 = own) {v : Value} (hn : narrow (ty0 j) v = v) (hfit : fits (ty0 j) v = true) (hl2 : j < fs.length) (hdg : decode cc pc = .ok (.putfield index, 3)) {ws' : va_W} (hw : ws.set q0 (a, .inr (ci, fs.set j v)) = ws') (k : gW p l e R s m args below meth c cells slots Q D cl A nL ws' lv (pc + 3) rest) : gW p l e R s m args below meth c cells slots Q D cl A nL ws lv pc (v :: .ref a :: rest) := by
  subst hw
  exact fun H locs ls hP hD hS hl => va_putF F.1 F.2.1 F.2.2.2.2.1 hin ty0 hty hnm F.2.2.2.1 F.2.2.2.2.2.1 hP hD hS q0 he hc j hj (F.2.2.2.2.1 _ hlink) (fun _ h => h) hfin hmn hown (hty j hj) hn hfit hl2 hdg (fun H1 locs1 hP1 hD1 hS1 => k H1 locs1 ls hP1 hD1 hS1 hl)
end GA
