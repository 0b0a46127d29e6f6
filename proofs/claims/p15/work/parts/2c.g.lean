/-! java/util/Arrays.fill([II)V -/
def rm_J7_fill_53178 : Room := { frames := 0, cells := 0, slots := 0, locals := 0 }
def f_J7_fill_53178_L5_s (a_n : Nat) (y1 : Int32) (y3 : Int32) (rc : Int32 → (Nat → Int32) → Option (Nat → Int32)) (z2 : Int32) (a : (Nat → Int32)) : Option (Nat → Int32) :=
  if y3 ≤ z2 then some a else ck (inR z2 a_n) (nm (z2 + (1 : Int32)) fun v3 => rc v3 (upd a z2.toNatClampNeg y1))
def f_J7_fill_53178_L5 (a_n : Nat) (y1 : Int32) (y3 : Int32) : Nat → Int32 → (Nat → Int32) → Option (Nat → Int32)
  | 0, _, _ => none
  | n + 1, z2, a => f_J7_fill_53178_L5_s a_n y1 y3 (f_J7_fill_53178_L5 a_n y1 y3 n) z2 a
set_option maxHeartbeats 4000000 in
theorem w_J7_fill_53178_L5 {p : Program} {l : Launch} {e : Env} {s : State} {m : MethodId} {args : Array Value} {below : List Frame} {meth : Method} {c : Code} {A : Nat → Prop} {Q : State → Prop} {dC : Nat → ClassId} {dI : Nat → Nat → Nat} {cI cJ cH : ClassId} {a_p a_n : Nat}  {y1 : Int32} {y3 : Int32} (F : gF p m c cJ7_fill_53178 4 s args wsJ7_fill_53178 yJ7_fill_53178.cls (dC, dI) vwCl (gT cI cJ cH) A) (hN : ∀ w ∈ gN, va_Nw w s) : ∀ (n : Nat) (z2 : Int32) (a : (Nat → Int32)) (o : (Nat → Int32)), f_J7_fill_53178_L5 a_n y1 y3 n z2 a = some o → (gW p l e rm_J7_fill_53178 s m args below meth c 0 0 Q (dC, dI) vwCl A 4 (wAr cI a_p a_n o) [] 20 []) → gW p l e rm_J7_fill_53178 s m args below meth c 0 0 Q (dC, dI) vwCl A 4 (wAr cI a_p a_n a) [(0, .ref a_p), (1, .int y1), (2, .int z2), (3, .int y3)] 5 [] := by
  intro n
  induction n with
  | zero =>
    intro z2 a o hf E0
    change none = some o at hf
    cases hf
  | succ n ih =>
    intro z2 a o hf E0
    change f_J7_fill_53178_L5_s a_n y1 y3 (f_J7_fill_53178_L5 a_n y1 y3 n) z2 a = some o at hf
    unfold f_J7_fill_53178_L5_s at hf
    refine g_iload_n F dJ7_fill_53178_5 rfl 2 rfl ?_
    refine g_iload_n F dJ7_fill_53178_6 rfl 3 rfl ?_
    refine g_icmp_ge (tgt := 20) F dJ7_fill_53178_7 (by decide) (fun c7 => ?_) (fun c7 => ?_)
    · have hf := iteT hf c7
      cases hf
      refine g_lv [] rfl ?_
      exact E0
    · have hf := iteF hf c7
      refine g_aload_n F dJ7_fill_53178_10 rfl 0 rfl ?_
      refine g_iload_n F dJ7_fill_53178_11 rfl 2 rfl ?_
      refine g_iload_n F dJ7_fill_53178_12 rfl 1 rfl ?_
      obtain ⟨h2, hf⟩ := ckE hf
      refine g_iast F 0 0 rfl rfl h2 dJ7_fill_53178_13 (ws' := wAr cI a_p a_n (upd a z2.toNatClampNeg y1)) rfl ?_
      obtain ⟨v3, ev3, hf⟩ := nmE hf
      refine g_iinc (j := 2) (lv' := [(2, .int v3), (0, .ref a_p), (1, .int y1), (3, .int y3)]) F dJ7_fill_53178_14 rfl ev3.symm (by decide) rfl ?_
      refine g_goto (tgt := 5) F dJ7_fill_53178_17 (by decide) ?_
      refine g_lv [1, 2, 0, 3] rfl ?_
      exact ih _ _ o hf E0
def f_J7_fill_53178 (a_n : Nat) (a : (Nat → Int32)) (x1 : Int32) : Option (Nat → Int32) :=
  nm (Int32.ofNat a_n) fun v1 => Option.bind (f_J7_fill_53178_L5 a_n x1 v1 FU (0 : Int32) a) fun o4 => some o4
set_option maxHeartbeats 4000000 in
set_option maxRecDepth 100000 in
theorem c_J7_fill_53178 (l : Launch) (dC : Nat → ClassId) (dI : Nat → Nat → Nat) (cI cJ cH : ClassId) (a_p : Nat) (a_n : Nat) (a : (Nat → Int32)) (x1 : Int32) (o : (Nat → Int32)) (hf : f_J7_fill_53178 a_n a x1 = some o) : ∀ sz : Nat, Met l yJ7_fill_53178 wsJ7_fill_53178 rm_J7_fill_53178 (gPre [.ref a_p, .int x1] (dC, dI) vwCl (gT cI cJ cH) (wAr cI a_p a_n a) sz) (va_Qv (fun (u : (Nat → Int32)) => o = u) (gB (dC, dI) vwCl (gT cI cJ cH) (fun (u : (Nat → Int32)) => wAr cI a_p a_n u) (va_A (wAr cI a_p a_n a) sz)) (va_A (wAr cI a_p a_n a) sz)) 0 0 (va_A (wAr cI a_p a_n a) sz) := by
  refine g_met (fun A => va_Qv (fun (u : (Nat → Int32)) => o = u) (gB (dC, dI) vwCl (gT cI cJ cH) (fun (u : (Nat → Int32)) => wAr cI a_p a_n u) A) A) (by decide) rfl (Nat.le_of_ble_eq_true rfl) ?_
  intro p e s m args below meth c A Q F hlocks hr hname hN hQ
  unfold f_J7_fill_53178 at hf
  refine g_lvE (lv' := [(0, .ref a_p), (1, .int x1)]) rfl ?_
  refine g_iconst (v := 0) F dJ7_fill_53178_0 rfl ?_
  refine g_istore_n (lv' := [(2, .int (0 : Int32)), (0, .ref a_p), (1, .int x1)]) F dJ7_fill_53178_1 rfl (by decide) rfl ?_
  refine g_aload_n F dJ7_fill_53178_2 rfl 1 rfl ?_
  refine g_alen F 0 0 rfl rfl rfl dJ7_fill_53178_3 ?_
  obtain ⟨v1, ev1, hf⟩ := nmE hf
  refine g_nmi ev1 ?_
  refine g_istore_n (lv' := [(3, .int v1), (2, .int (0 : Int32)), (0, .ref a_p), (1, .int x1)]) F dJ7_fill_53178_4 rfl (by decide) rfl ?_
  obtain ⟨o4, ho4, hf⟩ := bnE hf
  refine g_lv [2, 3, 1, 0] rfl ?_
  refine w_J7_fill_53178_L5 F hN FU _ _ o4 ho4 ?_
  subst hQ
  exact g_vret F hlocks hr o4 rfl (Option.some.inj hf).symm dJ7_fill_53178_20
