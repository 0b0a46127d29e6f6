/-! HeapImages$Bytes.add(I)V -/
def rm_X0_add : Room := { frames := 0, cells := 0, slots := 0, locals := 0 }
theorem h_X0_add_0 : ∀ w ∈ wsX00, w ∈ wsX0_add := by decide +kernel
def f_X0_add (a_row : (Nat → Int32)) (a_size : Int32) (x1 : Int32) : Option ((Nat → Int32) × Int32) :=
  if (2000 : Int32) ≤ a_size then some (a_row, a_size) else ck (inR a_size 2000) (some (upd a_row a_size.toNatClampNeg x1, a_size + (1 : Int32)))
set_option maxHeartbeats 4000000 in
set_option maxRecDepth 100000 in
theorem c_X0_add (l : Launch) (dC : Nat → ClassId) (dI : Nat → Nat → Nat) (cI cJ cH : ClassId) (a_p a_row_p : Nat)  (a_row : (Nat → Int32)) (a_size : Int32) (x1 : Int32) (o : ((Nat → Int32) × Int32)) (hf : f_X0_add a_row a_size x1 = some o) : ∀ sz : Nat, Met l yX0_add wsX0_add rm_X0_add (gPre [.ref a_p, .int x1] (dC, dI) vwCl (gT cI cJ cH) (wBy cI a_p a_row_p a_row a_size) sz) (va_Qv (fun (u : ((Nat → Int32) × Int32)) => o = u) (gB (dC, dI) vwCl (gT cI cJ cH) (fun (u : ((Nat → Int32) × Int32)) => wBy cI a_p a_row_p u.1 u.2) (va_A (wBy cI a_p a_row_p a_row a_size) sz)) (va_A (wBy cI a_p a_row_p a_row a_size) sz)) 0 0 (va_A (wBy cI a_p a_row_p a_row a_size) sz) := by
  refine g_met (fun A => va_Qv (fun (u : ((Nat → Int32) × Int32)) => o = u) (gB (dC, dI) vwCl (gT cI cJ cH) (fun (u : ((Nat → Int32) × Int32)) => wBy cI a_p a_row_p u.1 u.2) A) A) (by decide) rfl (Nat.le_of_ble_eq_true rfl) ?_
  intro p e s m args below meth c A Q F hlocks hr hname hN hQ
  unfold f_X0_add at hf
  refine g_lvE (lv' := [(0, .ref a_p), (1, .int x1)]) rfl ?_
  refine g_aload_n F dX0_add_0 rfl 0 rfl ?_
  refine g_get F h_X0_add_0 0 rfl rfl 1 (by decide) (by decide +kernel) rfl dX0_add_1 ?_
  refine g_sipush (v := 2000) F dX0_add_4 rfl ?_
  refine g_icmp_ge (tgt := 30) F dX0_add_7 (by decide) (fun c7 => ?_) (fun c7 => ?_)
  · have hf := iteT hf c7
    subst hQ
    exact g_vret F hlocks hr (a_row, a_size) rfl (Option.some.inj hf).symm dX0_add_30
  · have hf := iteF hf c7
    refine g_aload_n F dX0_add_10 rfl 0 rfl ?_
    refine g_get F h_X0_add_0 0 rfl rfl 0 (by decide) (by decide +kernel) rfl dX0_add_11 ?_
    refine g_aload_n F dX0_add_14 rfl 0 rfl ?_
    refine g_get F h_X0_add_0 0 rfl rfl 1 (by decide) (by decide +kernel) rfl dX0_add_15 ?_
    refine g_iload_n F dX0_add_18 rfl 1 rfl ?_
    obtain ⟨h1, hf⟩ := ckE hf
    refine g_iast F 1 0 rfl rfl h1 dX0_add_19 (ws' := wBy cI a_p a_row_p (upd a_row a_size.toNatClampNeg x1) a_size) rfl ?_
    refine g_aload_n F dX0_add_20 rfl 0 rfl ?_
    refine g_dup F dX0_add_21 rfl ?_
    refine g_get F h_X0_add_0 0 rfl rfl 1 (by decide) (by decide +kernel) rfl dX0_add_22 ?_
    refine g_iconst (v := 1) F dX0_add_25 rfl ?_
    refine g_iadd F dX0_add_26 ?_
    refine g_put F h_X0_add_0 tyX0 tyX0_ok nmX0 0 rfl rfl 1 (by decide) (by decide +kernel) rfl rfl rfl (Nat.le_of_ble_eq_true rfl) dX0_add_27 (ws' := wBy cI a_p a_row_p (upd a_row a_size.toNatClampNeg x1) (a_size + (1 : Int32))) rfl ?_
    subst hQ
    exact g_vret F hlocks hr (upd a_row a_size.toNatClampNeg x1, a_size + (1 : Int32)) rfl (Option.some.inj hf).symm dX0_add_30

/-! HeapImages$Bytes.addTwo(I)V -/
def rm_X0_addTwo : Room := { frames := 1, cells := 0, slots := 0, locals := 21 }
def f_X0_addTwo (a_row : (Nat → Int32)) (a_size : Int32) (x1 : Int32) : Option ((Nat → Int32) × Int32) :=
  Option.bind (f_X0_add a_row a_size (x1 &&& (255 : Int32))) fun o1 => Option.bind (f_X0_add o1.1 o1.2 (((x1.toUInt32 >>> ((8 : Int32).toUInt32 &&& Int32.toUInt32 31)).toInt32) &&& (255 : Int32))) fun o2 => some (o2.1, o2.2)
set_option maxHeartbeats 4000000 in
set_option maxRecDepth 100000 in
theorem c_X0_addTwo (l : Launch) (dC : Nat → ClassId) (dI : Nat → Nat → Nat) (cI cJ cH : ClassId) (a_p a_row_p : Nat)  (a_row : (Nat → Int32)) (a_size : Int32) (x1 : Int32) (o : ((Nat → Int32) × Int32)) (hf : f_X0_addTwo a_row a_size x1 = some o) : ∀ sz : Nat, Met l yX0_addTwo wsX0_addTwo rm_X0_addTwo (gPre [.ref a_p, .int x1] (dC, dI) vwCl (gT cI cJ cH) (wBy cI a_p a_row_p a_row a_size) sz) (va_Qv (fun (u : ((Nat → Int32) × Int32)) => o = u) (gB (dC, dI) vwCl (gT cI cJ cH) (fun (u : ((Nat → Int32) × Int32)) => wBy cI a_p a_row_p u.1 u.2) (va_A (wBy cI a_p a_row_p a_row a_size) sz)) (va_A (wBy cI a_p a_row_p a_row a_size) sz)) 0 0 (va_A (wBy cI a_p a_row_p a_row a_size) sz) := by
  refine g_met (fun A => va_Qv (fun (u : ((Nat → Int32) × Int32)) => o = u) (gB (dC, dI) vwCl (gT cI cJ cH) (fun (u : ((Nat → Int32) × Int32)) => wBy cI a_p a_row_p u.1 u.2) A) A) (by decide) rfl (Nat.le_of_ble_eq_true rfl) ?_
  intro p e s m args below meth c A Q F hlocks hr hname hN hQ
  unfold f_X0_addTwo at hf
  refine g_lvE (lv' := [(0, .ref a_p), (1, .int x1)]) rfl ?_
  refine g_aload_n F dX0_addTwo_0 rfl 0 rfl ?_
  refine g_iload_n F dX0_addTwo_1 rfl 1 rfl ?_
  refine g_sipush (v := 255) F dX0_addTwo_2 rfl ?_
  refine g_iand F dX0_addTwo_5 ?_
  obtain ⟨o1, ho1, hf⟩ := bnE hf
  refine g_callPv (n := 1) (As := [.int (x1 &&& (255 : Int32))]) F (c_X0_add l dC dI cI cJ cH a_p a_row_p a_row a_size (x1 &&& (255 : Int32)) o1 ho1) ggX0_addTwo_X0_add rfl rfl rfl (by decide +kernel) (by decide +kernel) (by decide +kernel) (by decide +kernel) (by decide +kernel) ⟨Nat.le_of_ble_eq_true rfl, Nat.le_of_ble_eq_true rfl⟩ ⟨Nat.le_of_ble_eq_true rfl, Nat.le_of_ble_eq_true rfl⟩ hN 0 rfl rfl rfl ([]) ([]) rfl (fun _ => rfl) rfl (Nat.le_of_ble_eq_true rfl) rfl dX0_addTwo_6 (cells' := 0) (slots' := 0) rfl rfl (fun u hp => ?_)
  subst hp
  refine g_ws (ws' := wBy cI a_p a_row_p o1.1 o1.2) rfl ?_
  refine g_aload_n F dX0_addTwo_9 rfl 0 rfl ?_
  refine g_iload_n F dX0_addTwo_10 rfl 1 rfl ?_
  refine g_bipush (v := 8) F dX0_addTwo_11 rfl ?_
  refine g_iushr F dX0_addTwo_13 ?_
  refine g_sipush (v := 255) F dX0_addTwo_14 rfl ?_
  refine g_iand F dX0_addTwo_17 ?_
  obtain ⟨o2, ho2, hf⟩ := bnE hf
  refine g_callPv (n := 1) (As := [.int (((x1.toUInt32 >>> ((8 : Int32).toUInt32 &&& Int32.toUInt32 31)).toInt32) &&& (255 : Int32))]) F (c_X0_add l dC dI cI cJ cH a_p a_row_p o1.1 o1.2 (((x1.toUInt32 >>> ((8 : Int32).toUInt32 &&& Int32.toUInt32 31)).toInt32) &&& (255 : Int32)) o2 ho2) ggX0_addTwo_X0_add rfl rfl rfl (by decide +kernel) (by decide +kernel) (by decide +kernel) (by decide +kernel) (by decide +kernel) ⟨Nat.le_of_ble_eq_true rfl, Nat.le_of_ble_eq_true rfl⟩ ⟨Nat.le_of_ble_eq_true rfl, Nat.le_of_ble_eq_true rfl⟩ hN 0 rfl rfl rfl ([]) ([]) rfl (fun _ => rfl) rfl (Nat.le_of_ble_eq_true rfl) rfl dX0_addTwo_18 (cells' := 0) (slots' := 0) rfl rfl (fun u hp => ?_)
  subst hp
  refine g_ws (ws' := wBy cI a_p a_row_p o2.1 o2.2) rfl ?_
  subst hQ
  exact g_vret F hlocks hr (o2.1, o2.2) rfl (Option.some.inj hf).symm dX0_addTwo_21

/-! HeapImages$Bytes.addCount(J)V -/
def rm_X0_addCount : Room := { frames := 1, cells := 0, slots := 0, locals := 21 }
def f_X0_addCount_L5_s  (rc : Int64 → Int32 → (Nat → Int32) → Int32 → Option (Int64 × (Nat → Int32) × Int32)) (z3 : Int64) (z5 : Int32) (a_row : (Nat → Int32)) (a_size : Int32) : Option (Int64 × (Nat → Int32) × Int32) :=
  if (5 : Int32) ≤ z5 then some (z3, a_row, a_size) else if (lg_cmp z3 (128 : Int64)) < 0 then some (z3, a_row, a_size) else Option.bind (f_X0_add a_row a_size (((z3 &&& (127 : Int64)).toInt32) + (128 : Int32))) fun o1 => nm (z3 >>> ((7 : Int32).toInt64 &&& 63)) fun v2 => nm (z5 + (1 : Int32)) fun v3 => rc v2 v3 o1.1 o1.2
def f_X0_addCount_L5  : Nat → Int64 → Int32 → (Nat → Int32) → Int32 → Option (Int64 × (Nat → Int32) × Int32)
  | 0, _, _, _, _ => none
  | n + 1, z3, z5, a_row, a_size => f_X0_addCount_L5_s  (f_X0_addCount_L5  n) z3 z5 a_row a_size
set_option maxHeartbeats 4000000 in
theorem w_X0_addCount_L5 {p : Program} {l : Launch} {e : Env} {s : State} {m : MethodId} {args : Array Value} {below : List Frame} {meth : Method} {c : Code} {A : Nat → Prop} {Q : State → Prop} {dC : Nat → ClassId} {dI : Nat → Nat → Nat} {cI cJ cH : ClassId} {a_p a_row_p : Nat}   (F : gF p m c cX0_addCount 6 s args wsX0_addCount yX0_addCount.cls (dC, dI) vwCl (gT cI cJ cH) A) (hN : ∀ w ∈ gN, va_Nw w s) : ∀ (n : Nat) (z3 : Int64) (z5 : Int32) (a_row : (Nat → Int32)) (a_size : Int32) (o : (Int64 × (Nat → Int32) × Int32)), f_X0_addCount_L5  n z3 z5 a_row a_size = some o → (gW p l e rm_X0_addCount s m args below meth c 0 0 Q (dC, dI) vwCl A 6 (wBy cI a_p a_row_p o.2.1 o.2.2) [(0, .ref a_p), (3, .long o.1)] 44 []) → gW p l e rm_X0_addCount s m args below meth c 0 0 Q (dC, dI) vwCl A 6 (wBy cI a_p a_row_p a_row a_size) [(0, .ref a_p), (3, .long z3), (5, .int z5)] 5 [] := by
  intro n
  induction n with
  | zero =>
    intro z3 z5 a_row a_size o hf E0
    change none = some o at hf
    cases hf
  | succ n ih =>
    intro z3 z5 a_row a_size o hf E0
    change f_X0_addCount_L5_s  (f_X0_addCount_L5  n) z3 z5 a_row a_size = some o at hf
    unfold f_X0_addCount_L5_s at hf
    refine g_iload F dX0_addCount_5 2 rfl ?_
    refine g_iconst (v := 5) F dX0_addCount_7 rfl ?_
    refine g_icmp_ge (tgt := 44) F dX0_addCount_8 (by decide) (fun c8 => ?_) (fun c8 => ?_)
    · have hf := iteT hf c8
      cases hf
      refine g_lv [0, 1] rfl ?_
      exact E0
    · have hf := iteF hf c8
      refine g_lload_n F dX0_addCount_11 rfl 1 rfl ?_
      refine g_ldc2 (v := 128) F (by decide +kernel) dX0_addCount_12 ?_
      refine g_lcmp F dX0_addCount_15 ?_
      refine g_if_lt (tgt := 44) F dX0_addCount_16 (by decide) (fun c16 => ?_) (fun c16 => ?_)
      · have hf := iteT hf c16
        cases hf
        refine g_lv [0, 1] rfl ?_
        exact E0
      · have hf := iteF hf c16
        refine g_aload_n F dX0_addCount_19 rfl 0 rfl ?_
        refine g_lload_n F dX0_addCount_20 rfl 1 rfl ?_
        refine g_ldc2 (v := 127) F (by decide +kernel) dX0_addCount_21 ?_
        refine g_land F dX0_addCount_24 ?_
        refine g_l2i F dX0_addCount_25 ?_
        refine g_sipush (v := 128) F dX0_addCount_26 rfl ?_
        refine g_iadd F dX0_addCount_29 ?_
        obtain ⟨o1, ho1, hf⟩ := bnE hf
        refine g_callPv (n := 1) (As := [.int (((z3 &&& (127 : Int64)).toInt32) + (128 : Int32))]) F (c_X0_add l dC dI cI cJ cH a_p a_row_p a_row a_size (((z3 &&& (127 : Int64)).toInt32) + (128 : Int32)) o1 ho1) ggX0_addCount_X0_add rfl rfl rfl (by decide +kernel) (by decide +kernel) (by decide +kernel) (by decide +kernel) (by decide +kernel) ⟨Nat.le_of_ble_eq_true rfl, Nat.le_of_ble_eq_true rfl⟩ ⟨Nat.le_of_ble_eq_true rfl, Nat.le_of_ble_eq_true rfl⟩ hN 0 rfl rfl rfl ([]) ([]) rfl (fun _ => rfl) rfl (Nat.le_of_ble_eq_true rfl) rfl dX0_addCount_30 (cells' := 0) (slots' := 0) rfl rfl (fun u hp => ?_)
        subst hp
        refine g_ws (ws' := wBy cI a_p a_row_p o1.1 o1.2) rfl ?_
        refine g_lload_n F dX0_addCount_33 rfl 1 rfl ?_
        refine g_bipush (v := 7) F dX0_addCount_34 rfl ?_
        refine g_lshr F dX0_addCount_36 ?_
        obtain ⟨v2, ev2, hf⟩ := nmE hf
        refine g_nml ev2 ?_
        refine g_lstore_n (lv' := [(3, .long v2), (0, .ref a_p), (5, .int z5)]) F dX0_addCount_37 rfl (by decide) rfl ?_
        obtain ⟨v3, ev3, hf⟩ := nmE hf
        refine g_iinc (j := 2) (lv' := [(5, .int v3), (3, .long v2), (0, .ref a_p)]) F dX0_addCount_38 rfl ev3.symm (by decide) rfl ?_
        refine g_goto (tgt := 5) F dX0_addCount_41 (by decide) ?_
        refine g_lv [2, 1, 0] rfl ?_
        exact ih _ _ _ _ o hf E0
def f_X0_addCount (a_row : (Nat → Int32)) (a_size : Int32) (x1 : Int64) : Option ((Nat → Int32) × Int32) :=
  Option.bind (f_X0_addCount_L5  FU x1 (1 : Int32) a_row a_size) fun o4 => Option.bind (f_X0_add o4.2.1 o4.2.2 o4.1.toInt32) fun o5 => some (o5.1, o5.2)
set_option maxHeartbeats 4000000 in
set_option maxRecDepth 100000 in
theorem c_X0_addCount (l : Launch) (dC : Nat → ClassId) (dI : Nat → Nat → Nat) (cI cJ cH : ClassId) (a_p a_row_p : Nat)  (a_row : (Nat → Int32)) (a_size : Int32) (x1 : Int64) (o : ((Nat → Int32) × Int32)) (hf : f_X0_addCount a_row a_size x1 = some o) : ∀ sz : Nat, Met l yX0_addCount wsX0_addCount rm_X0_addCount (gPre [.ref a_p, .long x1] (dC, dI) vwCl (gT cI cJ cH) (wBy cI a_p a_row_p a_row a_size) sz) (va_Qv (fun (u : ((Nat → Int32) × Int32)) => o = u) (gB (dC, dI) vwCl (gT cI cJ cH) (fun (u : ((Nat → Int32) × Int32)) => wBy cI a_p a_row_p u.1 u.2) (va_A (wBy cI a_p a_row_p a_row a_size) sz)) (va_A (wBy cI a_p a_row_p a_row a_size) sz)) 0 0 (va_A (wBy cI a_p a_row_p a_row a_size) sz) := by
  refine g_met (fun A => va_Qv (fun (u : ((Nat → Int32) × Int32)) => o = u) (gB (dC, dI) vwCl (gT cI cJ cH) (fun (u : ((Nat → Int32) × Int32)) => wBy cI a_p a_row_p u.1 u.2) A) A) (by decide) rfl (Nat.le_of_ble_eq_true rfl) ?_
  intro p e s m args below meth c A Q F hlocks hr hname hN hQ
  unfold f_X0_addCount at hf
  refine g_lvE (lv' := [(0, .ref a_p), (1, .long x1)]) rfl ?_
  refine g_lload_n F dX0_addCount_0 rfl 1 rfl ?_
  refine g_lstore_n (lv' := [(3, .long x1), (0, .ref a_p), (1, .long x1)]) F dX0_addCount_1 rfl (by decide) rfl ?_
  refine g_iconst (v := 1) F dX0_addCount_2 rfl ?_
  refine g_istore (lv' := [(5, .int (1 : Int32)), (3, .long x1), (0, .ref a_p), (1, .long x1)]) F dX0_addCount_3 (by decide) rfl ?_
  obtain ⟨o4, ho4, hf⟩ := bnE hf
  refine g_lv [2, 1, 0] rfl ?_
  refine w_X0_addCount_L5 F hN FU _ _ _ _ o4 ho4 ?_
  refine g_aload_n F dX0_addCount_44 rfl 0 rfl ?_
  refine g_lload_n F dX0_addCount_45 rfl 1 rfl ?_
  refine g_l2i F dX0_addCount_46 ?_
  obtain ⟨o5, ho5, hf⟩ := bnE hf
  refine g_callPv (n := 1) (As := [.int o4.1.toInt32]) F (c_X0_add l dC dI cI cJ cH a_p a_row_p o4.2.1 o4.2.2 o4.1.toInt32 o5 ho5) ggX0_addCount_X0_add rfl rfl rfl (by decide +kernel) (by decide +kernel) (by decide +kernel) (by decide +kernel) (by decide +kernel) ⟨Nat.le_of_ble_eq_true rfl, Nat.le_of_ble_eq_true rfl⟩ ⟨Nat.le_of_ble_eq_true rfl, Nat.le_of_ble_eq_true rfl⟩ hN 0 rfl rfl rfl ([]) ([]) rfl (fun _ => rfl) rfl (Nat.le_of_ble_eq_true rfl) rfl dX0_addCount_47 (cells' := 0) (slots' := 0) rfl rfl (fun u hp => ?_)
  subst hp
  refine g_ws (ws' := wBy cI a_p a_row_p o5.1 o5.2) rfl ?_
  subst hQ
  exact g_vret F hlocks hr (o5.1, o5.2) rfl (Option.some.inj hf).symm dX0_addCount_50

/-! HeapImages$Bytes.sumOf(I)I -/
def rm_X0_sumOf : Room := { frames := 0, cells := 0, slots := 0, locals := 0 }
theorem h_X0_sumOf_0 : ∀ w ∈ wsX00, w ∈ wsX0_sumOf := by decide +kernel
def f_X0_sumOf_L4_s (a_row : (Nat → Int32)) (y1 : Int32) (rc : Int32 → Int32 → Option Int32) (z2 : Int32) (z3 : Int32) : Option Int32 :=
  if y1 ≤ z3 then some z2 else ck (inR z3 2000) (nm (z2 + ((a_row z3.toNatClampNeg) * (z3 + (1 : Int32)))) fun v2 => nm (z3 + (1 : Int32)) fun v3 => rc v2 v3)
def f_X0_sumOf_L4 (a_row : (Nat → Int32)) (y1 : Int32) : Nat → Int32 → Int32 → Option Int32
  | 0, _, _ => none
  | n + 1, z2, z3 => f_X0_sumOf_L4_s a_row y1 (f_X0_sumOf_L4 a_row y1 n) z2 z3
set_option maxHeartbeats 4000000 in
theorem w_X0_sumOf_L4 {p : Program} {l : Launch} {e : Env} {s : State} {m : MethodId} {args : Array Value} {below : List Frame} {meth : Method} {c : Code} {A : Nat → Prop} {Q : State → Prop} {dC : Nat → ClassId} {dI : Nat → Nat → Nat} {cI cJ cH : ClassId} {a_p a_row_p : Nat} {a_row : (Nat → Int32)} {a_size : Int32} {y1 : Int32} (F : gF p m c cX0_sumOf 4 s args wsX0_sumOf yX0_sumOf.cls (dC, dI) vwCl (gT cI cJ cH) A) (hN : ∀ w ∈ gN, va_Nw w s) : ∀ (n : Nat) (z2 : Int32) (z3 : Int32) (o : Int32), f_X0_sumOf_L4 a_row y1 n z2 z3 = some o → (gW p l e rm_X0_sumOf s m args below meth c 0 0 Q (dC, dI) vwCl A 4 (wBy cI a_p a_row_p a_row a_size) [(2, .int o)] 28 []) → gW p l e rm_X0_sumOf s m args below meth c 0 0 Q (dC, dI) vwCl A 4 (wBy cI a_p a_row_p a_row a_size) [(0, .ref a_p), (1, .int y1), (2, .int z2), (3, .int z3)] 4 [] := by
  intro n
  induction n with
  | zero =>
    intro z2 z3 o hf E0
    change none = some o at hf
    cases hf
  | succ n ih =>
    intro z2 z3 o hf E0
    change f_X0_sumOf_L4_s a_row y1 (f_X0_sumOf_L4 a_row y1 n) z2 z3 = some o at hf
    unfold f_X0_sumOf_L4_s at hf
    refine g_iload_n F dX0_sumOf_4 rfl 3 rfl ?_
    refine g_iload_n F dX0_sumOf_5 rfl 1 rfl ?_
    refine g_icmp_ge (tgt := 28) F dX0_sumOf_6 (by decide) (fun c6 => ?_) (fun c6 => ?_)
    · have hf := iteT hf c6
      cases hf
      refine g_lv [2] rfl ?_
      exact E0
    · have hf := iteF hf c6
      refine g_iload_n F dX0_sumOf_9 rfl 2 rfl ?_
      refine g_aload_n F dX0_sumOf_10 rfl 0 rfl ?_
      refine g_get F h_X0_sumOf_0 0 rfl rfl 0 (by decide) (by decide +kernel) rfl dX0_sumOf_11 ?_
      refine g_iload_n F dX0_sumOf_14 rfl 3 rfl ?_
      obtain ⟨h1, hf⟩ := ckE hf
      refine g_iald F 1 0 rfl rfl h1 dX0_sumOf_15 ?_
      refine g_iload_n F dX0_sumOf_16 rfl 3 rfl ?_
      refine g_iconst (v := 1) F dX0_sumOf_17 rfl ?_
      refine g_iadd F dX0_sumOf_18 ?_
      refine g_imul F dX0_sumOf_19 ?_
      refine g_iadd F dX0_sumOf_20 ?_
      obtain ⟨v2, ev2, hf⟩ := nmE hf
      refine g_nmi ev2 ?_
      refine g_istore_n (lv' := [(2, .int v2), (0, .ref a_p), (1, .int y1), (3, .int z3)]) F dX0_sumOf_21 rfl (by decide) rfl ?_
      obtain ⟨v3, ev3, hf⟩ := nmE hf
      refine g_iinc (j := 3) (lv' := [(3, .int v3), (2, .int v2), (0, .ref a_p), (1, .int y1)]) F dX0_sumOf_22 rfl ev3.symm (by decide) rfl ?_
      refine g_goto (tgt := 4) F dX0_sumOf_25 (by decide) ?_
      refine g_lv [2, 3, 1, 0] rfl ?_
      exact ih _ _ o hf E0
def f_X0_sumOf (a_row : (Nat → Int32)) (x1 : Int32) : Option Int32 :=
  Option.bind (f_X0_sumOf_L4 a_row x1 FU (0 : Int32) (0 : Int32)) fun o4 => some (o4 - o4 / (65521 : Int32) * (65521 : Int32))
set_option maxHeartbeats 4000000 in
set_option maxRecDepth 100000 in
theorem c_X0_sumOf (l : Launch) (dC : Nat → ClassId) (dI : Nat → Nat → Nat) (cI cJ cH : ClassId) (a_p a_row_p : Nat)  (a_row : (Nat → Int32)) (a_size : Int32) (x1 : Int32) (o : Int32) (hf : f_X0_sumOf a_row x1 = some o) : ∀ sz : Nat, Met l yX0_sumOf wsX0_sumOf rm_X0_sumOf (gPre [.ref a_p, .int x1] (dC, dI) vwCl (gT cI cJ cH) (wBy cI a_p a_row_p a_row a_size) sz) (va_Qi (fun (r : Int32) (u : Unit) => o = r) (gB (dC, dI) vwCl (gT cI cJ cH) (fun (u : Unit) => wBy cI a_p a_row_p a_row a_size) (va_A (wBy cI a_p a_row_p a_row a_size) sz)) (va_A (wBy cI a_p a_row_p a_row a_size) sz)) 0 0 (va_A (wBy cI a_p a_row_p a_row a_size) sz) := by
  refine g_met (fun A => va_Qi (fun (r : Int32) (u : Unit) => o = r) (gB (dC, dI) vwCl (gT cI cJ cH) (fun (u : Unit) => wBy cI a_p a_row_p a_row a_size) A) A) (by decide) rfl (Nat.le_of_ble_eq_true rfl) ?_
  intro p e s m args below meth c A Q F hlocks hr hname hN hQ
  unfold f_X0_sumOf at hf
  refine g_lvE (lv' := [(0, .ref a_p), (1, .int x1)]) rfl ?_
  refine g_iconst (v := 0) F dX0_sumOf_0 rfl ?_
  refine g_istore_n (lv' := [(2, .int (0 : Int32)), (0, .ref a_p), (1, .int x1)]) F dX0_sumOf_1 rfl (by decide) rfl ?_
  refine g_iconst (v := 0) F dX0_sumOf_2 rfl ?_
  refine g_istore_n (lv' := [(3, .int (0 : Int32)), (2, .int (0 : Int32)), (0, .ref a_p), (1, .int x1)]) F dX0_sumOf_3 rfl (by decide) rfl ?_
  obtain ⟨o4, ho4, hf⟩ := bnE hf
  refine g_lv [2, 3, 1, 0] rfl ?_
  refine w_X0_sumOf_L4 F hN FU _ _ o4 ho4 ?_
  refine g_iload_n F dX0_sumOf_28 rfl 0 rfl ?_
  refine g_ldc (v := 65521) F (by decide +kernel) dX0_sumOf_29 ?_
  refine g_irem F dX0_sumOf_31 (by decide) ?_
  subst hQ
  exact g_iret F hlocks hr () rfl (Option.some.inj hf).symm dX0_sumOf_32
