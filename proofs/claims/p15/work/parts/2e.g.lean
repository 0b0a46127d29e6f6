/-! HeapImages$Heap.reachAll([III)V -/
def rm_X1_reachAll_roots : Room := { frames := 1, cells := 0, slots := 0, locals := 23 }
theorem h_X1_reachAll_1 : ∀ w ∈ wsX10, w ∈ wsX1_reachAll := by decide +kernel
def f_X1_reachAll_roots_L3_s (a_roots : (Nat → Int32)) (a_base : Int32) (y2 : Int32) (y3 : Int32) (rc : Int32 → (Nat → Int32) → (Nat → Int32) → Int32 → Option ((Nat → Int32) × (Nat → Int32) × Int32)) (z4 : Int32) (a_marks : (Nat → Int32)) (a_order : (Nat → Int32)) (a_reached : Int32) : Option ((Nat → Int32) × (Nat → Int32) × Int32) :=
  if (y2 + y3) ≤ z4 then some (a_marks, a_order, a_reached) else ck (inR z4 4) (Option.bind (f_X1_headOf a_base a_marks (a_roots z4.toNatClampNeg)) fun o2 => if o2 < 0 then nm (z4 + (1 : Int32)) fun v3 => rc v3 a_marks a_order a_reached else ck (inR o2 256) (if (a_marks o2.toNatClampNeg) = (-1 : Int32) then ck (inR o2 256) (ck (inR a_reached 256) (nm (z4 + (1 : Int32)) fun v8 => rc v8 (upd a_marks o2.toNatClampNeg a_reached) (upd a_order a_reached.toNatClampNeg o2) (a_reached + (1 : Int32)))) else nm (z4 + (1 : Int32)) fun v5 => rc v5 a_marks a_order a_reached))
def f_X1_reachAll_roots_L3 (a_roots : (Nat → Int32)) (a_base : Int32) (y2 : Int32) (y3 : Int32) : Nat → Int32 → (Nat → Int32) → (Nat → Int32) → Int32 → Option ((Nat → Int32) × (Nat → Int32) × Int32)
  | 0, _, _, _, _ => none
  | n + 1, z4, a_marks, a_order, a_reached => f_X1_reachAll_roots_L3_s a_roots a_base y2 y3 (f_X1_reachAll_roots_L3 a_roots a_base y2 y3 n) z4 a_marks a_order a_reached
set_option maxHeartbeats 4000000 in
theorem w_X1_reachAll_roots_L3 {p : Program} {l : Launch} {e : Env} {s : State} {m : MethodId} {args : Array Value} {below : List Frame} {meth : Method} {c : Code} {A : Nat → Prop} {Q : State → Prop} {dC : Nat → ClassId} {dI : Nat → Nat → Nat} {cI cJ cH : ClassId} {a_p a_words_p a_roots_p a_heads_p a_marks_p a_order_p a_targets_p : Nat} {a_words : (Nat → Int32)} {a_roots : (Nat → Int32)} {a_base : Int32} {a_top : Int32} {a_heads : (Nat → Int32)} {a_objects : Int32} {a_targets : (Nat → Int32)} {y2 : Int32} {y3 : Int32} (F : gF p m c cX1_reachAll 6 s args wsX1_reachAll yX1_reachAll.cls (dC, dI) vwCl (gT cI cJ cH) A) (hN : ∀ w ∈ gN, va_Nw w s) : ∀ (n : Nat) (z4 : Int32) (a_marks : (Nat → Int32)) (a_order : (Nat → Int32)) (a_reached : Int32) (o : ((Nat → Int32) × (Nat → Int32) × Int32)), f_X1_reachAll_roots_L3 a_roots a_base y2 y3 n z4 a_marks a_order a_reached = some o → (gW p l e rm_X1_reachAll_roots s m args below meth c 0 0 Q (dC, dI) vwCl A 6 (wHp cI a_p a_words_p a_roots_p a_heads_p a_marks_p a_order_p a_targets_p a_words a_roots a_base a_top a_heads a_objects o.1 o.2.1 o.2.2 a_targets) [] 75 []) → gW p l e rm_X1_reachAll_roots s m args below meth c 0 0 Q (dC, dI) vwCl A 6 (wHp cI a_p a_words_p a_roots_p a_heads_p a_marks_p a_order_p a_targets_p a_words a_roots a_base a_top a_heads a_objects a_marks a_order a_reached a_targets) [(0, .ref a_p), (1, .ref a_roots_p), (2, .int y2), (3, .int y3), (4, .int z4)] 3 [] := by
  intro n
  induction n with
  | zero =>
    intro z4 a_marks a_order a_reached o hf E0
    change none = some o at hf
    cases hf
  | succ n ih =>
    intro z4 a_marks a_order a_reached o hf E0
    change f_X1_reachAll_roots_L3_s a_roots a_base y2 y3 (f_X1_reachAll_roots_L3 a_roots a_base y2 y3 n) z4 a_marks a_order a_reached = some o at hf
    unfold f_X1_reachAll_roots_L3_s at hf
    refine g_iload F dX1_reachAll_3 4 rfl ?_
    refine g_iload_n F dX1_reachAll_5 rfl 2 rfl ?_
    refine g_iload_n F dX1_reachAll_6 rfl 3 rfl ?_
    refine g_iadd F dX1_reachAll_7 ?_
    refine g_icmp_ge (tgt := 75) F dX1_reachAll_8 (by decide) (fun c8 => ?_) (fun c8 => ?_)
    · have hf := iteT hf c8
      cases hf
      refine g_lv [] rfl ?_
      exact E0
    · have hf := iteF hf c8
      refine g_aload_n F dX1_reachAll_11 rfl 0 rfl ?_
      refine g_aload_n F dX1_reachAll_12 rfl 1 rfl ?_
      refine g_iload F dX1_reachAll_13 4 rfl ?_
      obtain ⟨h1, hf⟩ := ckE hf
      refine g_iald F 2 0 rfl rfl h1 dX1_reachAll_15 ?_
      obtain ⟨o2, ho2, hf⟩ := bnE hf
      refine g_callPi (n := 1) (As := [.int (a_roots z4.toNatClampNeg)]) F (c_X1_headOf l dC dI cI cJ cH a_p a_words_p a_roots_p a_heads_p a_marks_p a_order_p a_targets_p a_words a_roots a_base a_top a_heads a_objects a_marks a_order a_reached a_targets (a_roots z4.toNatClampNeg) o2 ho2) ggX1_reachAll_X1_headOf rfl rfl rfl (by decide +kernel) (by decide +kernel) (by decide +kernel) (by decide +kernel) (by decide +kernel) ⟨Nat.le_of_ble_eq_true rfl, Nat.le_of_ble_eq_true rfl⟩ ⟨Nat.le_of_ble_eq_true rfl, Nat.le_of_ble_eq_true rfl⟩ hN 0 rfl rfl rfl ([]) ([]) rfl (fun _ => rfl) rfl (Nat.le_of_ble_eq_true rfl) rfl dX1_reachAll_16 (cells' := 0) (slots' := 0) rfl rfl (fun r u hp => ?_)
      subst hp
      refine g_ws (ws' := wHp cI a_p a_words_p a_roots_p a_heads_p a_marks_p a_order_p a_targets_p a_words a_roots a_base a_top a_heads a_objects a_marks a_order a_reached a_targets) rfl ?_
      refine g_istore (lv' := [(5, .int o2), (0, .ref a_p), (1, .ref a_roots_p), (2, .int y2), (3, .int y3), (4, .int z4)]) F dX1_reachAll_19 (by decide) rfl ?_
      refine g_iload F dX1_reachAll_21 0 rfl ?_
      refine g_if_lt (tgt := 69) F dX1_reachAll_23 (by decide) (fun c23 => ?_) (fun c23 => ?_)
      · have hf := iteT hf c23
        obtain ⟨v3, ev3, hf⟩ := nmE hf
        refine g_iinc (j := 5) (lv' := [(4, .int v3), (5, .int o2), (0, .ref a_p), (1, .ref a_roots_p), (2, .int y2), (3, .int y3)]) F dX1_reachAll_69 rfl ev3.symm (by decide) rfl ?_
        refine g_goto (tgt := 3) F dX1_reachAll_72 (by decide) ?_
        refine g_lv [2, 3, 4, 5, 0] rfl ?_
        exact ih _ _ _ _ o hf E0
      · have hf := iteF hf c23
        refine g_aload_n F dX1_reachAll_26 rfl 1 rfl ?_
        refine g_get F h_X1_reachAll_1 0 rfl rfl 6 (by decide) (by decide +kernel) rfl dX1_reachAll_27 ?_
        refine g_iload F dX1_reachAll_30 0 rfl ?_
        obtain ⟨h4, hf⟩ := ckE hf
        refine g_iald F 4 0 rfl rfl h4 dX1_reachAll_32 ?_
        refine g_iconst (v := -1) F dX1_reachAll_33 rfl ?_
        refine g_icmp_ne (tgt := 69) F dX1_reachAll_34 (by decide) (fun c34 => ?_) (fun c34 => ?_)
        · have hf := iteF hf c34
          obtain ⟨v5, ev5, hf⟩ := nmE hf
          refine g_iinc (j := 5) (lv' := [(4, .int v5), (5, .int o2), (0, .ref a_p), (1, .ref a_roots_p), (2, .int y2), (3, .int y3)]) F dX1_reachAll_69 rfl ev5.symm (by decide) rfl ?_
          refine g_goto (tgt := 3) F dX1_reachAll_72 (by decide) ?_
          refine g_lv [2, 3, 4, 5, 0] rfl ?_
          exact ih _ _ _ _ o hf E0
        · have hf := iteT hf c34
          refine g_aload_n F dX1_reachAll_37 rfl 1 rfl ?_
          refine g_get F h_X1_reachAll_1 0 rfl rfl 6 (by decide) (by decide +kernel) rfl dX1_reachAll_38 ?_
          refine g_iload F dX1_reachAll_41 0 rfl ?_
          refine g_aload_n F dX1_reachAll_43 rfl 1 rfl ?_
          refine g_get F h_X1_reachAll_1 0 rfl rfl 8 (by decide) (by decide +kernel) rfl dX1_reachAll_44 ?_
          obtain ⟨h6, hf⟩ := ckE hf
          refine g_iast F 4 0 rfl rfl h6 dX1_reachAll_47 (ws' := wHp cI a_p a_words_p a_roots_p a_heads_p a_marks_p a_order_p a_targets_p a_words a_roots a_base a_top a_heads a_objects (upd a_marks o2.toNatClampNeg a_reached) a_order a_reached a_targets) rfl ?_
          refine g_aload_n F dX1_reachAll_48 rfl 1 rfl ?_
          refine g_get F h_X1_reachAll_1 0 rfl rfl 7 (by decide) (by decide +kernel) rfl dX1_reachAll_49 ?_
          refine g_aload_n F dX1_reachAll_52 rfl 1 rfl ?_
          refine g_get F h_X1_reachAll_1 0 rfl rfl 8 (by decide) (by decide +kernel) rfl dX1_reachAll_53 ?_
          refine g_iload F dX1_reachAll_56 0 rfl ?_
          obtain ⟨h7, hf⟩ := ckE hf
          refine g_iast F 5 0 rfl rfl h7 dX1_reachAll_58 (ws' := wHp cI a_p a_words_p a_roots_p a_heads_p a_marks_p a_order_p a_targets_p a_words a_roots a_base a_top a_heads a_objects (upd a_marks o2.toNatClampNeg a_reached) (upd a_order a_reached.toNatClampNeg o2) a_reached a_targets) rfl ?_
          refine g_aload_n F dX1_reachAll_59 rfl 1 rfl ?_
          refine g_dup F dX1_reachAll_60 rfl ?_
          refine g_get F h_X1_reachAll_1 0 rfl rfl 8 (by decide) (by decide +kernel) rfl dX1_reachAll_61 ?_
          refine g_iconst (v := 1) F dX1_reachAll_64 rfl ?_
          refine g_iadd F dX1_reachAll_65 ?_
          refine g_put F h_X1_reachAll_1 tyX1 tyX1_ok nmX1 0 rfl rfl 8 (by decide) (by decide +kernel) rfl rfl rfl (Nat.le_of_ble_eq_true rfl) dX1_reachAll_66 (ws' := wHp cI a_p a_words_p a_roots_p a_heads_p a_marks_p a_order_p a_targets_p a_words a_roots a_base a_top a_heads a_objects (upd a_marks o2.toNatClampNeg a_reached) (upd a_order a_reached.toNatClampNeg o2) (a_reached + (1 : Int32)) a_targets) rfl ?_
          obtain ⟨v8, ev8, hf⟩ := nmE hf
          refine g_iinc (j := 5) (lv' := [(4, .int v8), (5, .int o2), (0, .ref a_p), (1, .ref a_roots_p), (2, .int y2), (3, .int y3)]) F dX1_reachAll_69 rfl ev8.symm (by decide) rfl ?_
          refine g_goto (tgt := 3) F dX1_reachAll_72 (by decide) ?_
          refine g_lv [2, 3, 4, 5, 0] rfl ?_
          exact ih _ _ _ _ o hf E0
def f_X1_reachAll_roots (a_roots : (Nat → Int32)) (a_base : Int32) (a_marks : (Nat → Int32)) (a_order : (Nat → Int32)) (a_reached : Int32) (x2 : Int32) (x3 : Int32) : Option ((Nat → Int32) × (Nat → Int32) × Int32) :=
  Option.bind (f_X1_reachAll_roots_L3 a_roots a_base x2 x3 FU x2 a_marks a_order a_reached) fun o9 => some (o9.1, o9.2.1, o9.2.2)
set_option maxHeartbeats 4000000 in
set_option maxRecDepth 100000 in
theorem c_X1_reachAll_roots (l : Launch) (dC : Nat → ClassId) (dI : Nat → Nat → Nat) (cI cJ cH : ClassId) (a_p a_words_p a_roots_p a_heads_p a_marks_p a_order_p a_targets_p : Nat)  (a_words : (Nat → Int32)) (a_roots : (Nat → Int32)) (a_base : Int32) (a_top : Int32) (a_heads : (Nat → Int32)) (a_objects : Int32) (a_marks : (Nat → Int32)) (a_order : (Nat → Int32)) (a_reached : Int32) (a_targets : (Nat → Int32)) (x2 : Int32) (x3 : Int32) (o : ((Nat → Int32) × (Nat → Int32) × Int32)) (hf : f_X1_reachAll_roots a_roots a_base a_marks a_order a_reached x2 x3 = some o) : ∀ sz : Nat, Met l yX1_reachAll wsX1_reachAll rm_X1_reachAll_roots (gPre [.ref a_p, .ref a_roots_p, .int x2, .int x3] (dC, dI) vwCl (gT cI cJ cH) (wHp cI a_p a_words_p a_roots_p a_heads_p a_marks_p a_order_p a_targets_p a_words a_roots a_base a_top a_heads a_objects a_marks a_order a_reached a_targets) sz) (va_Qv (fun (u : ((Nat → Int32) × (Nat → Int32) × Int32)) => o = u) (gB (dC, dI) vwCl (gT cI cJ cH) (fun (u : ((Nat → Int32) × (Nat → Int32) × Int32)) => wHp cI a_p a_words_p a_roots_p a_heads_p a_marks_p a_order_p a_targets_p a_words a_roots a_base a_top a_heads a_objects u.1 u.2.1 u.2.2 a_targets) (va_A (wHp cI a_p a_words_p a_roots_p a_heads_p a_marks_p a_order_p a_targets_p a_words a_roots a_base a_top a_heads a_objects a_marks a_order a_reached a_targets) sz)) (va_A (wHp cI a_p a_words_p a_roots_p a_heads_p a_marks_p a_order_p a_targets_p a_words a_roots a_base a_top a_heads a_objects a_marks a_order a_reached a_targets) sz)) 0 0 (va_A (wHp cI a_p a_words_p a_roots_p a_heads_p a_marks_p a_order_p a_targets_p a_words a_roots a_base a_top a_heads a_objects a_marks a_order a_reached a_targets) sz) := by
  refine g_met (fun A => va_Qv (fun (u : ((Nat → Int32) × (Nat → Int32) × Int32)) => o = u) (gB (dC, dI) vwCl (gT cI cJ cH) (fun (u : ((Nat → Int32) × (Nat → Int32) × Int32)) => wHp cI a_p a_words_p a_roots_p a_heads_p a_marks_p a_order_p a_targets_p a_words a_roots a_base a_top a_heads a_objects u.1 u.2.1 u.2.2 a_targets) A) A) (by decide) rfl (Nat.le_of_ble_eq_true rfl) ?_
  intro p e s m args below meth c A Q F hlocks hr hname hN hQ
  unfold f_X1_reachAll_roots at hf
  refine g_lvE (lv' := [(0, .ref a_p), (1, .ref a_roots_p), (2, .int x2), (3, .int x3)]) rfl ?_
  refine g_iload_n F dX1_reachAll_0 rfl 2 rfl ?_
  refine g_istore (lv' := [(4, .int x2), (0, .ref a_p), (1, .ref a_roots_p), (2, .int x2), (3, .int x3)]) F dX1_reachAll_1 (by decide) rfl ?_
  obtain ⟨o9, ho9, hf⟩ := bnE hf
  refine g_lv [1, 2, 3, 4, 0] rfl ?_
  refine w_X1_reachAll_roots_L3 F hN FU _ _ _ _ o9 ho9 ?_
  subst hQ
  exact g_vret F hlocks hr (o9.1, o9.2.1, o9.2.2) rfl (Option.some.inj hf).symm dX1_reachAll_75

/-! HeapImages$Heap.reachAll([III)V -/
def rm_X1_reachAll_words : Room := { frames := 1, cells := 0, slots := 0, locals := 23 }
def f_X1_reachAll_words_L3_s (a_words : (Nat → Int32)) (a_base : Int32) (y2 : Int32) (y3 : Int32) (rc : Int32 → (Nat → Int32) → (Nat → Int32) → Int32 → Option ((Nat → Int32) × (Nat → Int32) × Int32)) (z4 : Int32) (a_marks : (Nat → Int32)) (a_order : (Nat → Int32)) (a_reached : Int32) : Option ((Nat → Int32) × (Nat → Int32) × Int32) :=
  if (y2 + y3) ≤ z4 then some (a_marks, a_order, a_reached) else ck (inR z4 256) (Option.bind (f_X1_headOf a_base a_marks (a_words z4.toNatClampNeg)) fun o2 => if o2 < 0 then nm (z4 + (1 : Int32)) fun v3 => rc v3 a_marks a_order a_reached else ck (inR o2 256) (if (a_marks o2.toNatClampNeg) = (-1 : Int32) then ck (inR o2 256) (ck (inR a_reached 256) (nm (z4 + (1 : Int32)) fun v8 => rc v8 (upd a_marks o2.toNatClampNeg a_reached) (upd a_order a_reached.toNatClampNeg o2) (a_reached + (1 : Int32)))) else nm (z4 + (1 : Int32)) fun v5 => rc v5 a_marks a_order a_reached))
def f_X1_reachAll_words_L3 (a_words : (Nat → Int32)) (a_base : Int32) (y2 : Int32) (y3 : Int32) : Nat → Int32 → (Nat → Int32) → (Nat → Int32) → Int32 → Option ((Nat → Int32) × (Nat → Int32) × Int32)
  | 0, _, _, _, _ => none
  | n + 1, z4, a_marks, a_order, a_reached => f_X1_reachAll_words_L3_s a_words a_base y2 y3 (f_X1_reachAll_words_L3 a_words a_base y2 y3 n) z4 a_marks a_order a_reached
set_option maxHeartbeats 4000000 in
theorem w_X1_reachAll_words_L3 {p : Program} {l : Launch} {e : Env} {s : State} {m : MethodId} {args : Array Value} {below : List Frame} {meth : Method} {c : Code} {A : Nat → Prop} {Q : State → Prop} {dC : Nat → ClassId} {dI : Nat → Nat → Nat} {cI cJ cH : ClassId} {a_p a_words_p a_roots_p a_heads_p a_marks_p a_order_p a_targets_p : Nat} {a_words : (Nat → Int32)} {a_roots : (Nat → Int32)} {a_base : Int32} {a_top : Int32} {a_heads : (Nat → Int32)} {a_objects : Int32} {a_targets : (Nat → Int32)} {y2 : Int32} {y3 : Int32} (F : gF p m c cX1_reachAll 6 s args wsX1_reachAll yX1_reachAll.cls (dC, dI) vwCl (gT cI cJ cH) A) (hN : ∀ w ∈ gN, va_Nw w s) : ∀ (n : Nat) (z4 : Int32) (a_marks : (Nat → Int32)) (a_order : (Nat → Int32)) (a_reached : Int32) (o : ((Nat → Int32) × (Nat → Int32) × Int32)), f_X1_reachAll_words_L3 a_words a_base y2 y3 n z4 a_marks a_order a_reached = some o → (gW p l e rm_X1_reachAll_words s m args below meth c 0 0 Q (dC, dI) vwCl A 6 (wHp cI a_p a_words_p a_roots_p a_heads_p a_marks_p a_order_p a_targets_p a_words a_roots a_base a_top a_heads a_objects o.1 o.2.1 o.2.2 a_targets) [] 75 []) → gW p l e rm_X1_reachAll_words s m args below meth c 0 0 Q (dC, dI) vwCl A 6 (wHp cI a_p a_words_p a_roots_p a_heads_p a_marks_p a_order_p a_targets_p a_words a_roots a_base a_top a_heads a_objects a_marks a_order a_reached a_targets) [(0, .ref a_p), (1, .ref a_words_p), (2, .int y2), (3, .int y3), (4, .int z4)] 3 [] := by
  intro n
  induction n with
  | zero =>
    intro z4 a_marks a_order a_reached o hf E0
    change none = some o at hf
    cases hf
  | succ n ih =>
    intro z4 a_marks a_order a_reached o hf E0
    change f_X1_reachAll_words_L3_s a_words a_base y2 y3 (f_X1_reachAll_words_L3 a_words a_base y2 y3 n) z4 a_marks a_order a_reached = some o at hf
    unfold f_X1_reachAll_words_L3_s at hf
    refine g_iload F dX1_reachAll_3 4 rfl ?_
    refine g_iload_n F dX1_reachAll_5 rfl 2 rfl ?_
    refine g_iload_n F dX1_reachAll_6 rfl 3 rfl ?_
    refine g_iadd F dX1_reachAll_7 ?_
    refine g_icmp_ge (tgt := 75) F dX1_reachAll_8 (by decide) (fun c8 => ?_) (fun c8 => ?_)
    · have hf := iteT hf c8
      cases hf
      refine g_lv [] rfl ?_
      exact E0
    · have hf := iteF hf c8
      refine g_aload_n F dX1_reachAll_11 rfl 0 rfl ?_
      refine g_aload_n F dX1_reachAll_12 rfl 1 rfl ?_
      refine g_iload F dX1_reachAll_13 4 rfl ?_
      obtain ⟨h1, hf⟩ := ckE hf
      refine g_iald F 1 0 rfl rfl h1 dX1_reachAll_15 ?_
      obtain ⟨o2, ho2, hf⟩ := bnE hf
      refine g_callPi (n := 1) (As := [.int (a_words z4.toNatClampNeg)]) F (c_X1_headOf l dC dI cI cJ cH a_p a_words_p a_roots_p a_heads_p a_marks_p a_order_p a_targets_p a_words a_roots a_base a_top a_heads a_objects a_marks a_order a_reached a_targets (a_words z4.toNatClampNeg) o2 ho2) ggX1_reachAll_X1_headOf rfl rfl rfl (by decide +kernel) (by decide +kernel) (by decide +kernel) (by decide +kernel) (by decide +kernel) ⟨Nat.le_of_ble_eq_true rfl, Nat.le_of_ble_eq_true rfl⟩ ⟨Nat.le_of_ble_eq_true rfl, Nat.le_of_ble_eq_true rfl⟩ hN 0 rfl rfl rfl ([]) ([]) rfl (fun _ => rfl) rfl (Nat.le_of_ble_eq_true rfl) rfl dX1_reachAll_16 (cells' := 0) (slots' := 0) rfl rfl (fun r u hp => ?_)
      subst hp
      refine g_ws (ws' := wHp cI a_p a_words_p a_roots_p a_heads_p a_marks_p a_order_p a_targets_p a_words a_roots a_base a_top a_heads a_objects a_marks a_order a_reached a_targets) rfl ?_
      refine g_istore (lv' := [(5, .int o2), (0, .ref a_p), (1, .ref a_words_p), (2, .int y2), (3, .int y3), (4, .int z4)]) F dX1_reachAll_19 (by decide) rfl ?_
      refine g_iload F dX1_reachAll_21 0 rfl ?_
      refine g_if_lt (tgt := 69) F dX1_reachAll_23 (by decide) (fun c23 => ?_) (fun c23 => ?_)
      · have hf := iteT hf c23
        obtain ⟨v3, ev3, hf⟩ := nmE hf
        refine g_iinc (j := 5) (lv' := [(4, .int v3), (5, .int o2), (0, .ref a_p), (1, .ref a_words_p), (2, .int y2), (3, .int y3)]) F dX1_reachAll_69 rfl ev3.symm (by decide) rfl ?_
        refine g_goto (tgt := 3) F dX1_reachAll_72 (by decide) ?_
        refine g_lv [2, 3, 4, 5, 0] rfl ?_
        exact ih _ _ _ _ o hf E0
      · have hf := iteF hf c23
        refine g_aload_n F dX1_reachAll_26 rfl 1 rfl ?_
        refine g_get F h_X1_reachAll_1 0 rfl rfl 6 (by decide) (by decide +kernel) rfl dX1_reachAll_27 ?_
        refine g_iload F dX1_reachAll_30 0 rfl ?_
        obtain ⟨h4, hf⟩ := ckE hf
        refine g_iald F 4 0 rfl rfl h4 dX1_reachAll_32 ?_
        refine g_iconst (v := -1) F dX1_reachAll_33 rfl ?_
        refine g_icmp_ne (tgt := 69) F dX1_reachAll_34 (by decide) (fun c34 => ?_) (fun c34 => ?_)
        · have hf := iteF hf c34
          obtain ⟨v5, ev5, hf⟩ := nmE hf
          refine g_iinc (j := 5) (lv' := [(4, .int v5), (5, .int o2), (0, .ref a_p), (1, .ref a_words_p), (2, .int y2), (3, .int y3)]) F dX1_reachAll_69 rfl ev5.symm (by decide) rfl ?_
          refine g_goto (tgt := 3) F dX1_reachAll_72 (by decide) ?_
          refine g_lv [2, 3, 4, 5, 0] rfl ?_
          exact ih _ _ _ _ o hf E0
        · have hf := iteT hf c34
          refine g_aload_n F dX1_reachAll_37 rfl 1 rfl ?_
          refine g_get F h_X1_reachAll_1 0 rfl rfl 6 (by decide) (by decide +kernel) rfl dX1_reachAll_38 ?_
          refine g_iload F dX1_reachAll_41 0 rfl ?_
          refine g_aload_n F dX1_reachAll_43 rfl 1 rfl ?_
          refine g_get F h_X1_reachAll_1 0 rfl rfl 8 (by decide) (by decide +kernel) rfl dX1_reachAll_44 ?_
          obtain ⟨h6, hf⟩ := ckE hf
          refine g_iast F 4 0 rfl rfl h6 dX1_reachAll_47 (ws' := wHp cI a_p a_words_p a_roots_p a_heads_p a_marks_p a_order_p a_targets_p a_words a_roots a_base a_top a_heads a_objects (upd a_marks o2.toNatClampNeg a_reached) a_order a_reached a_targets) rfl ?_
          refine g_aload_n F dX1_reachAll_48 rfl 1 rfl ?_
          refine g_get F h_X1_reachAll_1 0 rfl rfl 7 (by decide) (by decide +kernel) rfl dX1_reachAll_49 ?_
          refine g_aload_n F dX1_reachAll_52 rfl 1 rfl ?_
          refine g_get F h_X1_reachAll_1 0 rfl rfl 8 (by decide) (by decide +kernel) rfl dX1_reachAll_53 ?_
          refine g_iload F dX1_reachAll_56 0 rfl ?_
          obtain ⟨h7, hf⟩ := ckE hf
          refine g_iast F 5 0 rfl rfl h7 dX1_reachAll_58 (ws' := wHp cI a_p a_words_p a_roots_p a_heads_p a_marks_p a_order_p a_targets_p a_words a_roots a_base a_top a_heads a_objects (upd a_marks o2.toNatClampNeg a_reached) (upd a_order a_reached.toNatClampNeg o2) a_reached a_targets) rfl ?_
          refine g_aload_n F dX1_reachAll_59 rfl 1 rfl ?_
          refine g_dup F dX1_reachAll_60 rfl ?_
          refine g_get F h_X1_reachAll_1 0 rfl rfl 8 (by decide) (by decide +kernel) rfl dX1_reachAll_61 ?_
          refine g_iconst (v := 1) F dX1_reachAll_64 rfl ?_
          refine g_iadd F dX1_reachAll_65 ?_
          refine g_put F h_X1_reachAll_1 tyX1 tyX1_ok nmX1 0 rfl rfl 8 (by decide) (by decide +kernel) rfl rfl rfl (Nat.le_of_ble_eq_true rfl) dX1_reachAll_66 (ws' := wHp cI a_p a_words_p a_roots_p a_heads_p a_marks_p a_order_p a_targets_p a_words a_roots a_base a_top a_heads a_objects (upd a_marks o2.toNatClampNeg a_reached) (upd a_order a_reached.toNatClampNeg o2) (a_reached + (1 : Int32)) a_targets) rfl ?_
          obtain ⟨v8, ev8, hf⟩ := nmE hf
          refine g_iinc (j := 5) (lv' := [(4, .int v8), (5, .int o2), (0, .ref a_p), (1, .ref a_words_p), (2, .int y2), (3, .int y3)]) F dX1_reachAll_69 rfl ev8.symm (by decide) rfl ?_
          refine g_goto (tgt := 3) F dX1_reachAll_72 (by decide) ?_
          refine g_lv [2, 3, 4, 5, 0] rfl ?_
          exact ih _ _ _ _ o hf E0
def f_X1_reachAll_words (a_words : (Nat → Int32)) (a_base : Int32) (a_marks : (Nat → Int32)) (a_order : (Nat → Int32)) (a_reached : Int32) (x2 : Int32) (x3 : Int32) : Option ((Nat → Int32) × (Nat → Int32) × Int32) :=
  Option.bind (f_X1_reachAll_words_L3 a_words a_base x2 x3 FU x2 a_marks a_order a_reached) fun o9 => some (o9.1, o9.2.1, o9.2.2)
set_option maxHeartbeats 4000000 in
set_option maxRecDepth 100000 in
theorem c_X1_reachAll_words (l : Launch) (dC : Nat → ClassId) (dI : Nat → Nat → Nat) (cI cJ cH : ClassId) (a_p a_words_p a_roots_p a_heads_p a_marks_p a_order_p a_targets_p : Nat)  (a_words : (Nat → Int32)) (a_roots : (Nat → Int32)) (a_base : Int32) (a_top : Int32) (a_heads : (Nat → Int32)) (a_objects : Int32) (a_marks : (Nat → Int32)) (a_order : (Nat → Int32)) (a_reached : Int32) (a_targets : (Nat → Int32)) (x2 : Int32) (x3 : Int32) (o : ((Nat → Int32) × (Nat → Int32) × Int32)) (hf : f_X1_reachAll_words a_words a_base a_marks a_order a_reached x2 x3 = some o) : ∀ sz : Nat, Met l yX1_reachAll wsX1_reachAll rm_X1_reachAll_words (gPre [.ref a_p, .ref a_words_p, .int x2, .int x3] (dC, dI) vwCl (gT cI cJ cH) (wHp cI a_p a_words_p a_roots_p a_heads_p a_marks_p a_order_p a_targets_p a_words a_roots a_base a_top a_heads a_objects a_marks a_order a_reached a_targets) sz) (va_Qv (fun (u : ((Nat → Int32) × (Nat → Int32) × Int32)) => o = u) (gB (dC, dI) vwCl (gT cI cJ cH) (fun (u : ((Nat → Int32) × (Nat → Int32) × Int32)) => wHp cI a_p a_words_p a_roots_p a_heads_p a_marks_p a_order_p a_targets_p a_words a_roots a_base a_top a_heads a_objects u.1 u.2.1 u.2.2 a_targets) (va_A (wHp cI a_p a_words_p a_roots_p a_heads_p a_marks_p a_order_p a_targets_p a_words a_roots a_base a_top a_heads a_objects a_marks a_order a_reached a_targets) sz)) (va_A (wHp cI a_p a_words_p a_roots_p a_heads_p a_marks_p a_order_p a_targets_p a_words a_roots a_base a_top a_heads a_objects a_marks a_order a_reached a_targets) sz)) 0 0 (va_A (wHp cI a_p a_words_p a_roots_p a_heads_p a_marks_p a_order_p a_targets_p a_words a_roots a_base a_top a_heads a_objects a_marks a_order a_reached a_targets) sz) := by
  refine g_met (fun A => va_Qv (fun (u : ((Nat → Int32) × (Nat → Int32) × Int32)) => o = u) (gB (dC, dI) vwCl (gT cI cJ cH) (fun (u : ((Nat → Int32) × (Nat → Int32) × Int32)) => wHp cI a_p a_words_p a_roots_p a_heads_p a_marks_p a_order_p a_targets_p a_words a_roots a_base a_top a_heads a_objects u.1 u.2.1 u.2.2 a_targets) A) A) (by decide) rfl (Nat.le_of_ble_eq_true rfl) ?_
  intro p e s m args below meth c A Q F hlocks hr hname hN hQ
  unfold f_X1_reachAll_words at hf
  refine g_lvE (lv' := [(0, .ref a_p), (1, .ref a_words_p), (2, .int x2), (3, .int x3)]) rfl ?_
  refine g_iload_n F dX1_reachAll_0 rfl 2 rfl ?_
  refine g_istore (lv' := [(4, .int x2), (0, .ref a_p), (1, .ref a_words_p), (2, .int x2), (3, .int x3)]) F dX1_reachAll_1 (by decide) rfl ?_
  obtain ⟨o9, ho9, hf⟩ := bnE hf
  refine g_lv [1, 2, 3, 4, 0] rfl ?_
  refine w_X1_reachAll_words_L3 F hN FU _ _ _ _ o9 ho9 ?_
  subst hQ
  exact g_vret F hlocks hr (o9.1, o9.2.1, o9.2.2) rfl (Option.some.inj hf).symm dX1_reachAll_75

/-! HeapImages$Heap.findOrder()V -/
def rm_X1_findOrder : Room := { frames := 2, cells := 0, slots := 0, locals := 48 }
theorem h_X1_findOrder_1 : ∀ w ∈ wsX10, w ∈ wsX1_findOrder := by decide +kernel
def f_X1_findOrder_L17_s (a_words : (Nat → Int32)) (a_base : Int32) (rc : Int32 → (Nat → Int32) → (Nat → Int32) → Int32 → Option ((Nat → Int32) × (Nat → Int32) × Int32)) (z1 : Int32) (a_marks : (Nat → Int32)) (a_order : (Nat → Int32)) (a_reached : Int32) : Option ((Nat → Int32) × (Nat → Int32) × Int32) :=
  if a_reached ≤ z1 then some (a_marks, a_order, a_reached) else if (256 : Int32) ≤ z1 then some (a_marks, a_order, a_reached) else ck (inR z1 256) (ck (inR z1 256) (ck (inR (a_order z1.toNatClampNeg) 256) (Option.bind (f_X3_valuesOf (a_words (a_order z1.toNatClampNeg).toNatClampNeg)) fun o5 => Option.bind (f_X1_reachAll_words a_words a_base a_marks a_order a_reached ((a_order z1.toNatClampNeg) + (1 : Int32)) o5) fun o6 => nm (z1 + (1 : Int32)) fun v7 => rc v7 o6.1 o6.2.1 o6.2.2)))
def f_X1_findOrder_L17 (a_words : (Nat → Int32)) (a_base : Int32) : Nat → Int32 → (Nat → Int32) → (Nat → Int32) → Int32 → Option ((Nat → Int32) × (Nat → Int32) × Int32)
  | 0, _, _, _, _ => none
  | n + 1, z1, a_marks, a_order, a_reached => f_X1_findOrder_L17_s a_words a_base (f_X1_findOrder_L17 a_words a_base n) z1 a_marks a_order a_reached
set_option maxHeartbeats 4000000 in
theorem w_X1_findOrder_L17 {p : Program} {l : Launch} {e : Env} {s : State} {m : MethodId} {args : Array Value} {below : List Frame} {meth : Method} {c : Code} {A : Nat → Prop} {Q : State → Prop} {dC : Nat → ClassId} {dI : Nat → Nat → Nat} {cI cJ cH : ClassId} {a_p a_words_p a_roots_p a_heads_p a_marks_p a_order_p a_targets_p : Nat} {a_words : (Nat → Int32)} {a_roots : (Nat → Int32)} {a_base : Int32} {a_top : Int32} {a_heads : (Nat → Int32)} {a_objects : Int32} {a_targets : (Nat → Int32)}  (F : gF p m c cX1_findOrder 2 s args wsX1_findOrder yX1_findOrder.cls (dC, dI) vwCl (gT cI cJ cH) A) (hN : ∀ w ∈ gN, va_Nw w s) : ∀ (n : Nat) (z1 : Int32) (a_marks : (Nat → Int32)) (a_order : (Nat → Int32)) (a_reached : Int32) (o : ((Nat → Int32) × (Nat → Int32) × Int32)), f_X1_findOrder_L17 a_words a_base n z1 a_marks a_order a_reached = some o → (gW p l e rm_X1_findOrder s m args below meth c 0 0 Q (dC, dI) vwCl A 2 (wHp cI a_p a_words_p a_roots_p a_heads_p a_marks_p a_order_p a_targets_p a_words a_roots a_base a_top a_heads a_objects o.1 o.2.1 o.2.2 a_targets) [] 68 []) → gW p l e rm_X1_findOrder s m args below meth c 0 0 Q (dC, dI) vwCl A 2 (wHp cI a_p a_words_p a_roots_p a_heads_p a_marks_p a_order_p a_targets_p a_words a_roots a_base a_top a_heads a_objects a_marks a_order a_reached a_targets) [(0, .ref a_p), (1, .int z1)] 17 [] := by
  intro n
  induction n with
  | zero =>
    intro z1 a_marks a_order a_reached o hf E0
    change none = some o at hf
    cases hf
  | succ n ih =>
    intro z1 a_marks a_order a_reached o hf E0
    change f_X1_findOrder_L17_s a_words a_base (f_X1_findOrder_L17 a_words a_base n) z1 a_marks a_order a_reached = some o at hf
    unfold f_X1_findOrder_L17_s at hf
    refine g_iload_n F dX1_findOrder_17 rfl 1 rfl ?_
    refine g_aload_n F dX1_findOrder_18 rfl 0 rfl ?_
    refine g_get F h_X1_findOrder_1 0 rfl rfl 8 (by decide) (by decide +kernel) rfl dX1_findOrder_19 ?_
    refine g_icmp_ge (tgt := 68) F dX1_findOrder_22 (by decide) (fun c22 => ?_) (fun c22 => ?_)
    · have hf := iteT hf c22
      cases hf
      refine g_lv [] rfl ?_
      exact E0
    · have hf := iteF hf c22
      refine g_iload_n F dX1_findOrder_25 rfl 1 rfl ?_
      refine g_sipush (v := 256) F dX1_findOrder_26 rfl ?_
      refine g_icmp_ge (tgt := 68) F dX1_findOrder_29 (by decide) (fun c29 => ?_) (fun c29 => ?_)
      · have hf := iteT hf c29
        cases hf
        refine g_lv [] rfl ?_
        exact E0
      · have hf := iteF hf c29
        refine g_aload_n F dX1_findOrder_32 rfl 0 rfl ?_
        refine g_aload_n F dX1_findOrder_33 rfl 0 rfl ?_
        refine g_get F h_X1_findOrder_1 0 rfl rfl 0 (by decide) (by decide +kernel) rfl dX1_findOrder_34 ?_
        refine g_aload_n F dX1_findOrder_37 rfl 0 rfl ?_
        refine g_get F h_X1_findOrder_1 0 rfl rfl 7 (by decide) (by decide +kernel) rfl dX1_findOrder_38 ?_
        refine g_iload_n F dX1_findOrder_41 rfl 1 rfl ?_
        obtain ⟨h2, hf⟩ := ckE hf
        refine g_iald F 5 0 rfl rfl h2 dX1_findOrder_42 ?_
        refine g_iconst (v := 1) F dX1_findOrder_43 rfl ?_
        refine g_iadd F dX1_findOrder_44 ?_
        refine g_aload_n F dX1_findOrder_45 rfl 0 rfl ?_
        refine g_get F h_X1_findOrder_1 0 rfl rfl 0 (by decide) (by decide +kernel) rfl dX1_findOrder_46 ?_
        refine g_aload_n F dX1_findOrder_49 rfl 0 rfl ?_
        refine g_get F h_X1_findOrder_1 0 rfl rfl 7 (by decide) (by decide +kernel) rfl dX1_findOrder_50 ?_
        refine g_iload_n F dX1_findOrder_53 rfl 1 rfl ?_
        obtain ⟨h3, hf⟩ := ckE hf
        refine g_iald F 5 0 rfl rfl h3 dX1_findOrder_54 ?_
        obtain ⟨h4, hf⟩ := ckE hf
        refine g_iald F 1 0 rfl rfl h4 dX1_findOrder_55 ?_
        obtain ⟨o5, ho5, hf⟩ := bnE hf
        refine g_callNi (host := "HeapImages") (n := 1) (As := [.int (a_words (a_order z1.toNatClampNeg).toNatClampNeg)]) F (c_X3_valuesOf l dC dI cI cJ cH (a_words (a_order z1.toNatClampNeg).toNatClampNeg) o5 ho5) ggX1_findOrder_X3_valuesOf rfl rfl rfl (by decide +kernel) (hN _ (by decide +kernel)) (by decide +kernel) (by decide +kernel) ⟨Nat.le_of_ble_eq_true rfl, Nat.le_of_ble_eq_true rfl⟩ ⟨Nat.le_of_ble_eq_true rfl, Nat.le_of_ble_eq_true rfl⟩ hN [] rfl rfl (fun _ => rfl) rfl (Nat.le_of_ble_eq_true rfl) rfl dX1_findOrder_56 (cells' := 0) (slots' := 0) rfl rfl (fun r u hp => ?_)
        subst hp
        refine g_ws (ws' := wHp cI a_p a_words_p a_roots_p a_heads_p a_marks_p a_order_p a_targets_p a_words a_roots a_base a_top a_heads a_objects a_marks a_order a_reached a_targets) rfl ?_
        obtain ⟨o6, ho6, hf⟩ := bnE hf
        refine g_callPv (n := 3) (As := [.ref a_words_p, .int ((a_order z1.toNatClampNeg) + (1 : Int32)), .int o5]) F (c_X1_reachAll_words l dC dI cI cJ cH a_p a_words_p a_roots_p a_heads_p a_marks_p a_order_p a_targets_p a_words a_roots a_base a_top a_heads a_objects a_marks a_order a_reached a_targets ((a_order z1.toNatClampNeg) + (1 : Int32)) o5 o6 ho6) ggX1_findOrder_X1_reachAll rfl rfl rfl (by decide +kernel) (by decide +kernel) (by decide +kernel) (by decide +kernel) (by decide +kernel) ⟨Nat.le_of_ble_eq_true rfl, Nat.le_of_ble_eq_true rfl⟩ ⟨Nat.le_of_ble_eq_true rfl, Nat.le_of_ble_eq_true rfl⟩ hN 0 rfl rfl rfl ([]) ([]) rfl (fun _ => rfl) rfl (Nat.le_of_ble_eq_true rfl) rfl dX1_findOrder_59 (cells' := 0) (slots' := 0) rfl rfl (fun u hp => ?_)
        subst hp
        refine g_ws (ws' := wHp cI a_p a_words_p a_roots_p a_heads_p a_marks_p a_order_p a_targets_p a_words a_roots a_base a_top a_heads a_objects o6.1 o6.2.1 o6.2.2 a_targets) rfl ?_
        obtain ⟨v7, ev7, hf⟩ := nmE hf
        refine g_iinc (j := 1) (lv' := [(1, .int v7), (0, .ref a_p)]) F dX1_findOrder_62 rfl ev7.symm (by decide) rfl ?_
        refine g_goto (tgt := 17) F dX1_findOrder_65 (by decide) ?_
        refine g_lv [1, 0] rfl ?_
        exact ih _ _ _ _ o hf E0
def f_X1_findOrder (a_words : (Nat → Int32)) (a_roots : (Nat → Int32)) (a_base : Int32) (a_marks : (Nat → Int32)) (a_order : (Nat → Int32)) (a_reached : Int32) : Option ((Nat → Int32) × (Nat → Int32) × Int32) :=
  Option.bind (f_X1_reachAll_roots a_roots a_base a_marks a_order (0 : Int32) (0 : Int32) (4 : Int32)) fun o1 => Option.bind (f_X1_findOrder_L17 a_words a_base FU (0 : Int32) o1.1 o1.2.1 o1.2.2) fun o8 => some (o8.1, o8.2.1, o8.2.2)
set_option maxHeartbeats 4000000 in
set_option maxRecDepth 100000 in
theorem c_X1_findOrder (l : Launch) (dC : Nat → ClassId) (dI : Nat → Nat → Nat) (cI cJ cH : ClassId) (a_p a_words_p a_roots_p a_heads_p a_marks_p a_order_p a_targets_p : Nat)  (a_words : (Nat → Int32)) (a_roots : (Nat → Int32)) (a_base : Int32) (a_top : Int32) (a_heads : (Nat → Int32)) (a_objects : Int32) (a_marks : (Nat → Int32)) (a_order : (Nat → Int32)) (a_reached : Int32) (a_targets : (Nat → Int32))  (o : ((Nat → Int32) × (Nat → Int32) × Int32)) (hf : f_X1_findOrder a_words a_roots a_base a_marks a_order a_reached = some o) : ∀ sz : Nat, Met l yX1_findOrder wsX1_findOrder rm_X1_findOrder (gPre [.ref a_p] (dC, dI) vwCl (gT cI cJ cH) (wHp cI a_p a_words_p a_roots_p a_heads_p a_marks_p a_order_p a_targets_p a_words a_roots a_base a_top a_heads a_objects a_marks a_order a_reached a_targets) sz) (va_Qv (fun (u : ((Nat → Int32) × (Nat → Int32) × Int32)) => o = u) (gB (dC, dI) vwCl (gT cI cJ cH) (fun (u : ((Nat → Int32) × (Nat → Int32) × Int32)) => wHp cI a_p a_words_p a_roots_p a_heads_p a_marks_p a_order_p a_targets_p a_words a_roots a_base a_top a_heads a_objects u.1 u.2.1 u.2.2 a_targets) (va_A (wHp cI a_p a_words_p a_roots_p a_heads_p a_marks_p a_order_p a_targets_p a_words a_roots a_base a_top a_heads a_objects a_marks a_order a_reached a_targets) sz)) (va_A (wHp cI a_p a_words_p a_roots_p a_heads_p a_marks_p a_order_p a_targets_p a_words a_roots a_base a_top a_heads a_objects a_marks a_order a_reached a_targets) sz)) 0 0 (va_A (wHp cI a_p a_words_p a_roots_p a_heads_p a_marks_p a_order_p a_targets_p a_words a_roots a_base a_top a_heads a_objects a_marks a_order a_reached a_targets) sz) := by
  refine g_met (fun A => va_Qv (fun (u : ((Nat → Int32) × (Nat → Int32) × Int32)) => o = u) (gB (dC, dI) vwCl (gT cI cJ cH) (fun (u : ((Nat → Int32) × (Nat → Int32) × Int32)) => wHp cI a_p a_words_p a_roots_p a_heads_p a_marks_p a_order_p a_targets_p a_words a_roots a_base a_top a_heads a_objects u.1 u.2.1 u.2.2 a_targets) A) A) (by decide) rfl (Nat.le_of_ble_eq_true rfl) ?_
  intro p e s m args below meth c A Q F hlocks hr hname hN hQ
  unfold f_X1_findOrder at hf
  refine g_lvE (lv' := [(0, .ref a_p)]) rfl ?_
  refine g_aload_n F dX1_findOrder_0 rfl 0 rfl ?_
  refine g_iconst (v := 0) F dX1_findOrder_1 rfl ?_
  refine g_put F h_X1_findOrder_1 tyX1 tyX1_ok nmX1 0 rfl rfl 8 (by decide) (by decide +kernel) rfl rfl rfl (Nat.le_of_ble_eq_true rfl) dX1_findOrder_2 (ws' := wHp cI a_p a_words_p a_roots_p a_heads_p a_marks_p a_order_p a_targets_p a_words a_roots a_base a_top a_heads a_objects a_marks a_order (0 : Int32) a_targets) rfl ?_
  refine g_aload_n F dX1_findOrder_5 rfl 0 rfl ?_
  refine g_aload_n F dX1_findOrder_6 rfl 0 rfl ?_
  refine g_get F h_X1_findOrder_1 0 rfl rfl 1 (by decide) (by decide +kernel) rfl dX1_findOrder_7 ?_
  refine g_iconst (v := 0) F dX1_findOrder_10 rfl ?_
  refine g_iconst (v := 4) F dX1_findOrder_11 rfl ?_
  obtain ⟨o1, ho1, hf⟩ := bnE hf
  refine g_callPv (n := 3) (As := [.ref a_roots_p, .int (0 : Int32), .int (4 : Int32)]) F (c_X1_reachAll_roots l dC dI cI cJ cH a_p a_words_p a_roots_p a_heads_p a_marks_p a_order_p a_targets_p a_words a_roots a_base a_top a_heads a_objects a_marks a_order (0 : Int32) a_targets (0 : Int32) (4 : Int32) o1 ho1) ggX1_findOrder_X1_reachAll rfl rfl rfl (by decide +kernel) (by decide +kernel) (by decide +kernel) (by decide +kernel) (by decide +kernel) ⟨Nat.le_of_ble_eq_true rfl, Nat.le_of_ble_eq_true rfl⟩ ⟨Nat.le_of_ble_eq_true rfl, Nat.le_of_ble_eq_true rfl⟩ hN 0 rfl rfl rfl ([]) ([]) rfl (fun _ => rfl) rfl (Nat.le_of_ble_eq_true rfl) rfl dX1_findOrder_12 (cells' := 0) (slots' := 0) rfl rfl (fun u hp => ?_)
  subst hp
  refine g_ws (ws' := wHp cI a_p a_words_p a_roots_p a_heads_p a_marks_p a_order_p a_targets_p a_words a_roots a_base a_top a_heads a_objects o1.1 o1.2.1 o1.2.2 a_targets) rfl ?_
  refine g_iconst (v := 0) F dX1_findOrder_15 rfl ?_
  refine g_istore_n (lv' := [(1, .int (0 : Int32)), (0, .ref a_p)]) F dX1_findOrder_16 rfl (by decide) rfl ?_
  obtain ⟨o8, ho8, hf⟩ := bnE hf
  refine g_lv [1, 0] rfl ?_
  refine w_X1_findOrder_L17 F hN FU _ _ _ _ o8 ho8 ?_
  subst hQ
  exact g_vret F hlocks hr (o8.1, o8.2.1, o8.2.2) rfl (Option.some.inj hf).symm dX1_findOrder_68

/-! HeapImages$Heap.redirectAll([IIII)I -/
def rm_X1_redirectAll_roots : Room := { frames := 1, cells := 0, slots := 0, locals := 23 }
theorem h_X1_redirectAll_1 : ∀ w ∈ wsX10, w ∈ wsX1_redirectAll := by decide +kernel
def f_X1_redirectAll_roots_L6_s (a_base : Int32) (a_marks : (Nat → Int32)) (a_targets : (Nat → Int32)) (y2 : Int32) (y3 : Int32) (y4 : Int32) (rc : Int32 → Int32 → (Nat → Int32) → Option (Int32 × (Nat → Int32))) (z5 : Int32) (z6 : Int32) (a_roots : (Nat → Int32)) : Option (Int32 × (Nat → Int32)) :=
  if (y2 + y3) ≤ z6 then some (z5, a_roots) else ck (inR z6 4) (Option.bind (f_X1_headOf a_base a_marks (a_roots z6.toNatClampNeg)) fun o2 => Option.bind (α := Int32) (if 0 ≤ o2 then ck (inR o2 256) (some (y4 + ((4 : Int32) * (a_targets o2.toNatClampNeg)))) else ck (inR z6 4) (some (a_roots z6.toNatClampNeg))) fun j3 => ck (inR z6 4) (if j3 = (a_roots z6.toNatClampNeg) then nm (z6 + (1 : Int32)) fun v5 => rc z5 v5 a_roots else ck (inR z6 4) (nm (z5 + (1 : Int32)) fun v7 => nm (z6 + (1 : Int32)) fun v8 => rc v7 v8 (upd a_roots z6.toNatClampNeg j3))))
def f_X1_redirectAll_roots_L6 (a_base : Int32) (a_marks : (Nat → Int32)) (a_targets : (Nat → Int32)) (y2 : Int32) (y3 : Int32) (y4 : Int32) : Nat → Int32 → Int32 → (Nat → Int32) → Option (Int32 × (Nat → Int32))
  | 0, _, _, _ => none
  | n + 1, z5, z6, a_roots => f_X1_redirectAll_roots_L6_s a_base a_marks a_targets y2 y3 y4 (f_X1_redirectAll_roots_L6 a_base a_marks a_targets y2 y3 y4 n) z5 z6 a_roots
set_option maxHeartbeats 4000000 in
theorem w_X1_redirectAll_roots_L6 {p : Program} {l : Launch} {e : Env} {s : State} {m : MethodId} {args : Array Value} {below : List Frame} {meth : Method} {c : Code} {A : Nat → Prop} {Q : State → Prop} {dC : Nat → ClassId} {dI : Nat → Nat → Nat} {cI cJ cH : ClassId} {a_p a_words_p a_roots_p a_heads_p a_marks_p a_order_p a_targets_p : Nat} {a_words : (Nat → Int32)} {a_base : Int32} {a_top : Int32} {a_heads : (Nat → Int32)} {a_objects : Int32} {a_marks : (Nat → Int32)} {a_order : (Nat → Int32)} {a_reached : Int32} {a_targets : (Nat → Int32)} {y2 : Int32} {y3 : Int32} {y4 : Int32} (F : gF p m c cX1_redirectAll 9 s args wsX1_redirectAll yX1_redirectAll.cls (dC, dI) vwCl (gT cI cJ cH) A) (hN : ∀ w ∈ gN, va_Nw w s) : ∀ (n : Nat) (z5 : Int32) (z6 : Int32) (a_roots : (Nat → Int32)) (o : (Int32 × (Nat → Int32))), f_X1_redirectAll_roots_L6 a_base a_marks a_targets y2 y3 y4 n z5 z6 a_roots = some o → (gW p l e rm_X1_redirectAll_roots s m args below meth c 0 0 Q (dC, dI) vwCl A 9 (wHp cI a_p a_words_p a_roots_p a_heads_p a_marks_p a_order_p a_targets_p a_words o.2 a_base a_top a_heads a_objects a_marks a_order a_reached a_targets) [(5, .int o.1)] 74 []) → gW p l e rm_X1_redirectAll_roots s m args below meth c 0 0 Q (dC, dI) vwCl A 9 (wHp cI a_p a_words_p a_roots_p a_heads_p a_marks_p a_order_p a_targets_p a_words a_roots a_base a_top a_heads a_objects a_marks a_order a_reached a_targets) [(0, .ref a_p), (1, .ref a_roots_p), (2, .int y2), (3, .int y3), (4, .int y4), (5, .int z5), (6, .int z6)] 6 [] := by
  intro n
  induction n with
  | zero =>
    intro z5 z6 a_roots o hf E0
    change none = some o at hf
    cases hf
  | succ n ih =>
    intro z5 z6 a_roots o hf E0
    change f_X1_redirectAll_roots_L6_s a_base a_marks a_targets y2 y3 y4 (f_X1_redirectAll_roots_L6 a_base a_marks a_targets y2 y3 y4 n) z5 z6 a_roots = some o at hf
    unfold f_X1_redirectAll_roots_L6_s at hf
    refine g_iload F dX1_redirectAll_6 6 rfl ?_
    refine g_iload_n F dX1_redirectAll_8 rfl 2 rfl ?_
    refine g_iload_n F dX1_redirectAll_9 rfl 3 rfl ?_
    refine g_iadd F dX1_redirectAll_10 ?_
    refine g_icmp_ge (tgt := 74) F dX1_redirectAll_11 (by decide) (fun c11 => ?_) (fun c11 => ?_)
    · have hf := iteT hf c11
      cases hf
      refine g_lv [5] rfl ?_
      exact E0
    · have hf := iteF hf c11
      refine g_aload_n F dX1_redirectAll_14 rfl 0 rfl ?_
      refine g_aload_n F dX1_redirectAll_15 rfl 1 rfl ?_
      refine g_iload F dX1_redirectAll_16 6 rfl ?_
      obtain ⟨h1, hf⟩ := ckE hf
      refine g_iald F 2 0 rfl rfl h1 dX1_redirectAll_18 ?_
      obtain ⟨o2, ho2, hf⟩ := bnE hf
      refine g_callPi (n := 1) (As := [.int (a_roots z6.toNatClampNeg)]) F (c_X1_headOf l dC dI cI cJ cH a_p a_words_p a_roots_p a_heads_p a_marks_p a_order_p a_targets_p a_words a_roots a_base a_top a_heads a_objects a_marks a_order a_reached a_targets (a_roots z6.toNatClampNeg) o2 ho2) ggX1_redirectAll_X1_headOf rfl rfl rfl (by decide +kernel) (by decide +kernel) (by decide +kernel) (by decide +kernel) (by decide +kernel) ⟨Nat.le_of_ble_eq_true rfl, Nat.le_of_ble_eq_true rfl⟩ ⟨Nat.le_of_ble_eq_true rfl, Nat.le_of_ble_eq_true rfl⟩ hN 0 rfl rfl rfl ([]) ([]) rfl (fun _ => rfl) rfl (Nat.le_of_ble_eq_true rfl) rfl dX1_redirectAll_19 (cells' := 0) (slots' := 0) rfl rfl (fun r u hp => ?_)
      subst hp
      refine g_ws (ws' := wHp cI a_p a_words_p a_roots_p a_heads_p a_marks_p a_order_p a_targets_p a_words a_roots a_base a_top a_heads a_objects a_marks a_order a_reached a_targets) rfl ?_
      refine g_istore (lv' := [(7, .int o2), (0, .ref a_p), (1, .ref a_roots_p), (2, .int y2), (3, .int y3), (4, .int y4), (5, .int z5), (6, .int z6)]) F dX1_redirectAll_22 (by decide) rfl ?_
      refine g_iload F dX1_redirectAll_24 0 rfl ?_
      obtain ⟨j3, hj3, hf⟩ := bnE hf
      have Kj3 : gW p l e rm_X1_redirectAll_roots s m args below meth c 0 0 Q (dC, dI) vwCl A 9 (wHp cI a_p a_words_p a_roots_p a_heads_p a_marks_p a_order_p a_targets_p a_words a_roots a_base a_top a_heads a_objects a_marks a_order a_reached a_targets) [(0, .ref a_p), (1, .ref a_roots_p), (2, .int y2), (3, .int y3), (4, .int y4), (5, .int z5), (6, .int z6)] 48 [.int j3] := by
        refine g_istore (lv' := [(8, .int j3), (0, .ref a_p), (1, .ref a_roots_p), (2, .int y2), (3, .int y3), (4, .int y4), (5, .int z5), (6, .int z6)]) F dX1_redirectAll_48 (by decide) rfl ?_
        refine g_iload F dX1_redirectAll_50 0 rfl ?_
        refine g_aload_n F dX1_redirectAll_52 rfl 2 rfl ?_
        refine g_iload F dX1_redirectAll_53 7 rfl ?_
        obtain ⟨h4, hf⟩ := ckE hf
        refine g_iald F 2 0 rfl rfl h4 dX1_redirectAll_55 ?_
        refine g_icmp_eq (tgt := 68) F dX1_redirectAll_56 (by decide) (fun c56 => ?_) (fun c56 => ?_)
        · have hf := iteT hf c56
          obtain ⟨v5, ev5, hf⟩ := nmE hf
          refine g_iinc (j := 7) (lv' := [(6, .int v5), (8, .int j3), (0, .ref a_p), (1, .ref a_roots_p), (2, .int y2), (3, .int y3), (4, .int y4), (5, .int z5)]) F dX1_redirectAll_68 rfl ev5.symm (by decide) rfl ?_
          refine g_goto (tgt := 6) F dX1_redirectAll_71 (by decide) ?_
          refine g_lv [2, 3, 4, 5, 6, 7, 0] rfl ?_
          exact ih _ _ _ o hf E0
        · have hf := iteF hf c56
          refine g_aload_n F dX1_redirectAll_59 rfl 2 rfl ?_
          refine g_iload F dX1_redirectAll_60 7 rfl ?_
          refine g_iload F dX1_redirectAll_62 0 rfl ?_
          obtain ⟨h6, hf⟩ := ckE hf
          refine g_iast F 2 0 rfl rfl h6 dX1_redirectAll_64 (ws' := wHp cI a_p a_words_p a_roots_p a_heads_p a_marks_p a_order_p a_targets_p a_words (upd a_roots z6.toNatClampNeg j3) a_base a_top a_heads a_objects a_marks a_order a_reached a_targets) rfl ?_
          obtain ⟨v7, ev7, hf⟩ := nmE hf
          refine g_iinc (j := 6) (lv' := [(5, .int v7), (8, .int j3), (0, .ref a_p), (1, .ref a_roots_p), (2, .int y2), (3, .int y3), (4, .int y4), (6, .int z6)]) F dX1_redirectAll_65 rfl ev7.symm (by decide) rfl ?_
          obtain ⟨v8, ev8, hf⟩ := nmE hf
          refine g_iinc (j := 7) (lv' := [(6, .int v8), (5, .int v7), (8, .int j3), (0, .ref a_p), (1, .ref a_roots_p), (2, .int y2), (3, .int y3), (4, .int y4)]) F dX1_redirectAll_68 rfl ev8.symm (by decide) rfl ?_
          refine g_goto (tgt := 6) F dX1_redirectAll_71 (by decide) ?_
          refine g_lv [3, 4, 5, 6, 7, 1, 0] rfl ?_
          exact ih _ _ _ o hf E0
      clear hf
      have hf := hj3
      refine g_if_ge (tgt := 36) F dX1_redirectAll_26 (by decide) (fun c26 => ?_) (fun c26 => ?_)
      · have hf := iteT hf c26
        refine g_iload F dX1_redirectAll_36 5 rfl ?_
        refine g_iconst (v := 4) F dX1_redirectAll_38 rfl ?_
        refine g_aload_n F dX1_redirectAll_39 rfl 1 rfl ?_
        refine g_get F h_X1_redirectAll_1 0 rfl rfl 9 (by decide) (by decide +kernel) rfl dX1_redirectAll_40 ?_
        refine g_iload F dX1_redirectAll_43 0 rfl ?_
        obtain ⟨h9, hf⟩ := ckE hf
        refine g_iald F 6 0 rfl rfl h9 dX1_redirectAll_45 ?_
        refine g_imul F dX1_redirectAll_46 ?_
        refine g_iadd F dX1_redirectAll_47 ?_
        cases hf
        refine g_lv [1, 2, 3, 4, 5, 6, 7] rfl ?_
        exact Kj3
      · have hf := iteF hf c26
        refine g_aload_n F dX1_redirectAll_29 rfl 2 rfl ?_
        refine g_iload F dX1_redirectAll_30 7 rfl ?_
        obtain ⟨h10, hf⟩ := ckE hf
        refine g_iald F 2 0 rfl rfl h10 dX1_redirectAll_32 ?_
        refine g_goto (tgt := 48) F dX1_redirectAll_33 (by decide) ?_
        cases hf
        refine g_lv [1, 2, 3, 4, 5, 6, 7] rfl ?_
        exact Kj3
def f_X1_redirectAll_roots (a_roots : (Nat → Int32)) (a_base : Int32) (a_marks : (Nat → Int32)) (a_targets : (Nat → Int32)) (x2 : Int32) (x3 : Int32) (x4 : Int32) : Option (Int32 × (Nat → Int32)) :=
  Option.bind (f_X1_redirectAll_roots_L6 a_base a_marks a_targets x2 x3 x4 FU (0 : Int32) x2 a_roots) fun o11 => some (o11.1, o11.2)
set_option maxHeartbeats 4000000 in
set_option maxRecDepth 100000 in
theorem c_X1_redirectAll_roots (l : Launch) (dC : Nat → ClassId) (dI : Nat → Nat → Nat) (cI cJ cH : ClassId) (a_p a_words_p a_roots_p a_heads_p a_marks_p a_order_p a_targets_p : Nat)  (a_words : (Nat → Int32)) (a_roots : (Nat → Int32)) (a_base : Int32) (a_top : Int32) (a_heads : (Nat → Int32)) (a_objects : Int32) (a_marks : (Nat → Int32)) (a_order : (Nat → Int32)) (a_reached : Int32) (a_targets : (Nat → Int32)) (x2 : Int32) (x3 : Int32) (x4 : Int32) (o : (Int32 × (Nat → Int32))) (hf : f_X1_redirectAll_roots a_roots a_base a_marks a_targets x2 x3 x4 = some o) : ∀ sz : Nat, Met l yX1_redirectAll wsX1_redirectAll rm_X1_redirectAll_roots (gPre [.ref a_p, .ref a_roots_p, .int x2, .int x3, .int x4] (dC, dI) vwCl (gT cI cJ cH) (wHp cI a_p a_words_p a_roots_p a_heads_p a_marks_p a_order_p a_targets_p a_words a_roots a_base a_top a_heads a_objects a_marks a_order a_reached a_targets) sz) (va_Qi (fun (r : Int32) (u : (Nat → Int32)) => o.1 = r ∧ o.2 = u) (gB (dC, dI) vwCl (gT cI cJ cH) (fun (u : (Nat → Int32)) => wHp cI a_p a_words_p a_roots_p a_heads_p a_marks_p a_order_p a_targets_p a_words u a_base a_top a_heads a_objects a_marks a_order a_reached a_targets) (va_A (wHp cI a_p a_words_p a_roots_p a_heads_p a_marks_p a_order_p a_targets_p a_words a_roots a_base a_top a_heads a_objects a_marks a_order a_reached a_targets) sz)) (va_A (wHp cI a_p a_words_p a_roots_p a_heads_p a_marks_p a_order_p a_targets_p a_words a_roots a_base a_top a_heads a_objects a_marks a_order a_reached a_targets) sz)) 0 0 (va_A (wHp cI a_p a_words_p a_roots_p a_heads_p a_marks_p a_order_p a_targets_p a_words a_roots a_base a_top a_heads a_objects a_marks a_order a_reached a_targets) sz) := by
  refine g_met (fun A => va_Qi (fun (r : Int32) (u : (Nat → Int32)) => o.1 = r ∧ o.2 = u) (gB (dC, dI) vwCl (gT cI cJ cH) (fun (u : (Nat → Int32)) => wHp cI a_p a_words_p a_roots_p a_heads_p a_marks_p a_order_p a_targets_p a_words u a_base a_top a_heads a_objects a_marks a_order a_reached a_targets) A) A) (by decide) rfl (Nat.le_of_ble_eq_true rfl) ?_
  intro p e s m args below meth c A Q F hlocks hr hname hN hQ
  unfold f_X1_redirectAll_roots at hf
  refine g_lvE (lv' := [(0, .ref a_p), (1, .ref a_roots_p), (2, .int x2), (3, .int x3), (4, .int x4)]) rfl ?_
  refine g_iconst (v := 0) F dX1_redirectAll_0 rfl ?_
  refine g_istore (lv' := [(5, .int (0 : Int32)), (0, .ref a_p), (1, .ref a_roots_p), (2, .int x2), (3, .int x3), (4, .int x4)]) F dX1_redirectAll_1 (by decide) rfl ?_
  refine g_iload_n F dX1_redirectAll_3 rfl 3 rfl ?_
  refine g_istore (lv' := [(6, .int x2), (5, .int (0 : Int32)), (0, .ref a_p), (1, .ref a_roots_p), (2, .int x2), (3, .int x3), (4, .int x4)]) F dX1_redirectAll_4 (by decide) rfl ?_
  obtain ⟨o11, ho11, hf⟩ := bnE hf
  refine g_lv [2, 3, 4, 5, 6, 1, 0] rfl ?_
  refine w_X1_redirectAll_roots_L6 F hN FU _ _ _ o11 ho11 ?_
  refine g_iload F dX1_redirectAll_74 0 rfl ?_
  subst hQ
  exact g_iret F hlocks hr o11.2 rfl (pr2 (Option.some.inj hf)) dX1_redirectAll_76

/-! HeapImages$Heap.redirectAll([IIII)I -/
def rm_X1_redirectAll_words : Room := { frames := 1, cells := 0, slots := 0, locals := 23 }
def f_X1_redirectAll_words_L6_s (a_base : Int32) (a_marks : (Nat → Int32)) (a_targets : (Nat → Int32)) (y2 : Int32) (y3 : Int32) (y4 : Int32) (rc : Int32 → Int32 → (Nat → Int32) → Option (Int32 × (Nat → Int32))) (z5 : Int32) (z6 : Int32) (a_words : (Nat → Int32)) : Option (Int32 × (Nat → Int32)) :=
  if (y2 + y3) ≤ z6 then some (z5, a_words) else ck (inR z6 256) (Option.bind (f_X1_headOf a_base a_marks (a_words z6.toNatClampNeg)) fun o2 => Option.bind (α := Int32) (if 0 ≤ o2 then ck (inR o2 256) (some (y4 + ((4 : Int32) * (a_targets o2.toNatClampNeg)))) else ck (inR z6 256) (some (a_words z6.toNatClampNeg))) fun j3 => ck (inR z6 256) (if j3 = (a_words z6.toNatClampNeg) then nm (z6 + (1 : Int32)) fun v5 => rc z5 v5 a_words else ck (inR z6 256) (nm (z5 + (1 : Int32)) fun v7 => nm (z6 + (1 : Int32)) fun v8 => rc v7 v8 (upd a_words z6.toNatClampNeg j3))))
def f_X1_redirectAll_words_L6 (a_base : Int32) (a_marks : (Nat → Int32)) (a_targets : (Nat → Int32)) (y2 : Int32) (y3 : Int32) (y4 : Int32) : Nat → Int32 → Int32 → (Nat → Int32) → Option (Int32 × (Nat → Int32))
  | 0, _, _, _ => none
  | n + 1, z5, z6, a_words => f_X1_redirectAll_words_L6_s a_base a_marks a_targets y2 y3 y4 (f_X1_redirectAll_words_L6 a_base a_marks a_targets y2 y3 y4 n) z5 z6 a_words
set_option maxHeartbeats 4000000 in
theorem w_X1_redirectAll_words_L6 {p : Program} {l : Launch} {e : Env} {s : State} {m : MethodId} {args : Array Value} {below : List Frame} {meth : Method} {c : Code} {A : Nat → Prop} {Q : State → Prop} {dC : Nat → ClassId} {dI : Nat → Nat → Nat} {cI cJ cH : ClassId} {a_p a_words_p a_roots_p a_heads_p a_marks_p a_order_p a_targets_p : Nat} {a_roots : (Nat → Int32)} {a_base : Int32} {a_top : Int32} {a_heads : (Nat → Int32)} {a_objects : Int32} {a_marks : (Nat → Int32)} {a_order : (Nat → Int32)} {a_reached : Int32} {a_targets : (Nat → Int32)} {y2 : Int32} {y3 : Int32} {y4 : Int32} (F : gF p m c cX1_redirectAll 9 s args wsX1_redirectAll yX1_redirectAll.cls (dC, dI) vwCl (gT cI cJ cH) A) (hN : ∀ w ∈ gN, va_Nw w s) : ∀ (n : Nat) (z5 : Int32) (z6 : Int32) (a_words : (Nat → Int32)) (o : (Int32 × (Nat → Int32))), f_X1_redirectAll_words_L6 a_base a_marks a_targets y2 y3 y4 n z5 z6 a_words = some o → (gW p l e rm_X1_redirectAll_words s m args below meth c 0 0 Q (dC, dI) vwCl A 9 (wHp cI a_p a_words_p a_roots_p a_heads_p a_marks_p a_order_p a_targets_p o.2 a_roots a_base a_top a_heads a_objects a_marks a_order a_reached a_targets) [(5, .int o.1)] 74 []) → gW p l e rm_X1_redirectAll_words s m args below meth c 0 0 Q (dC, dI) vwCl A 9 (wHp cI a_p a_words_p a_roots_p a_heads_p a_marks_p a_order_p a_targets_p a_words a_roots a_base a_top a_heads a_objects a_marks a_order a_reached a_targets) [(0, .ref a_p), (1, .ref a_words_p), (2, .int y2), (3, .int y3), (4, .int y4), (5, .int z5), (6, .int z6)] 6 [] := by
  intro n
  induction n with
  | zero =>
    intro z5 z6 a_words o hf E0
    change none = some o at hf
    cases hf
  | succ n ih =>
    intro z5 z6 a_words o hf E0
    change f_X1_redirectAll_words_L6_s a_base a_marks a_targets y2 y3 y4 (f_X1_redirectAll_words_L6 a_base a_marks a_targets y2 y3 y4 n) z5 z6 a_words = some o at hf
    unfold f_X1_redirectAll_words_L6_s at hf
    refine g_iload F dX1_redirectAll_6 6 rfl ?_
    refine g_iload_n F dX1_redirectAll_8 rfl 2 rfl ?_
    refine g_iload_n F dX1_redirectAll_9 rfl 3 rfl ?_
    refine g_iadd F dX1_redirectAll_10 ?_
    refine g_icmp_ge (tgt := 74) F dX1_redirectAll_11 (by decide) (fun c11 => ?_) (fun c11 => ?_)
    · have hf := iteT hf c11
      cases hf
      refine g_lv [5] rfl ?_
      exact E0
    · have hf := iteF hf c11
      refine g_aload_n F dX1_redirectAll_14 rfl 0 rfl ?_
      refine g_aload_n F dX1_redirectAll_15 rfl 1 rfl ?_
      refine g_iload F dX1_redirectAll_16 6 rfl ?_
      obtain ⟨h1, hf⟩ := ckE hf
      refine g_iald F 1 0 rfl rfl h1 dX1_redirectAll_18 ?_
      obtain ⟨o2, ho2, hf⟩ := bnE hf
      refine g_callPi (n := 1) (As := [.int (a_words z6.toNatClampNeg)]) F (c_X1_headOf l dC dI cI cJ cH a_p a_words_p a_roots_p a_heads_p a_marks_p a_order_p a_targets_p a_words a_roots a_base a_top a_heads a_objects a_marks a_order a_reached a_targets (a_words z6.toNatClampNeg) o2 ho2) ggX1_redirectAll_X1_headOf rfl rfl rfl (by decide +kernel) (by decide +kernel) (by decide +kernel) (by decide +kernel) (by decide +kernel) ⟨Nat.le_of_ble_eq_true rfl, Nat.le_of_ble_eq_true rfl⟩ ⟨Nat.le_of_ble_eq_true rfl, Nat.le_of_ble_eq_true rfl⟩ hN 0 rfl rfl rfl ([]) ([]) rfl (fun _ => rfl) rfl (Nat.le_of_ble_eq_true rfl) rfl dX1_redirectAll_19 (cells' := 0) (slots' := 0) rfl rfl (fun r u hp => ?_)
      subst hp
      refine g_ws (ws' := wHp cI a_p a_words_p a_roots_p a_heads_p a_marks_p a_order_p a_targets_p a_words a_roots a_base a_top a_heads a_objects a_marks a_order a_reached a_targets) rfl ?_
      refine g_istore (lv' := [(7, .int o2), (0, .ref a_p), (1, .ref a_words_p), (2, .int y2), (3, .int y3), (4, .int y4), (5, .int z5), (6, .int z6)]) F dX1_redirectAll_22 (by decide) rfl ?_
      refine g_iload F dX1_redirectAll_24 0 rfl ?_
      obtain ⟨j3, hj3, hf⟩ := bnE hf
      have Kj3 : gW p l e rm_X1_redirectAll_words s m args below meth c 0 0 Q (dC, dI) vwCl A 9 (wHp cI a_p a_words_p a_roots_p a_heads_p a_marks_p a_order_p a_targets_p a_words a_roots a_base a_top a_heads a_objects a_marks a_order a_reached a_targets) [(0, .ref a_p), (1, .ref a_words_p), (2, .int y2), (3, .int y3), (4, .int y4), (5, .int z5), (6, .int z6)] 48 [.int j3] := by
        refine g_istore (lv' := [(8, .int j3), (0, .ref a_p), (1, .ref a_words_p), (2, .int y2), (3, .int y3), (4, .int y4), (5, .int z5), (6, .int z6)]) F dX1_redirectAll_48 (by decide) rfl ?_
        refine g_iload F dX1_redirectAll_50 0 rfl ?_
        refine g_aload_n F dX1_redirectAll_52 rfl 2 rfl ?_
        refine g_iload F dX1_redirectAll_53 7 rfl ?_
        obtain ⟨h4, hf⟩ := ckE hf
        refine g_iald F 1 0 rfl rfl h4 dX1_redirectAll_55 ?_
        refine g_icmp_eq (tgt := 68) F dX1_redirectAll_56 (by decide) (fun c56 => ?_) (fun c56 => ?_)
        · have hf := iteT hf c56
          obtain ⟨v5, ev5, hf⟩ := nmE hf
          refine g_iinc (j := 7) (lv' := [(6, .int v5), (8, .int j3), (0, .ref a_p), (1, .ref a_words_p), (2, .int y2), (3, .int y3), (4, .int y4), (5, .int z5)]) F dX1_redirectAll_68 rfl ev5.symm (by decide) rfl ?_
          refine g_goto (tgt := 6) F dX1_redirectAll_71 (by decide) ?_
          refine g_lv [2, 3, 4, 5, 6, 7, 0] rfl ?_
          exact ih _ _ _ o hf E0
        · have hf := iteF hf c56
          refine g_aload_n F dX1_redirectAll_59 rfl 2 rfl ?_
          refine g_iload F dX1_redirectAll_60 7 rfl ?_
          refine g_iload F dX1_redirectAll_62 0 rfl ?_
          obtain ⟨h6, hf⟩ := ckE hf
          refine g_iast F 1 0 rfl rfl h6 dX1_redirectAll_64 (ws' := wHp cI a_p a_words_p a_roots_p a_heads_p a_marks_p a_order_p a_targets_p (upd a_words z6.toNatClampNeg j3) a_roots a_base a_top a_heads a_objects a_marks a_order a_reached a_targets) rfl ?_
          obtain ⟨v7, ev7, hf⟩ := nmE hf
          refine g_iinc (j := 6) (lv' := [(5, .int v7), (8, .int j3), (0, .ref a_p), (1, .ref a_words_p), (2, .int y2), (3, .int y3), (4, .int y4), (6, .int z6)]) F dX1_redirectAll_65 rfl ev7.symm (by decide) rfl ?_
          obtain ⟨v8, ev8, hf⟩ := nmE hf
          refine g_iinc (j := 7) (lv' := [(6, .int v8), (5, .int v7), (8, .int j3), (0, .ref a_p), (1, .ref a_words_p), (2, .int y2), (3, .int y3), (4, .int y4)]) F dX1_redirectAll_68 rfl ev8.symm (by decide) rfl ?_
          refine g_goto (tgt := 6) F dX1_redirectAll_71 (by decide) ?_
          refine g_lv [3, 4, 5, 6, 7, 1, 0] rfl ?_
          exact ih _ _ _ o hf E0
      clear hf
      have hf := hj3
      refine g_if_ge (tgt := 36) F dX1_redirectAll_26 (by decide) (fun c26 => ?_) (fun c26 => ?_)
      · have hf := iteT hf c26
        refine g_iload F dX1_redirectAll_36 5 rfl ?_
        refine g_iconst (v := 4) F dX1_redirectAll_38 rfl ?_
        refine g_aload_n F dX1_redirectAll_39 rfl 1 rfl ?_
        refine g_get F h_X1_redirectAll_1 0 rfl rfl 9 (by decide) (by decide +kernel) rfl dX1_redirectAll_40 ?_
        refine g_iload F dX1_redirectAll_43 0 rfl ?_
        obtain ⟨h9, hf⟩ := ckE hf
        refine g_iald F 6 0 rfl rfl h9 dX1_redirectAll_45 ?_
        refine g_imul F dX1_redirectAll_46 ?_
        refine g_iadd F dX1_redirectAll_47 ?_
        cases hf
        refine g_lv [1, 2, 3, 4, 5, 6, 7] rfl ?_
        exact Kj3
      · have hf := iteF hf c26
        refine g_aload_n F dX1_redirectAll_29 rfl 2 rfl ?_
        refine g_iload F dX1_redirectAll_30 7 rfl ?_
        obtain ⟨h10, hf⟩ := ckE hf
        refine g_iald F 1 0 rfl rfl h10 dX1_redirectAll_32 ?_
        refine g_goto (tgt := 48) F dX1_redirectAll_33 (by decide) ?_
        cases hf
        refine g_lv [1, 2, 3, 4, 5, 6, 7] rfl ?_
        exact Kj3
def f_X1_redirectAll_words (a_words : (Nat → Int32)) (a_base : Int32) (a_marks : (Nat → Int32)) (a_targets : (Nat → Int32)) (x2 : Int32) (x3 : Int32) (x4 : Int32) : Option (Int32 × (Nat → Int32)) :=
  Option.bind (f_X1_redirectAll_words_L6 a_base a_marks a_targets x2 x3 x4 FU (0 : Int32) x2 a_words) fun o11 => some (o11.1, o11.2)
set_option maxHeartbeats 4000000 in
set_option maxRecDepth 100000 in
theorem c_X1_redirectAll_words (l : Launch) (dC : Nat → ClassId) (dI : Nat → Nat → Nat) (cI cJ cH : ClassId) (a_p a_words_p a_roots_p a_heads_p a_marks_p a_order_p a_targets_p : Nat)  (a_words : (Nat → Int32)) (a_roots : (Nat → Int32)) (a_base : Int32) (a_top : Int32) (a_heads : (Nat → Int32)) (a_objects : Int32) (a_marks : (Nat → Int32)) (a_order : (Nat → Int32)) (a_reached : Int32) (a_targets : (Nat → Int32)) (x2 : Int32) (x3 : Int32) (x4 : Int32) (o : (Int32 × (Nat → Int32))) (hf : f_X1_redirectAll_words a_words a_base a_marks a_targets x2 x3 x4 = some o) : ∀ sz : Nat, Met l yX1_redirectAll wsX1_redirectAll rm_X1_redirectAll_words (gPre [.ref a_p, .ref a_words_p, .int x2, .int x3, .int x4] (dC, dI) vwCl (gT cI cJ cH) (wHp cI a_p a_words_p a_roots_p a_heads_p a_marks_p a_order_p a_targets_p a_words a_roots a_base a_top a_heads a_objects a_marks a_order a_reached a_targets) sz) (va_Qi (fun (r : Int32) (u : (Nat → Int32)) => o.1 = r ∧ o.2 = u) (gB (dC, dI) vwCl (gT cI cJ cH) (fun (u : (Nat → Int32)) => wHp cI a_p a_words_p a_roots_p a_heads_p a_marks_p a_order_p a_targets_p u a_roots a_base a_top a_heads a_objects a_marks a_order a_reached a_targets) (va_A (wHp cI a_p a_words_p a_roots_p a_heads_p a_marks_p a_order_p a_targets_p a_words a_roots a_base a_top a_heads a_objects a_marks a_order a_reached a_targets) sz)) (va_A (wHp cI a_p a_words_p a_roots_p a_heads_p a_marks_p a_order_p a_targets_p a_words a_roots a_base a_top a_heads a_objects a_marks a_order a_reached a_targets) sz)) 0 0 (va_A (wHp cI a_p a_words_p a_roots_p a_heads_p a_marks_p a_order_p a_targets_p a_words a_roots a_base a_top a_heads a_objects a_marks a_order a_reached a_targets) sz) := by
  refine g_met (fun A => va_Qi (fun (r : Int32) (u : (Nat → Int32)) => o.1 = r ∧ o.2 = u) (gB (dC, dI) vwCl (gT cI cJ cH) (fun (u : (Nat → Int32)) => wHp cI a_p a_words_p a_roots_p a_heads_p a_marks_p a_order_p a_targets_p u a_roots a_base a_top a_heads a_objects a_marks a_order a_reached a_targets) A) A) (by decide) rfl (Nat.le_of_ble_eq_true rfl) ?_
  intro p e s m args below meth c A Q F hlocks hr hname hN hQ
  unfold f_X1_redirectAll_words at hf
  refine g_lvE (lv' := [(0, .ref a_p), (1, .ref a_words_p), (2, .int x2), (3, .int x3), (4, .int x4)]) rfl ?_
  refine g_iconst (v := 0) F dX1_redirectAll_0 rfl ?_
  refine g_istore (lv' := [(5, .int (0 : Int32)), (0, .ref a_p), (1, .ref a_words_p), (2, .int x2), (3, .int x3), (4, .int x4)]) F dX1_redirectAll_1 (by decide) rfl ?_
  refine g_iload_n F dX1_redirectAll_3 rfl 3 rfl ?_
  refine g_istore (lv' := [(6, .int x2), (5, .int (0 : Int32)), (0, .ref a_p), (1, .ref a_words_p), (2, .int x2), (3, .int x3), (4, .int x4)]) F dX1_redirectAll_4 (by decide) rfl ?_
  obtain ⟨o11, ho11, hf⟩ := bnE hf
  refine g_lv [2, 3, 4, 5, 6, 1, 0] rfl ?_
  refine w_X1_redirectAll_words_L6 F hN FU _ _ _ o11 ho11 ?_
  refine g_iload F dX1_redirectAll_74 0 rfl ?_
  subst hQ
  exact g_iret F hlocks hr o11.2 rfl (pr2 (Option.some.inj hf)) dX1_redirectAll_76

/-! HeapImages$Heap.redirect(I)I -/
def rm_X1_redirect : Room := { frames := 2, cells := 0, slots := 0, locals := 51 }
theorem h_X1_redirect_1 : ∀ w ∈ wsX10, w ∈ wsX1_redirect := by decide +kernel
def f_X1_redirect_L14_s (a_base : Int32) (a_heads : (Nat → Int32)) (a_objects : Int32) (a_marks : (Nat → Int32)) (a_targets : (Nat → Int32)) (y1 : Int32) (rc : Int32 → Int32 → (Nat → Int32) → Option (Int32 × (Nat → Int32))) (z2 : Int32) (z3 : Int32) (a_words : (Nat → Int32)) : Option (Int32 × (Nat → Int32)) :=
  if a_objects ≤ z3 then some (z2, a_words) else ck (inR z3 256) (nm (a_heads z3.toNatClampNeg) fun v3 => ck (inR v3 256) (Option.bind (f_X3_valuesOf (a_words v3.toNatClampNeg)) fun o5 => Option.bind (f_X1_redirectAll_words a_words a_base a_marks a_targets (v3 + (1 : Int32)) o5 y1) fun o6 => nm (z2 + o6.1) fun v7 => nm (z3 + (1 : Int32)) fun v8 => rc v7 v8 o6.2))
def f_X1_redirect_L14 (a_base : Int32) (a_heads : (Nat → Int32)) (a_objects : Int32) (a_marks : (Nat → Int32)) (a_targets : (Nat → Int32)) (y1 : Int32) : Nat → Int32 → Int32 → (Nat → Int32) → Option (Int32 × (Nat → Int32))
  | 0, _, _, _ => none
  | n + 1, z2, z3, a_words => f_X1_redirect_L14_s a_base a_heads a_objects a_marks a_targets y1 (f_X1_redirect_L14 a_base a_heads a_objects a_marks a_targets y1 n) z2 z3 a_words
set_option maxHeartbeats 4000000 in
theorem w_X1_redirect_L14 {p : Program} {l : Launch} {e : Env} {s : State} {m : MethodId} {args : Array Value} {below : List Frame} {meth : Method} {c : Code} {A : Nat → Prop} {Q : State → Prop} {dC : Nat → ClassId} {dI : Nat → Nat → Nat} {cI cJ cH : ClassId} {a_p a_words_p a_roots_p a_heads_p a_marks_p a_order_p a_targets_p : Nat} {a_roots : (Nat → Int32)} {a_base : Int32} {a_top : Int32} {a_heads : (Nat → Int32)} {a_objects : Int32} {a_marks : (Nat → Int32)} {a_order : (Nat → Int32)} {a_reached : Int32} {a_targets : (Nat → Int32)} {y1 : Int32} (F : gF p m c cX1_redirect 5 s args wsX1_redirect yX1_redirect.cls (dC, dI) vwCl (gT cI cJ cH) A) (hN : ∀ w ∈ gN, va_Nw w s) : ∀ (n : Nat) (z2 : Int32) (z3 : Int32) (a_words : (Nat → Int32)) (o : (Int32 × (Nat → Int32))), f_X1_redirect_L14 a_base a_heads a_objects a_marks a_targets y1 n z2 z3 a_words = some o → (gW p l e rm_X1_redirect s m args below meth c 0 0 Q (dC, dI) vwCl A 5 (wHp cI a_p a_words_p a_roots_p a_heads_p a_marks_p a_order_p a_targets_p o.2 a_roots a_base a_top a_heads a_objects a_marks a_order a_reached a_targets) [(0, .ref a_p), (1, .int y1), (2, .int o.1)] 62 []) → gW p l e rm_X1_redirect s m args below meth c 0 0 Q (dC, dI) vwCl A 5 (wHp cI a_p a_words_p a_roots_p a_heads_p a_marks_p a_order_p a_targets_p a_words a_roots a_base a_top a_heads a_objects a_marks a_order a_reached a_targets) [(0, .ref a_p), (1, .int y1), (2, .int z2), (3, .int z3)] 14 [] := by
  intro n
  induction n with
  | zero =>
    intro z2 z3 a_words o hf E0
    change none = some o at hf
    cases hf
  | succ n ih =>
    intro z2 z3 a_words o hf E0
    change f_X1_redirect_L14_s a_base a_heads a_objects a_marks a_targets y1 (f_X1_redirect_L14 a_base a_heads a_objects a_marks a_targets y1 n) z2 z3 a_words = some o at hf
    unfold f_X1_redirect_L14_s at hf
    refine g_iload_n F dX1_redirect_14 rfl 3 rfl ?_
    refine g_aload_n F dX1_redirect_15 rfl 0 rfl ?_
    refine g_get F h_X1_redirect_1 0 rfl rfl 5 (by decide) (by decide +kernel) rfl dX1_redirect_16 ?_
    refine g_icmp_ge (tgt := 62) F dX1_redirect_19 (by decide) (fun c19 => ?_) (fun c19 => ?_)
    · have hf := iteT hf c19
      cases hf
      refine g_lv [0, 1, 2] rfl ?_
      exact E0
    · have hf := iteF hf c19
      refine g_aload_n F dX1_redirect_22 rfl 0 rfl ?_
      refine g_get F h_X1_redirect_1 0 rfl rfl 4 (by decide) (by decide +kernel) rfl dX1_redirect_23 ?_
      refine g_iload_n F dX1_redirect_26 rfl 3 rfl ?_
      obtain ⟨h2, hf⟩ := ckE hf
      refine g_iald F 3 0 rfl rfl h2 dX1_redirect_27 ?_
      obtain ⟨v3, ev3, hf⟩ := nmE hf
      refine g_nmi ev3 ?_
      refine g_istore (lv' := [(4, .int v3), (0, .ref a_p), (1, .int y1), (2, .int z2), (3, .int z3)]) F dX1_redirect_28 (by decide) rfl ?_
      refine g_iload_n F dX1_redirect_30 rfl 3 rfl ?_
      refine g_aload_n F dX1_redirect_31 rfl 1 rfl ?_
      refine g_aload_n F dX1_redirect_32 rfl 1 rfl ?_
      refine g_get F h_X1_redirect_1 0 rfl rfl 0 (by decide) (by decide +kernel) rfl dX1_redirect_33 ?_
      refine g_iload F dX1_redirect_36 0 rfl ?_
      refine g_iconst (v := 1) F dX1_redirect_38 rfl ?_
      refine g_iadd F dX1_redirect_39 ?_
      refine g_aload_n F dX1_redirect_40 rfl 1 rfl ?_
      refine g_get F h_X1_redirect_1 0 rfl rfl 0 (by decide) (by decide +kernel) rfl dX1_redirect_41 ?_
      refine g_iload F dX1_redirect_44 0 rfl ?_
      obtain ⟨h4, hf⟩ := ckE hf
      refine g_iald F 1 0 rfl rfl h4 dX1_redirect_46 ?_
      obtain ⟨o5, ho5, hf⟩ := bnE hf
      refine g_callNi (host := "HeapImages") (n := 1) (As := [.int (a_words v3.toNatClampNeg)]) F (c_X3_valuesOf l dC dI cI cJ cH (a_words v3.toNatClampNeg) o5 ho5) ggX1_redirect_X3_valuesOf rfl rfl rfl (by decide +kernel) (hN _ (by decide +kernel)) (by decide +kernel) (by decide +kernel) ⟨Nat.le_of_ble_eq_true rfl, Nat.le_of_ble_eq_true rfl⟩ ⟨Nat.le_of_ble_eq_true rfl, Nat.le_of_ble_eq_true rfl⟩ hN [] rfl rfl (fun _ => rfl) rfl (Nat.le_of_ble_eq_true rfl) rfl dX1_redirect_47 (cells' := 0) (slots' := 0) rfl rfl (fun r u hp => ?_)
      subst hp
      refine g_ws (ws' := wHp cI a_p a_words_p a_roots_p a_heads_p a_marks_p a_order_p a_targets_p a_words a_roots a_base a_top a_heads a_objects a_marks a_order a_reached a_targets) rfl ?_
      refine g_iload_n F dX1_redirect_50 rfl 2 rfl ?_
      obtain ⟨o6, ho6, hf⟩ := bnE hf
      refine g_callPi (n := 4) (As := [.ref a_words_p, .int (v3 + (1 : Int32)), .int o5, .int y1]) F (c_X1_redirectAll_words l dC dI cI cJ cH a_p a_words_p a_roots_p a_heads_p a_marks_p a_order_p a_targets_p a_words a_roots a_base a_top a_heads a_objects a_marks a_order a_reached a_targets (v3 + (1 : Int32)) o5 y1 o6 ho6) ggX1_redirect_X1_redirectAll rfl rfl rfl (by decide +kernel) (by decide +kernel) (by decide +kernel) (by decide +kernel) (by decide +kernel) ⟨Nat.le_of_ble_eq_true rfl, Nat.le_of_ble_eq_true rfl⟩ ⟨Nat.le_of_ble_eq_true rfl, Nat.le_of_ble_eq_true rfl⟩ hN 0 rfl rfl rfl ([]) ([]) rfl (fun _ => rfl) rfl (Nat.le_of_ble_eq_true rfl) rfl dX1_redirect_51 (cells' := 0) (slots' := 0) rfl rfl (fun r u hp => ?_)
      obtain ⟨hp1, hp2⟩ := hp
      subst hp1
      subst hp2
      refine g_ws (ws' := wHp cI a_p a_words_p a_roots_p a_heads_p a_marks_p a_order_p a_targets_p o6.2 a_roots a_base a_top a_heads a_objects a_marks a_order a_reached a_targets) rfl ?_
      refine g_iadd F dX1_redirect_54 ?_
      obtain ⟨v7, ev7, hf⟩ := nmE hf
      refine g_nmi ev7 ?_
      refine g_istore_n (lv' := [(2, .int v7), (4, .int v3), (0, .ref a_p), (1, .int y1), (3, .int z3)]) F dX1_redirect_55 rfl (by decide) rfl ?_
      obtain ⟨v8, ev8, hf⟩ := nmE hf
      refine g_iinc (j := 4) (lv' := [(3, .int v8), (2, .int v7), (4, .int v3), (0, .ref a_p), (1, .int y1)]) F dX1_redirect_56 rfl ev8.symm (by decide) rfl ?_
      refine g_goto (tgt := 14) F dX1_redirect_59 (by decide) ?_
      refine g_lv [3, 4, 1, 0] rfl ?_
      exact ih _ _ _ o hf E0
def f_X1_redirect (a_words : (Nat → Int32)) (a_roots : (Nat → Int32)) (a_base : Int32) (a_heads : (Nat → Int32)) (a_objects : Int32) (a_marks : (Nat → Int32)) (a_targets : (Nat → Int32)) (x1 : Int32) : Option (Int32 × (Nat → Int32) × (Nat → Int32) × Int32) :=
  Option.bind (f_X1_redirectAll_roots a_roots a_base a_marks a_targets (0 : Int32) (4 : Int32) x1) fun o1 => Option.bind (f_X1_redirect_L14 a_base a_heads a_objects a_marks a_targets x1 FU o1.1 (0 : Int32) a_words) fun o9 => some (o9.1, o9.2, o1.2, x1)
set_option maxHeartbeats 4000000 in
set_option maxRecDepth 100000 in
theorem c_X1_redirect (l : Launch) (dC : Nat → ClassId) (dI : Nat → Nat → Nat) (cI cJ cH : ClassId) (a_p a_words_p a_roots_p a_heads_p a_marks_p a_order_p a_targets_p : Nat)  (a_words : (Nat → Int32)) (a_roots : (Nat → Int32)) (a_base : Int32) (a_top : Int32) (a_heads : (Nat → Int32)) (a_objects : Int32) (a_marks : (Nat → Int32)) (a_order : (Nat → Int32)) (a_reached : Int32) (a_targets : (Nat → Int32)) (x1 : Int32) (o : (Int32 × (Nat → Int32) × (Nat → Int32) × Int32)) (hf : f_X1_redirect a_words a_roots a_base a_heads a_objects a_marks a_targets x1 = some o) : ∀ sz : Nat, Met l yX1_redirect wsX1_redirect rm_X1_redirect (gPre [.ref a_p, .int x1] (dC, dI) vwCl (gT cI cJ cH) (wHp cI a_p a_words_p a_roots_p a_heads_p a_marks_p a_order_p a_targets_p a_words a_roots a_base a_top a_heads a_objects a_marks a_order a_reached a_targets) sz) (va_Qi (fun (r : Int32) (u : ((Nat → Int32) × (Nat → Int32) × Int32)) => o.1 = r ∧ o.2 = u) (gB (dC, dI) vwCl (gT cI cJ cH) (fun (u : ((Nat → Int32) × (Nat → Int32) × Int32)) => wHp cI a_p a_words_p a_roots_p a_heads_p a_marks_p a_order_p a_targets_p u.1 u.2.1 u.2.2 a_top a_heads a_objects a_marks a_order a_reached a_targets) (va_A (wHp cI a_p a_words_p a_roots_p a_heads_p a_marks_p a_order_p a_targets_p a_words a_roots a_base a_top a_heads a_objects a_marks a_order a_reached a_targets) sz)) (va_A (wHp cI a_p a_words_p a_roots_p a_heads_p a_marks_p a_order_p a_targets_p a_words a_roots a_base a_top a_heads a_objects a_marks a_order a_reached a_targets) sz)) 0 0 (va_A (wHp cI a_p a_words_p a_roots_p a_heads_p a_marks_p a_order_p a_targets_p a_words a_roots a_base a_top a_heads a_objects a_marks a_order a_reached a_targets) sz) := by
  refine g_met (fun A => va_Qi (fun (r : Int32) (u : ((Nat → Int32) × (Nat → Int32) × Int32)) => o.1 = r ∧ o.2 = u) (gB (dC, dI) vwCl (gT cI cJ cH) (fun (u : ((Nat → Int32) × (Nat → Int32) × Int32)) => wHp cI a_p a_words_p a_roots_p a_heads_p a_marks_p a_order_p a_targets_p u.1 u.2.1 u.2.2 a_top a_heads a_objects a_marks a_order a_reached a_targets) A) A) (by decide) rfl (Nat.le_of_ble_eq_true rfl) ?_
  intro p e s m args below meth c A Q F hlocks hr hname hN hQ
  unfold f_X1_redirect at hf
  refine g_lvE (lv' := [(0, .ref a_p), (1, .int x1)]) rfl ?_
  refine g_aload_n F dX1_redirect_0 rfl 0 rfl ?_
  refine g_aload_n F dX1_redirect_1 rfl 0 rfl ?_
  refine g_get F h_X1_redirect_1 0 rfl rfl 1 (by decide) (by decide +kernel) rfl dX1_redirect_2 ?_
  refine g_iconst (v := 0) F dX1_redirect_5 rfl ?_
  refine g_iconst (v := 4) F dX1_redirect_6 rfl ?_
  refine g_iload_n F dX1_redirect_7 rfl 1 rfl ?_
  obtain ⟨o1, ho1, hf⟩ := bnE hf
  refine g_callPi (n := 4) (As := [.ref a_roots_p, .int (0 : Int32), .int (4 : Int32), .int x1]) F (c_X1_redirectAll_roots l dC dI cI cJ cH a_p a_words_p a_roots_p a_heads_p a_marks_p a_order_p a_targets_p a_words a_roots a_base a_top a_heads a_objects a_marks a_order a_reached a_targets (0 : Int32) (4 : Int32) x1 o1 ho1) ggX1_redirect_X1_redirectAll rfl rfl rfl (by decide +kernel) (by decide +kernel) (by decide +kernel) (by decide +kernel) (by decide +kernel) ⟨Nat.le_of_ble_eq_true rfl, Nat.le_of_ble_eq_true rfl⟩ ⟨Nat.le_of_ble_eq_true rfl, Nat.le_of_ble_eq_true rfl⟩ hN 0 rfl rfl rfl ([]) ([]) rfl (fun _ => rfl) rfl (Nat.le_of_ble_eq_true rfl) rfl dX1_redirect_8 (cells' := 0) (slots' := 0) rfl rfl (fun r u hp => ?_)
  obtain ⟨hp1, hp2⟩ := hp
  subst hp1
  subst hp2
  refine g_ws (ws' := wHp cI a_p a_words_p a_roots_p a_heads_p a_marks_p a_order_p a_targets_p a_words o1.2 a_base a_top a_heads a_objects a_marks a_order a_reached a_targets) rfl ?_
  refine g_istore_n (lv' := [(2, .int o1.1), (0, .ref a_p), (1, .int x1)]) F dX1_redirect_11 rfl (by decide) rfl ?_
  refine g_iconst (v := 0) F dX1_redirect_12 rfl ?_
  refine g_istore_n (lv' := [(3, .int (0 : Int32)), (2, .int o1.1), (0, .ref a_p), (1, .int x1)]) F dX1_redirect_13 rfl (by decide) rfl ?_
  obtain ⟨o9, ho9, hf⟩ := bnE hf
  refine g_lv [2, 3, 1, 0] rfl ?_
  refine w_X1_redirect_L14 F hN FU _ _ _ o9 ho9 ?_
  refine g_aload_n F dX1_redirect_62 rfl 0 rfl ?_
  refine g_iload_n F dX1_redirect_63 rfl 1 rfl ?_
  refine g_put F h_X1_redirect_1 tyX1 tyX1_ok nmX1 0 rfl rfl 2 (by decide) (by decide +kernel) rfl rfl rfl (Nat.le_of_ble_eq_true rfl) dX1_redirect_64 (ws' := wHp cI a_p a_words_p a_roots_p a_heads_p a_marks_p a_order_p a_targets_p o9.2 o1.2 x1 a_top a_heads a_objects a_marks a_order a_reached a_targets) rfl ?_
  refine g_iload_n F dX1_redirect_67 rfl 2 rfl ?_
  subst hQ
  exact g_iret F hlocks hr (o9.2, o1.2, x1) rfl (pr2 (Option.some.inj hf)) dX1_redirect_68

/-! HeapImages$Heap.moveTo(I)I -/
def rm_X1_moveTo : Room := { frames := 3, cells := 0, slots := 0, locals := 75 }
theorem h_X1_moveTo_1 : ∀ w ∈ wsX10, w ∈ wsX1_moveTo := by decide +kernel
def f_X1_moveTo_L2_s (a_heads : (Nat → Int32)) (a_objects : Int32) (y1 : Int32) (rc : Int32 → (Nat → Int32) → Option (Nat → Int32)) (z2 : Int32) (a_targets : (Nat → Int32)) : Option (Nat → Int32) :=
  if a_objects ≤ z2 then some a_targets else ck (inR z2 256) (ck (inR z2 256) (ck (inR (a_heads z2.toNatClampNeg) 256) (nm (z2 + (1 : Int32)) fun v4 => rc v4 (upd a_targets (a_heads z2.toNatClampNeg).toNatClampNeg (a_heads z2.toNatClampNeg)))))
def f_X1_moveTo_L2 (a_heads : (Nat → Int32)) (a_objects : Int32) (y1 : Int32) : Nat → Int32 → (Nat → Int32) → Option (Nat → Int32)
  | 0, _, _ => none
  | n + 1, z2, a_targets => f_X1_moveTo_L2_s a_heads a_objects y1 (f_X1_moveTo_L2 a_heads a_objects y1 n) z2 a_targets
set_option maxHeartbeats 4000000 in
theorem w_X1_moveTo_L2 {p : Program} {l : Launch} {e : Env} {s : State} {m : MethodId} {args : Array Value} {below : List Frame} {meth : Method} {c : Code} {A : Nat → Prop} {Q : State → Prop} {dC : Nat → ClassId} {dI : Nat → Nat → Nat} {cI cJ cH : ClassId} {a_p a_words_p a_roots_p a_heads_p a_marks_p a_order_p a_targets_p : Nat} {a_words : (Nat → Int32)} {a_roots : (Nat → Int32)} {a_base : Int32} {a_top : Int32} {a_heads : (Nat → Int32)} {a_objects : Int32} {a_marks : (Nat → Int32)} {a_order : (Nat → Int32)} {a_reached : Int32} {y1 : Int32} (F : gF p m c cX1_moveTo 3 s args wsX1_moveTo yX1_moveTo.cls (dC, dI) vwCl (gT cI cJ cH) A) (hN : ∀ w ∈ gN, va_Nw w s) : ∀ (n : Nat) (z2 : Int32) (a_targets : (Nat → Int32)) (o : (Nat → Int32)), f_X1_moveTo_L2 a_heads a_objects y1 n z2 a_targets = some o → (gW p l e rm_X1_moveTo s m args below meth c 0 0 Q (dC, dI) vwCl A 3 (wHp cI a_p a_words_p a_roots_p a_heads_p a_marks_p a_order_p a_targets_p a_words a_roots a_base a_top a_heads a_objects a_marks a_order a_reached o) [(0, .ref a_p), (1, .int y1)] 33 []) → gW p l e rm_X1_moveTo s m args below meth c 0 0 Q (dC, dI) vwCl A 3 (wHp cI a_p a_words_p a_roots_p a_heads_p a_marks_p a_order_p a_targets_p a_words a_roots a_base a_top a_heads a_objects a_marks a_order a_reached a_targets) [(0, .ref a_p), (1, .int y1), (2, .int z2)] 2 [] := by
  intro n
  induction n with
  | zero =>
    intro z2 a_targets o hf E0
    change none = some o at hf
    cases hf
  | succ n ih =>
    intro z2 a_targets o hf E0
    change f_X1_moveTo_L2_s a_heads a_objects y1 (f_X1_moveTo_L2 a_heads a_objects y1 n) z2 a_targets = some o at hf
    unfold f_X1_moveTo_L2_s at hf
    refine g_iload_n F dX1_moveTo_2 rfl 2 rfl ?_
    refine g_aload_n F dX1_moveTo_3 rfl 0 rfl ?_
    refine g_get F h_X1_moveTo_1 0 rfl rfl 5 (by decide) (by decide +kernel) rfl dX1_moveTo_4 ?_
    refine g_icmp_ge (tgt := 33) F dX1_moveTo_7 (by decide) (fun c7 => ?_) (fun c7 => ?_)
    · have hf := iteT hf c7
      cases hf
      refine g_lv [0, 1] rfl ?_
      exact E0
    · have hf := iteF hf c7
      refine g_aload_n F dX1_moveTo_10 rfl 0 rfl ?_
      refine g_get F h_X1_moveTo_1 0 rfl rfl 9 (by decide) (by decide +kernel) rfl dX1_moveTo_11 ?_
      refine g_aload_n F dX1_moveTo_14 rfl 0 rfl ?_
      refine g_get F h_X1_moveTo_1 0 rfl rfl 4 (by decide) (by decide +kernel) rfl dX1_moveTo_15 ?_
      refine g_iload_n F dX1_moveTo_18 rfl 2 rfl ?_
      obtain ⟨h1, hf⟩ := ckE hf
      refine g_iald F 3 0 rfl rfl h1 dX1_moveTo_19 ?_
      refine g_aload_n F dX1_moveTo_20 rfl 0 rfl ?_
      refine g_get F h_X1_moveTo_1 0 rfl rfl 4 (by decide) (by decide +kernel) rfl dX1_moveTo_21 ?_
      refine g_iload_n F dX1_moveTo_24 rfl 2 rfl ?_
      obtain ⟨h2, hf⟩ := ckE hf
      refine g_iald F 3 0 rfl rfl h2 dX1_moveTo_25 ?_
      obtain ⟨h3, hf⟩ := ckE hf
      refine g_iast F 6 0 rfl rfl h3 dX1_moveTo_26 (ws' := wHp cI a_p a_words_p a_roots_p a_heads_p a_marks_p a_order_p a_targets_p a_words a_roots a_base a_top a_heads a_objects a_marks a_order a_reached (upd a_targets (a_heads z2.toNatClampNeg).toNatClampNeg (a_heads z2.toNatClampNeg))) rfl ?_
      obtain ⟨v4, ev4, hf⟩ := nmE hf
      refine g_iinc (j := 2) (lv' := [(2, .int v4), (0, .ref a_p), (1, .int y1)]) F dX1_moveTo_27 rfl ev4.symm (by decide) rfl ?_
      refine g_goto (tgt := 2) F dX1_moveTo_30 (by decide) ?_
      refine g_lv [1, 2, 0] rfl ?_
      exact ih _ _ o hf E0
def f_X1_moveTo (a_words : (Nat → Int32)) (a_roots : (Nat → Int32)) (a_base : Int32) (a_heads : (Nat → Int32)) (a_objects : Int32) (a_marks : (Nat → Int32)) (a_targets : (Nat → Int32)) (x1 : Int32) : Option (Int32 × (Nat → Int32) × (Nat → Int32) × Int32 × (Nat → Int32)) :=
  Option.bind (f_X1_moveTo_L2 a_heads a_objects x1 FU (0 : Int32) a_targets) fun o5 => Option.bind (f_X1_redirect a_words a_roots a_base a_heads a_objects a_marks o5 x1) fun o6 => some (o6.1, o6.2.1, o6.2.2.1, o6.2.2.2, o5)
set_option maxHeartbeats 4000000 in
set_option maxRecDepth 100000 in
theorem c_X1_moveTo (l : Launch) (dC : Nat → ClassId) (dI : Nat → Nat → Nat) (cI cJ cH : ClassId) (a_p a_words_p a_roots_p a_heads_p a_marks_p a_order_p a_targets_p : Nat)  (a_words : (Nat → Int32)) (a_roots : (Nat → Int32)) (a_base : Int32) (a_top : Int32) (a_heads : (Nat → Int32)) (a_objects : Int32) (a_marks : (Nat → Int32)) (a_order : (Nat → Int32)) (a_reached : Int32) (a_targets : (Nat → Int32)) (x1 : Int32) (o : (Int32 × (Nat → Int32) × (Nat → Int32) × Int32 × (Nat → Int32))) (hf : f_X1_moveTo a_words a_roots a_base a_heads a_objects a_marks a_targets x1 = some o) : ∀ sz : Nat, Met l yX1_moveTo wsX1_moveTo rm_X1_moveTo (gPre [.ref a_p, .int x1] (dC, dI) vwCl (gT cI cJ cH) (wHp cI a_p a_words_p a_roots_p a_heads_p a_marks_p a_order_p a_targets_p a_words a_roots a_base a_top a_heads a_objects a_marks a_order a_reached a_targets) sz) (va_Qi (fun (r : Int32) (u : ((Nat → Int32) × (Nat → Int32) × Int32 × (Nat → Int32))) => o.1 = r ∧ o.2 = u) (gB (dC, dI) vwCl (gT cI cJ cH) (fun (u : ((Nat → Int32) × (Nat → Int32) × Int32 × (Nat → Int32))) => wHp cI a_p a_words_p a_roots_p a_heads_p a_marks_p a_order_p a_targets_p u.1 u.2.1 u.2.2.1 a_top a_heads a_objects a_marks a_order a_reached u.2.2.2) (va_A (wHp cI a_p a_words_p a_roots_p a_heads_p a_marks_p a_order_p a_targets_p a_words a_roots a_base a_top a_heads a_objects a_marks a_order a_reached a_targets) sz)) (va_A (wHp cI a_p a_words_p a_roots_p a_heads_p a_marks_p a_order_p a_targets_p a_words a_roots a_base a_top a_heads a_objects a_marks a_order a_reached a_targets) sz)) 0 0 (va_A (wHp cI a_p a_words_p a_roots_p a_heads_p a_marks_p a_order_p a_targets_p a_words a_roots a_base a_top a_heads a_objects a_marks a_order a_reached a_targets) sz) := by
  refine g_met (fun A => va_Qi (fun (r : Int32) (u : ((Nat → Int32) × (Nat → Int32) × Int32 × (Nat → Int32))) => o.1 = r ∧ o.2 = u) (gB (dC, dI) vwCl (gT cI cJ cH) (fun (u : ((Nat → Int32) × (Nat → Int32) × Int32 × (Nat → Int32))) => wHp cI a_p a_words_p a_roots_p a_heads_p a_marks_p a_order_p a_targets_p u.1 u.2.1 u.2.2.1 a_top a_heads a_objects a_marks a_order a_reached u.2.2.2) A) A) (by decide) rfl (Nat.le_of_ble_eq_true rfl) ?_
  intro p e s m args below meth c A Q F hlocks hr hname hN hQ
  unfold f_X1_moveTo at hf
  refine g_lvE (lv' := [(0, .ref a_p), (1, .int x1)]) rfl ?_
  refine g_iconst (v := 0) F dX1_moveTo_0 rfl ?_
  refine g_istore_n (lv' := [(2, .int (0 : Int32)), (0, .ref a_p), (1, .int x1)]) F dX1_moveTo_1 rfl (by decide) rfl ?_
  obtain ⟨o5, ho5, hf⟩ := bnE hf
  refine g_lv [1, 2, 0] rfl ?_
  refine w_X1_moveTo_L2 F hN FU _ _ o5 ho5 ?_
  refine g_aload_n F dX1_moveTo_33 rfl 0 rfl ?_
  refine g_iload_n F dX1_moveTo_34 rfl 1 rfl ?_
  obtain ⟨o6, ho6, hf⟩ := bnE hf
  refine g_callPi (n := 1) (As := [.int x1]) F (c_X1_redirect l dC dI cI cJ cH a_p a_words_p a_roots_p a_heads_p a_marks_p a_order_p a_targets_p a_words a_roots a_base a_top a_heads a_objects a_marks a_order a_reached o5 x1 o6 ho6) ggX1_moveTo_X1_redirect rfl rfl rfl (by decide +kernel) (by decide +kernel) (by decide +kernel) (by decide +kernel) (by decide +kernel) ⟨Nat.le_of_ble_eq_true rfl, Nat.le_of_ble_eq_true rfl⟩ ⟨Nat.le_of_ble_eq_true rfl, Nat.le_of_ble_eq_true rfl⟩ hN 0 rfl rfl rfl ([]) ([]) rfl (fun _ => rfl) rfl (Nat.le_of_ble_eq_true rfl) rfl dX1_moveTo_35 (cells' := 0) (slots' := 0) rfl rfl (fun r u hp => ?_)
  obtain ⟨hp1, hp2⟩ := hp
  subst hp1
  subst hp2
  refine g_ws (ws' := wHp cI a_p a_words_p a_roots_p a_heads_p a_marks_p a_order_p a_targets_p o6.2.1 o6.2.2.1 o6.2.2.2 a_top a_heads a_objects a_marks a_order a_reached o5) rfl ?_
  subst hQ
  exact g_iret F hlocks hr (o6.2.1, o6.2.2.1, o6.2.2.2, o5) rfl (pr2 (Option.some.inj hf)) dX1_moveTo_38

/-! HeapImages$Heap.slideToTargets()V -/
def rm_X1_slideToTargets : Room := { frames := 1, cells := 0, slots := 0, locals := 40 }
theorem h_X1_slideToTargets_1 : ∀ w ∈ wsX10, w ∈ wsX1_slideToTargets := by decide +kernel
def f_X1_slideToTargets_L2_s (a_heads : (Nat → Int32)) (a_objects : Int32) (a_marks : (Nat → Int32)) (a_targets : (Nat → Int32)) (rc : Int32 → (Nat → Int32) → Option (Nat → Int32)) (z1 : Int32) (a_words : (Nat → Int32)) : Option (Nat → Int32) :=
  if a_objects ≤ z1 then some a_words else ck (inR z1 256) (nm (a_heads z1.toNatClampNeg) fun v2 => ck (inR v2 256) (if (a_marks v2.toNatClampNeg) = (-1 : Int32) then nm (z1 + (1 : Int32)) fun v4 => rc v4 a_words else ck (inR v2 256) (ck (inR v2 256) (Option.bind (f_X3_slotsOf (a_words v2.toNatClampNeg)) fun o7 => ck (¬ v2 < 0 ∧ ¬ (a_targets v2.toNatClampNeg) < 0 ∧ ¬ ((1 : Int32) + o7) < 0 ∧ v2.toNatClampNeg + ((1 : Int32) + o7).toNatClampNeg ≤ 256 ∧ (a_targets v2.toNatClampNeg).toNatClampNeg + ((1 : Int32) + o7).toNatClampNeg ≤ 256) (nm (z1 + (1 : Int32)) fun v9 => rc v9 (va_cpy a_words a_words v2.toNatClampNeg (a_targets v2.toNatClampNeg).toNatClampNeg ((1 : Int32) + o7).toNatClampNeg))))))
def f_X1_slideToTargets_L2 (a_heads : (Nat → Int32)) (a_objects : Int32) (a_marks : (Nat → Int32)) (a_targets : (Nat → Int32)) : Nat → Int32 → (Nat → Int32) → Option (Nat → Int32)
  | 0, _, _ => none
  | n + 1, z1, a_words => f_X1_slideToTargets_L2_s a_heads a_objects a_marks a_targets (f_X1_slideToTargets_L2 a_heads a_objects a_marks a_targets n) z1 a_words
set_option maxHeartbeats 4000000 in
theorem w_X1_slideToTargets_L2 {p : Program} {l : Launch} {e : Env} {s : State} {m : MethodId} {args : Array Value} {below : List Frame} {meth : Method} {c : Code} {A : Nat → Prop} {Q : State → Prop} {dC : Nat → ClassId} {dI : Nat → Nat → Nat} {cI cJ cH : ClassId} {a_p a_words_p a_roots_p a_heads_p a_marks_p a_order_p a_targets_p : Nat} {a_roots : (Nat → Int32)} {a_base : Int32} {a_top : Int32} {a_heads : (Nat → Int32)} {a_objects : Int32} {a_marks : (Nat → Int32)} {a_order : (Nat → Int32)} {a_reached : Int32} {a_targets : (Nat → Int32)}  (F : gF p m c cX1_slideToTargets 3 s args wsX1_slideToTargets yX1_slideToTargets.cls (dC, dI) vwCl (gT cI cJ cH) A) (hN : ∀ w ∈ gN, va_Nw w s) : ∀ (n : Nat) (z1 : Int32) (a_words : (Nat → Int32)) (o : (Nat → Int32)), f_X1_slideToTargets_L2 a_heads a_objects a_marks a_targets n z1 a_words = some o → (gW p l e rm_X1_slideToTargets s m args below meth c 0 0 Q (dC, dI) vwCl A 3 (wHp cI a_p a_words_p a_roots_p a_heads_p a_marks_p a_order_p a_targets_p o a_roots a_base a_top a_heads a_objects a_marks a_order a_reached a_targets) [] 62 []) → gW p l e rm_X1_slideToTargets s m args below meth c 0 0 Q (dC, dI) vwCl A 3 (wHp cI a_p a_words_p a_roots_p a_heads_p a_marks_p a_order_p a_targets_p a_words a_roots a_base a_top a_heads a_objects a_marks a_order a_reached a_targets) [(0, .ref a_p), (1, .int z1)] 2 [] := by
  intro n
  induction n with
  | zero =>
    intro z1 a_words o hf E0
    change none = some o at hf
    cases hf
  | succ n ih =>
    intro z1 a_words o hf E0
    change f_X1_slideToTargets_L2_s a_heads a_objects a_marks a_targets (f_X1_slideToTargets_L2 a_heads a_objects a_marks a_targets n) z1 a_words = some o at hf
    unfold f_X1_slideToTargets_L2_s at hf
    refine g_iload_n F dX1_slideToTargets_2 rfl 1 rfl ?_
    refine g_aload_n F dX1_slideToTargets_3 rfl 0 rfl ?_
    refine g_get F h_X1_slideToTargets_1 0 rfl rfl 5 (by decide) (by decide +kernel) rfl dX1_slideToTargets_4 ?_
    refine g_icmp_ge (tgt := 62) F dX1_slideToTargets_7 (by decide) (fun c7 => ?_) (fun c7 => ?_)
    · have hf := iteT hf c7
      cases hf
      refine g_lv [] rfl ?_
      exact E0
    · have hf := iteF hf c7
      refine g_aload_n F dX1_slideToTargets_10 rfl 0 rfl ?_
      refine g_get F h_X1_slideToTargets_1 0 rfl rfl 4 (by decide) (by decide +kernel) rfl dX1_slideToTargets_11 ?_
      refine g_iload_n F dX1_slideToTargets_14 rfl 1 rfl ?_
      obtain ⟨h1, hf⟩ := ckE hf
      refine g_iald F 3 0 rfl rfl h1 dX1_slideToTargets_15 ?_
      obtain ⟨v2, ev2, hf⟩ := nmE hf
      refine g_nmi ev2 ?_
      refine g_istore_n (lv' := [(2, .int v2), (0, .ref a_p), (1, .int z1)]) F dX1_slideToTargets_16 rfl (by decide) rfl ?_
      refine g_aload_n F dX1_slideToTargets_17 rfl 1 rfl ?_
      refine g_get F h_X1_slideToTargets_1 0 rfl rfl 6 (by decide) (by decide +kernel) rfl dX1_slideToTargets_18 ?_
      refine g_iload_n F dX1_slideToTargets_21 rfl 0 rfl ?_
      obtain ⟨h3, hf⟩ := ckE hf
      refine g_iald F 4 0 rfl rfl h3 dX1_slideToTargets_22 ?_
      refine g_iconst (v := -1) F dX1_slideToTargets_23 rfl ?_
      refine g_icmp_eq (tgt := 56) F dX1_slideToTargets_24 (by decide) (fun c24 => ?_) (fun c24 => ?_)
      · have hf := iteT hf c24
        obtain ⟨v4, ev4, hf⟩ := nmE hf
        refine g_iinc (j := 2) (lv' := [(1, .int v4), (2, .int v2), (0, .ref a_p)]) F dX1_slideToTargets_56 rfl ev4.symm (by decide) rfl ?_
        refine g_goto (tgt := 2) F dX1_slideToTargets_59 (by decide) ?_
        refine g_lv [2, 0] rfl ?_
        exact ih _ _ o hf E0
      · have hf := iteF hf c24
        refine g_aload_n F dX1_slideToTargets_27 rfl 1 rfl ?_
        refine g_get F h_X1_slideToTargets_1 0 rfl rfl 0 (by decide) (by decide +kernel) rfl dX1_slideToTargets_28 ?_
        refine g_iload_n F dX1_slideToTargets_31 rfl 0 rfl ?_
        refine g_aload_n F dX1_slideToTargets_32 rfl 1 rfl ?_
        refine g_get F h_X1_slideToTargets_1 0 rfl rfl 0 (by decide) (by decide +kernel) rfl dX1_slideToTargets_33 ?_
        refine g_aload_n F dX1_slideToTargets_36 rfl 1 rfl ?_
        refine g_get F h_X1_slideToTargets_1 0 rfl rfl 9 (by decide) (by decide +kernel) rfl dX1_slideToTargets_37 ?_
        refine g_iload_n F dX1_slideToTargets_40 rfl 0 rfl ?_
        obtain ⟨h5, hf⟩ := ckE hf
        refine g_iald F 6 0 rfl rfl h5 dX1_slideToTargets_41 ?_
        refine g_iconst (v := 1) F dX1_slideToTargets_42 rfl ?_
        refine g_aload_n F dX1_slideToTargets_43 rfl 1 rfl ?_
        refine g_get F h_X1_slideToTargets_1 0 rfl rfl 0 (by decide) (by decide +kernel) rfl dX1_slideToTargets_44 ?_
        refine g_iload_n F dX1_slideToTargets_47 rfl 0 rfl ?_
        obtain ⟨h6, hf⟩ := ckE hf
        refine g_iald F 1 0 rfl rfl h6 dX1_slideToTargets_48 ?_
        obtain ⟨o7, ho7, hf⟩ := bnE hf
        refine g_callNi (host := "HeapImages") (n := 1) (As := [.int (a_words v2.toNatClampNeg)]) F (c_X3_slotsOf l dC dI cI cJ cH (a_words v2.toNatClampNeg) o7 ho7) ggX1_slideToTargets_X3_slotsOf rfl rfl rfl (by decide +kernel) (hN _ (by decide +kernel)) (by decide +kernel) (by decide +kernel) ⟨Nat.le_of_ble_eq_true rfl, Nat.le_of_ble_eq_true rfl⟩ ⟨Nat.le_of_ble_eq_true rfl, Nat.le_of_ble_eq_true rfl⟩ hN [] rfl rfl (fun _ => rfl) rfl (Nat.le_of_ble_eq_true rfl) rfl dX1_slideToTargets_49 (cells' := 0) (slots' := 0) rfl rfl (fun r u hp => ?_)
        subst hp
        refine g_ws (ws' := wHp cI a_p a_words_p a_roots_p a_heads_p a_marks_p a_order_p a_targets_p a_words a_roots a_base a_top a_heads a_objects a_marks a_order a_reached a_targets) rfl ?_
        refine g_iadd F dX1_slideToTargets_52 ?_
        obtain ⟨h8, hf⟩ := ckE hf
        refine g_copyi F (by decide +kernel) (by decide +kernel) (by decide +kernel) (by decide +kernel) 1 1 0 0 rfl rfl rfl rfl h8 (Nat.le_of_ble_eq_true rfl) (Nat.le_of_ble_eq_true rfl) dX1_slideToTargets_53 (ws' := wHp cI a_p a_words_p a_roots_p a_heads_p a_marks_p a_order_p a_targets_p (va_cpy a_words a_words v2.toNatClampNeg (a_targets v2.toNatClampNeg).toNatClampNeg ((1 : Int32) + o7).toNatClampNeg) a_roots a_base a_top a_heads a_objects a_marks a_order a_reached a_targets) rfl ?_
        obtain ⟨v9, ev9, hf⟩ := nmE hf
        refine g_iinc (j := 2) (lv' := [(1, .int v9), (2, .int v2), (0, .ref a_p)]) F dX1_slideToTargets_56 rfl ev9.symm (by decide) rfl ?_
        refine g_goto (tgt := 2) F dX1_slideToTargets_59 (by decide) ?_
        refine g_lv [2, 0] rfl ?_
        exact ih _ _ o hf E0
def f_X1_slideToTargets (a_words : (Nat → Int32)) (a_heads : (Nat → Int32)) (a_objects : Int32) (a_marks : (Nat → Int32)) (a_targets : (Nat → Int32)) : Option (Nat → Int32) :=
  Option.bind (f_X1_slideToTargets_L2 a_heads a_objects a_marks a_targets FU (0 : Int32) a_words) fun o10 => some o10
set_option maxHeartbeats 4000000 in
set_option maxRecDepth 100000 in
theorem c_X1_slideToTargets (l : Launch) (dC : Nat → ClassId) (dI : Nat → Nat → Nat) (cI cJ cH : ClassId) (a_p a_words_p a_roots_p a_heads_p a_marks_p a_order_p a_targets_p : Nat)  (a_words : (Nat → Int32)) (a_roots : (Nat → Int32)) (a_base : Int32) (a_top : Int32) (a_heads : (Nat → Int32)) (a_objects : Int32) (a_marks : (Nat → Int32)) (a_order : (Nat → Int32)) (a_reached : Int32) (a_targets : (Nat → Int32))  (o : (Nat → Int32)) (hf : f_X1_slideToTargets a_words a_heads a_objects a_marks a_targets = some o) : ∀ sz : Nat, Met l yX1_slideToTargets wsX1_slideToTargets rm_X1_slideToTargets (gPre [.ref a_p] (dC, dI) vwCl (gT cI cJ cH) (wHp cI a_p a_words_p a_roots_p a_heads_p a_marks_p a_order_p a_targets_p a_words a_roots a_base a_top a_heads a_objects a_marks a_order a_reached a_targets) sz) (va_Qv (fun (u : (Nat → Int32)) => o = u) (gB (dC, dI) vwCl (gT cI cJ cH) (fun (u : (Nat → Int32)) => wHp cI a_p a_words_p a_roots_p a_heads_p a_marks_p a_order_p a_targets_p u a_roots a_base a_top a_heads a_objects a_marks a_order a_reached a_targets) (va_A (wHp cI a_p a_words_p a_roots_p a_heads_p a_marks_p a_order_p a_targets_p a_words a_roots a_base a_top a_heads a_objects a_marks a_order a_reached a_targets) sz)) (va_A (wHp cI a_p a_words_p a_roots_p a_heads_p a_marks_p a_order_p a_targets_p a_words a_roots a_base a_top a_heads a_objects a_marks a_order a_reached a_targets) sz)) 0 0 (va_A (wHp cI a_p a_words_p a_roots_p a_heads_p a_marks_p a_order_p a_targets_p a_words a_roots a_base a_top a_heads a_objects a_marks a_order a_reached a_targets) sz) := by
  refine g_met (fun A => va_Qv (fun (u : (Nat → Int32)) => o = u) (gB (dC, dI) vwCl (gT cI cJ cH) (fun (u : (Nat → Int32)) => wHp cI a_p a_words_p a_roots_p a_heads_p a_marks_p a_order_p a_targets_p u a_roots a_base a_top a_heads a_objects a_marks a_order a_reached a_targets) A) A) (by decide) rfl (Nat.le_of_ble_eq_true rfl) ?_
  intro p e s m args below meth c A Q F hlocks hr hname hN hQ
  unfold f_X1_slideToTargets at hf
  refine g_lvE (lv' := [(0, .ref a_p)]) rfl ?_
  refine g_iconst (v := 0) F dX1_slideToTargets_0 rfl ?_
  refine g_istore_n (lv' := [(1, .int (0 : Int32)), (0, .ref a_p)]) F dX1_slideToTargets_1 rfl (by decide) rfl ?_
  obtain ⟨o10, ho10, hf⟩ := bnE hf
  refine g_lv [1, 0] rfl ?_
  refine w_X1_slideToTargets_L2 F hN FU _ _ o10 ho10 ?_
  subst hQ
  exact g_vret F hlocks hr o10 rfl (Option.some.inj hf).symm dX1_slideToTargets_62
