/-! HeapImages$Heap.empty()V -/
def rm_X1_empty : Room := { frames := 1, cells := 0, slots := 0, locals := 23 }
theorem h_X1_empty_1 : ∀ w ∈ wsX10, w ∈ wsX1_empty := by decide +kernel
def f_X1_empty (a_words : (Nat → Int32)) (a_roots : (Nat → Int32)) (a_base : Int32) (a_top : Int32) : Option ((Nat → Int32) × (Nat → Int32) × Int32 × Int32) :=
  Option.bind (f_J7_fill_53178 256 a_words (0 : Int32)) fun o1 => Option.bind (f_J7_fill_53178 4 a_roots (0 : Int32)) fun o2 => some (o1, o2, (4096 : Int32), (0 : Int32))
set_option maxHeartbeats 4000000 in
set_option maxRecDepth 100000 in
theorem c_X1_empty (l : Launch) (dC : Nat → ClassId) (dI : Nat → Nat → Nat) (cI cJ cH : ClassId) (a_p a_words_p a_roots_p a_heads_p a_marks_p a_order_p a_targets_p : Nat)  (a_words : (Nat → Int32)) (a_roots : (Nat → Int32)) (a_base : Int32) (a_top : Int32) (a_heads : (Nat → Int32)) (a_objects : Int32) (a_marks : (Nat → Int32)) (a_order : (Nat → Int32)) (a_reached : Int32) (a_targets : (Nat → Int32))  (o : ((Nat → Int32) × (Nat → Int32) × Int32 × Int32)) (hf : f_X1_empty a_words a_roots a_base a_top = some o) : ∀ sz : Nat, Met l yX1_empty wsX1_empty rm_X1_empty (gPre [.ref a_p] (dC, dI) vwCl (gT cI cJ cH) (wHp cI a_p a_words_p a_roots_p a_heads_p a_marks_p a_order_p a_targets_p a_words a_roots a_base a_top a_heads a_objects a_marks a_order a_reached a_targets) sz) (va_Qv (fun (u : ((Nat → Int32) × (Nat → Int32) × Int32 × Int32)) => o = u) (gB (dC, dI) vwCl (gT cI cJ cH) (fun (u : ((Nat → Int32) × (Nat → Int32) × Int32 × Int32)) => wHp cI a_p a_words_p a_roots_p a_heads_p a_marks_p a_order_p a_targets_p u.1 u.2.1 u.2.2.1 u.2.2.2 a_heads a_objects a_marks a_order a_reached a_targets) (va_A (wHp cI a_p a_words_p a_roots_p a_heads_p a_marks_p a_order_p a_targets_p a_words a_roots a_base a_top a_heads a_objects a_marks a_order a_reached a_targets) sz)) (va_A (wHp cI a_p a_words_p a_roots_p a_heads_p a_marks_p a_order_p a_targets_p a_words a_roots a_base a_top a_heads a_objects a_marks a_order a_reached a_targets) sz)) 0 0 (va_A (wHp cI a_p a_words_p a_roots_p a_heads_p a_marks_p a_order_p a_targets_p a_words a_roots a_base a_top a_heads a_objects a_marks a_order a_reached a_targets) sz) := by
  refine g_met (fun A => va_Qv (fun (u : ((Nat → Int32) × (Nat → Int32) × Int32 × Int32)) => o = u) (gB (dC, dI) vwCl (gT cI cJ cH) (fun (u : ((Nat → Int32) × (Nat → Int32) × Int32 × Int32)) => wHp cI a_p a_words_p a_roots_p a_heads_p a_marks_p a_order_p a_targets_p u.1 u.2.1 u.2.2.1 u.2.2.2 a_heads a_objects a_marks a_order a_reached a_targets) A) A) (by decide) rfl (Nat.le_of_ble_eq_true rfl) ?_
  intro p e s m args below meth c A Q F hlocks hr hname hN hQ
  unfold f_X1_empty at hf
  refine g_lvE (lv' := [(0, .ref a_p)]) rfl ?_
  refine g_aload_n F dX1_empty_0 rfl 0 rfl ?_
  refine g_get F h_X1_empty_1 0 rfl rfl 0 (by decide) (by decide +kernel) rfl dX1_empty_1 ?_
  refine g_iconst (v := 0) F dX1_empty_4 rfl ?_
  obtain ⟨o1, ho1, hf⟩ := bnE hf
  refine g_callSv (n := 2) (As := [.ref a_words_p, .int (0 : Int32)]) F (c_J7_fill_53178 l dC dI cI cJ cH a_words_p 256 a_words (0 : Int32) o1 ho1) ggX1_empty_J7_fill_53178 rfl rfl rfl (by decide +kernel) (by decide +kernel) (by decide +kernel) (by decide +kernel) ⟨Nat.le_of_ble_eq_true rfl, Nat.le_of_ble_eq_true rfl⟩ ⟨Nat.le_of_ble_eq_true rfl, Nat.le_of_ble_eq_true rfl⟩ hN [1] rfl rfl (fun _ => rfl) rfl (Nat.le_of_ble_eq_true rfl) rfl dX1_empty_5 (cells' := 0) (slots' := 0) rfl rfl (fun u hp => ?_)
  subst hp
  refine g_ws (ws' := wHp cI a_p a_words_p a_roots_p a_heads_p a_marks_p a_order_p a_targets_p o1 a_roots a_base a_top a_heads a_objects a_marks a_order a_reached a_targets) rfl ?_
  refine g_aload_n F dX1_empty_8 rfl 0 rfl ?_
  refine g_get F h_X1_empty_1 0 rfl rfl 1 (by decide) (by decide +kernel) rfl dX1_empty_9 ?_
  refine g_iconst (v := 0) F dX1_empty_12 rfl ?_
  obtain ⟨o2, ho2, hf⟩ := bnE hf
  refine g_callSv (n := 2) (As := [.ref a_roots_p, .int (0 : Int32)]) F (c_J7_fill_53178 l dC dI cI cJ cH a_roots_p 4 a_roots (0 : Int32) o2 ho2) ggX1_empty_J7_fill_53178 rfl rfl rfl (by decide +kernel) (by decide +kernel) (by decide +kernel) (by decide +kernel) ⟨Nat.le_of_ble_eq_true rfl, Nat.le_of_ble_eq_true rfl⟩ ⟨Nat.le_of_ble_eq_true rfl, Nat.le_of_ble_eq_true rfl⟩ hN [2] rfl rfl (fun _ => rfl) rfl (Nat.le_of_ble_eq_true rfl) rfl dX1_empty_13 (cells' := 0) (slots' := 0) rfl rfl (fun u hp => ?_)
  subst hp
  refine g_ws (ws' := wHp cI a_p a_words_p a_roots_p a_heads_p a_marks_p a_order_p a_targets_p o1 o2 a_base a_top a_heads a_objects a_marks a_order a_reached a_targets) rfl ?_
  refine g_aload_n F dX1_empty_16 rfl 0 rfl ?_
  refine g_sipush (v := 4096) F dX1_empty_17 rfl ?_
  refine g_put F h_X1_empty_1 tyX1 tyX1_ok nmX1 0 rfl rfl 2 (by decide) (by decide +kernel) rfl rfl rfl (Nat.le_of_ble_eq_true rfl) dX1_empty_20 (ws' := wHp cI a_p a_words_p a_roots_p a_heads_p a_marks_p a_order_p a_targets_p o1 o2 (4096 : Int32) a_top a_heads a_objects a_marks a_order a_reached a_targets) rfl ?_
  refine g_aload_n F dX1_empty_23 rfl 0 rfl ?_
  refine g_iconst (v := 0) F dX1_empty_24 rfl ?_
  refine g_put F h_X1_empty_1 tyX1 tyX1_ok nmX1 0 rfl rfl 3 (by decide) (by decide +kernel) rfl rfl rfl (Nat.le_of_ble_eq_true rfl) dX1_empty_25 (ws' := wHp cI a_p a_words_p a_roots_p a_heads_p a_marks_p a_order_p a_targets_p o1 o2 (4096 : Int32) (0 : Int32) a_heads a_objects a_marks a_order a_reached a_targets) rfl ?_
  subst hQ
  exact g_vret F hlocks hr (o1, o2, (4096 : Int32), (0 : Int32)) rfl (Option.some.inj hf).symm dX1_empty_28

/-! HeapImages$Heap.addressOf(I)I -/
def rm_X1_addressOf : Room := { frames := 0, cells := 0, slots := 0, locals := 0 }
theorem h_X1_addressOf_1 : ∀ w ∈ wsX10, w ∈ wsX1_addressOf := by decide +kernel
def f_X1_addressOf (a_base : Int32) (x1 : Int32) : Option Int32 :=
  some (a_base + ((4 : Int32) * x1))
set_option maxHeartbeats 4000000 in
set_option maxRecDepth 100000 in
theorem c_X1_addressOf (l : Launch) (dC : Nat → ClassId) (dI : Nat → Nat → Nat) (cI cJ cH : ClassId) (a_p a_words_p a_roots_p a_heads_p a_marks_p a_order_p a_targets_p : Nat)  (a_words : (Nat → Int32)) (a_roots : (Nat → Int32)) (a_base : Int32) (a_top : Int32) (a_heads : (Nat → Int32)) (a_objects : Int32) (a_marks : (Nat → Int32)) (a_order : (Nat → Int32)) (a_reached : Int32) (a_targets : (Nat → Int32)) (x1 : Int32) (o : Int32) (hf : f_X1_addressOf a_base x1 = some o) : ∀ sz : Nat, Met l yX1_addressOf wsX1_addressOf rm_X1_addressOf (gPre [.ref a_p, .int x1] (dC, dI) vwCl (gT cI cJ cH) (wHp cI a_p a_words_p a_roots_p a_heads_p a_marks_p a_order_p a_targets_p a_words a_roots a_base a_top a_heads a_objects a_marks a_order a_reached a_targets) sz) (va_Qi (fun (r : Int32) (u : Unit) => o = r) (gB (dC, dI) vwCl (gT cI cJ cH) (fun (u : Unit) => wHp cI a_p a_words_p a_roots_p a_heads_p a_marks_p a_order_p a_targets_p a_words a_roots a_base a_top a_heads a_objects a_marks a_order a_reached a_targets) (va_A (wHp cI a_p a_words_p a_roots_p a_heads_p a_marks_p a_order_p a_targets_p a_words a_roots a_base a_top a_heads a_objects a_marks a_order a_reached a_targets) sz)) (va_A (wHp cI a_p a_words_p a_roots_p a_heads_p a_marks_p a_order_p a_targets_p a_words a_roots a_base a_top a_heads a_objects a_marks a_order a_reached a_targets) sz)) 0 0 (va_A (wHp cI a_p a_words_p a_roots_p a_heads_p a_marks_p a_order_p a_targets_p a_words a_roots a_base a_top a_heads a_objects a_marks a_order a_reached a_targets) sz) := by
  refine g_met (fun A => va_Qi (fun (r : Int32) (u : Unit) => o = r) (gB (dC, dI) vwCl (gT cI cJ cH) (fun (u : Unit) => wHp cI a_p a_words_p a_roots_p a_heads_p a_marks_p a_order_p a_targets_p a_words a_roots a_base a_top a_heads a_objects a_marks a_order a_reached a_targets) A) A) (by decide) rfl (Nat.le_of_ble_eq_true rfl) ?_
  intro p e s m args below meth c A Q F hlocks hr hname hN hQ
  unfold f_X1_addressOf at hf
  refine g_lvE (lv' := [(0, .ref a_p), (1, .int x1)]) rfl ?_
  refine g_aload_n F dX1_addressOf_0 rfl 0 rfl ?_
  refine g_get F h_X1_addressOf_1 0 rfl rfl 2 (by decide) (by decide +kernel) rfl dX1_addressOf_1 ?_
  refine g_iconst (v := 4) F dX1_addressOf_4 rfl ?_
  refine g_iload_n F dX1_addressOf_5 rfl 1 rfl ?_
  refine g_imul F dX1_addressOf_6 ?_
  refine g_iadd F dX1_addressOf_7 ?_
  subst hQ
  exact g_iret F hlocks hr () rfl (Option.some.inj hf).symm dX1_addressOf_8

/-! HeapImages$Heap.hasRoomFor(I)Z -/
def rm_X1_hasRoomFor : Room := { frames := 0, cells := 0, slots := 0, locals := 0 }
theorem h_X1_hasRoomFor_1 : ∀ w ∈ wsX10, w ∈ wsX1_hasRoomFor := by decide +kernel
def f_X1_hasRoomFor (a_top : Int32) (x1 : Int32) : Option Int32 :=
  if (256 : Int32) < ((a_top + (1 : Int32)) + x1) then some (0 : Int32) else some (1 : Int32)
set_option maxHeartbeats 4000000 in
set_option maxRecDepth 100000 in
theorem c_X1_hasRoomFor (l : Launch) (dC : Nat → ClassId) (dI : Nat → Nat → Nat) (cI cJ cH : ClassId) (a_p a_words_p a_roots_p a_heads_p a_marks_p a_order_p a_targets_p : Nat)  (a_words : (Nat → Int32)) (a_roots : (Nat → Int32)) (a_base : Int32) (a_top : Int32) (a_heads : (Nat → Int32)) (a_objects : Int32) (a_marks : (Nat → Int32)) (a_order : (Nat → Int32)) (a_reached : Int32) (a_targets : (Nat → Int32)) (x1 : Int32) (o : Int32) (hf : f_X1_hasRoomFor a_top x1 = some o) : ∀ sz : Nat, Met l yX1_hasRoomFor wsX1_hasRoomFor rm_X1_hasRoomFor (gPre [.ref a_p, .int x1] (dC, dI) vwCl (gT cI cJ cH) (wHp cI a_p a_words_p a_roots_p a_heads_p a_marks_p a_order_p a_targets_p a_words a_roots a_base a_top a_heads a_objects a_marks a_order a_reached a_targets) sz) (va_Qi (fun (r : Int32) (u : Unit) => o = r) (gB (dC, dI) vwCl (gT cI cJ cH) (fun (u : Unit) => wHp cI a_p a_words_p a_roots_p a_heads_p a_marks_p a_order_p a_targets_p a_words a_roots a_base a_top a_heads a_objects a_marks a_order a_reached a_targets) (va_A (wHp cI a_p a_words_p a_roots_p a_heads_p a_marks_p a_order_p a_targets_p a_words a_roots a_base a_top a_heads a_objects a_marks a_order a_reached a_targets) sz)) (va_A (wHp cI a_p a_words_p a_roots_p a_heads_p a_marks_p a_order_p a_targets_p a_words a_roots a_base a_top a_heads a_objects a_marks a_order a_reached a_targets) sz)) 0 0 (va_A (wHp cI a_p a_words_p a_roots_p a_heads_p a_marks_p a_order_p a_targets_p a_words a_roots a_base a_top a_heads a_objects a_marks a_order a_reached a_targets) sz) := by
  refine g_met (fun A => va_Qi (fun (r : Int32) (u : Unit) => o = r) (gB (dC, dI) vwCl (gT cI cJ cH) (fun (u : Unit) => wHp cI a_p a_words_p a_roots_p a_heads_p a_marks_p a_order_p a_targets_p a_words a_roots a_base a_top a_heads a_objects a_marks a_order a_reached a_targets) A) A) (by decide) rfl (Nat.le_of_ble_eq_true rfl) ?_
  intro p e s m args below meth c A Q F hlocks hr hname hN hQ
  unfold f_X1_hasRoomFor at hf
  refine g_lvE (lv' := [(0, .ref a_p), (1, .int x1)]) rfl ?_
  refine g_aload_n F dX1_hasRoomFor_0 rfl 0 rfl ?_
  refine g_get F h_X1_hasRoomFor_1 0 rfl rfl 3 (by decide) (by decide +kernel) rfl dX1_hasRoomFor_1 ?_
  refine g_iconst (v := 1) F dX1_hasRoomFor_4 rfl ?_
  refine g_iadd F dX1_hasRoomFor_5 ?_
  refine g_iload_n F dX1_hasRoomFor_6 rfl 1 rfl ?_
  refine g_iadd F dX1_hasRoomFor_7 ?_
  refine g_sipush (v := 256) F dX1_hasRoomFor_8 rfl ?_
  refine g_icmp_gt (tgt := 18) F dX1_hasRoomFor_11 (by decide) (fun c11 => ?_) (fun c11 => ?_)
  · have hf := iteT hf c11
    refine g_iconst (v := 0) F dX1_hasRoomFor_18 rfl ?_
    subst hQ
    exact g_zret F hlocks hr rfl () rfl (Option.some.inj hf).symm dX1_hasRoomFor_19
  · have hf := iteF hf c11
    refine g_iconst (v := 1) F dX1_hasRoomFor_14 rfl ?_
    refine g_goto (tgt := 19) F dX1_hasRoomFor_15 (by decide) ?_
    subst hQ
    exact g_zret F hlocks hr rfl () rfl (Option.some.inj hf).symm dX1_hasRoomFor_19

/-! HeapImages$Heap.append(II)I -/
def rm_X1_append : Room := { frames := 0, cells := 0, slots := 0, locals := 0 }
theorem h_X1_append_1 : ∀ w ∈ wsX10, w ∈ wsX1_append := by decide +kernel
def f_X1_append_L22_s (y1 : Int32) (y2 : Int32) (y3 : Int32) (rc : Int32 → (Nat → Int32) → Option (Nat → Int32)) (z4 : Int32) (a_words : (Nat → Int32)) : Option (Nat → Int32) :=
  if (y3 + y2) < z4 then some a_words else ck (inR z4 256) (nm (z4 + (1 : Int32)) fun v4 => rc v4 (upd a_words z4.toNatClampNeg (0 : Int32)))
def f_X1_append_L22 (y1 : Int32) (y2 : Int32) (y3 : Int32) : Nat → Int32 → (Nat → Int32) → Option (Nat → Int32)
  | 0, _, _ => none
  | n + 1, z4, a_words => f_X1_append_L22_s y1 y2 y3 (f_X1_append_L22 y1 y2 y3 n) z4 a_words
set_option maxHeartbeats 4000000 in
theorem w_X1_append_L22 {p : Program} {l : Launch} {e : Env} {s : State} {m : MethodId} {args : Array Value} {below : List Frame} {meth : Method} {c : Code} {A : Nat → Prop} {Q : State → Prop} {dC : Nat → ClassId} {dI : Nat → Nat → Nat} {cI cJ cH : ClassId} {a_p a_words_p a_roots_p a_heads_p a_marks_p a_order_p a_targets_p : Nat} {a_roots : (Nat → Int32)} {a_base : Int32} {a_top : Int32} {a_heads : (Nat → Int32)} {a_objects : Int32} {a_marks : (Nat → Int32)} {a_order : (Nat → Int32)} {a_reached : Int32} {a_targets : (Nat → Int32)} {y1 : Int32} {y2 : Int32} {y3 : Int32} (F : gF p m c cX1_append 5 s args wsX1_append yX1_append.cls (dC, dI) vwCl (gT cI cJ cH) A) (hN : ∀ w ∈ gN, va_Nw w s) : ∀ (n : Nat) (z4 : Int32) (a_words : (Nat → Int32)) (o : (Nat → Int32)), f_X1_append_L22 y1 y2 y3 n z4 a_words = some o → (gW p l e rm_X1_append s m args below meth c 0 0 Q (dC, dI) vwCl A 5 (wHp cI a_p a_words_p a_roots_p a_heads_p a_marks_p a_order_p a_targets_p o a_roots a_base a_top a_heads a_objects a_marks a_order a_reached a_targets) [(0, .ref a_p), (1, .int y1), (2, .int y2), (3, .int y3)] 44 []) → gW p l e rm_X1_append s m args below meth c 0 0 Q (dC, dI) vwCl A 5 (wHp cI a_p a_words_p a_roots_p a_heads_p a_marks_p a_order_p a_targets_p a_words a_roots a_base a_top a_heads a_objects a_marks a_order a_reached a_targets) [(0, .ref a_p), (1, .int y1), (2, .int y2), (3, .int y3), (4, .int z4)] 22 [] := by
  intro n
  induction n with
  | zero =>
    intro z4 a_words o hf E0
    change none = some o at hf
    cases hf
  | succ n ih =>
    intro z4 a_words o hf E0
    change f_X1_append_L22_s y1 y2 y3 (f_X1_append_L22 y1 y2 y3 n) z4 a_words = some o at hf
    unfold f_X1_append_L22_s at hf
    refine g_iload F dX1_append_22 4 rfl ?_
    refine g_iload_n F dX1_append_24 rfl 3 rfl ?_
    refine g_iload_n F dX1_append_25 rfl 2 rfl ?_
    refine g_iadd F dX1_append_26 ?_
    refine g_icmp_gt (tgt := 44) F dX1_append_27 (by decide) (fun c27 => ?_) (fun c27 => ?_)
    · have hf := iteT hf c27
      cases hf
      refine g_lv [0, 1, 2, 3] rfl ?_
      exact E0
    · have hf := iteF hf c27
      refine g_aload_n F dX1_append_30 rfl 0 rfl ?_
      refine g_get F h_X1_append_1 0 rfl rfl 0 (by decide) (by decide +kernel) rfl dX1_append_31 ?_
      refine g_iload F dX1_append_34 4 rfl ?_
      refine g_iconst (v := 0) F dX1_append_36 rfl ?_
      obtain ⟨h3, hf⟩ := ckE hf
      refine g_iast F 1 0 rfl rfl h3 dX1_append_37 (ws' := wHp cI a_p a_words_p a_roots_p a_heads_p a_marks_p a_order_p a_targets_p (upd a_words z4.toNatClampNeg (0 : Int32)) a_roots a_base a_top a_heads a_objects a_marks a_order a_reached a_targets) rfl ?_
      obtain ⟨v4, ev4, hf⟩ := nmE hf
      refine g_iinc (j := 4) (lv' := [(4, .int v4), (0, .ref a_p), (1, .int y1), (2, .int y2), (3, .int y3)]) F dX1_append_38 rfl ev4.symm (by decide) rfl ?_
      refine g_goto (tgt := 22) F dX1_append_41 (by decide) ?_
      refine g_lv [1, 2, 3, 4, 0] rfl ?_
      exact ih _ _ o hf E0
def f_X1_append (a_words : (Nat → Int32)) (a_top : Int32) (x1 : Int32) (x2 : Int32) : Option (Int32 × (Nat → Int32) × Int32) :=
  ck (inR a_top 256) (nm (a_top + (1 : Int32)) fun v2 => Option.bind (f_X1_append_L22 x1 x2 a_top FU v2 (upd a_words a_top.toNatClampNeg (((64 : Int32) * x1) + x2))) fun o5 => Option.bind (α := (Nat → Int32)) (if x1 = (3 : Int32) then ck (inR (a_top + (2 : Int32)) 256) (some (upd o5 (a_top + (2 : Int32)).toNatClampNeg (1 : Int32))) else some o5) fun j6 => some (a_top, j6, (a_top + (1 : Int32)) + x2))
set_option maxHeartbeats 4000000 in
set_option maxRecDepth 100000 in
theorem c_X1_append (l : Launch) (dC : Nat → ClassId) (dI : Nat → Nat → Nat) (cI cJ cH : ClassId) (a_p a_words_p a_roots_p a_heads_p a_marks_p a_order_p a_targets_p : Nat)  (a_words : (Nat → Int32)) (a_roots : (Nat → Int32)) (a_base : Int32) (a_top : Int32) (a_heads : (Nat → Int32)) (a_objects : Int32) (a_marks : (Nat → Int32)) (a_order : (Nat → Int32)) (a_reached : Int32) (a_targets : (Nat → Int32)) (x1 : Int32) (x2 : Int32) (o : (Int32 × (Nat → Int32) × Int32)) (hf : f_X1_append a_words a_top x1 x2 = some o) : ∀ sz : Nat, Met l yX1_append wsX1_append rm_X1_append (gPre [.ref a_p, .int x1, .int x2] (dC, dI) vwCl (gT cI cJ cH) (wHp cI a_p a_words_p a_roots_p a_heads_p a_marks_p a_order_p a_targets_p a_words a_roots a_base a_top a_heads a_objects a_marks a_order a_reached a_targets) sz) (va_Qi (fun (r : Int32) (u : ((Nat → Int32) × Int32)) => o.1 = r ∧ o.2 = u) (gB (dC, dI) vwCl (gT cI cJ cH) (fun (u : ((Nat → Int32) × Int32)) => wHp cI a_p a_words_p a_roots_p a_heads_p a_marks_p a_order_p a_targets_p u.1 a_roots a_base u.2 a_heads a_objects a_marks a_order a_reached a_targets) (va_A (wHp cI a_p a_words_p a_roots_p a_heads_p a_marks_p a_order_p a_targets_p a_words a_roots a_base a_top a_heads a_objects a_marks a_order a_reached a_targets) sz)) (va_A (wHp cI a_p a_words_p a_roots_p a_heads_p a_marks_p a_order_p a_targets_p a_words a_roots a_base a_top a_heads a_objects a_marks a_order a_reached a_targets) sz)) 0 0 (va_A (wHp cI a_p a_words_p a_roots_p a_heads_p a_marks_p a_order_p a_targets_p a_words a_roots a_base a_top a_heads a_objects a_marks a_order a_reached a_targets) sz) := by
  refine g_met (fun A => va_Qi (fun (r : Int32) (u : ((Nat → Int32) × Int32)) => o.1 = r ∧ o.2 = u) (gB (dC, dI) vwCl (gT cI cJ cH) (fun (u : ((Nat → Int32) × Int32)) => wHp cI a_p a_words_p a_roots_p a_heads_p a_marks_p a_order_p a_targets_p u.1 a_roots a_base u.2 a_heads a_objects a_marks a_order a_reached a_targets) A) A) (by decide) rfl (Nat.le_of_ble_eq_true rfl) ?_
  intro p e s m args below meth c A Q F hlocks hr hname hN hQ
  unfold f_X1_append at hf
  refine g_lvE (lv' := [(0, .ref a_p), (1, .int x1), (2, .int x2)]) rfl ?_
  refine g_aload_n F dX1_append_0 rfl 0 rfl ?_
  refine g_get F h_X1_append_1 0 rfl rfl 3 (by decide) (by decide +kernel) rfl dX1_append_1 ?_
  refine g_istore_n (lv' := [(3, .int a_top), (0, .ref a_p), (1, .int x1), (2, .int x2)]) F dX1_append_4 rfl (by decide) rfl ?_
  refine g_aload_n F dX1_append_5 rfl 1 rfl ?_
  refine g_get F h_X1_append_1 0 rfl rfl 0 (by decide) (by decide +kernel) rfl dX1_append_6 ?_
  refine g_iload_n F dX1_append_9 rfl 0 rfl ?_
  refine g_bipush (v := 64) F dX1_append_10 rfl ?_
  refine g_iload_n F dX1_append_12 rfl 2 rfl ?_
  refine g_imul F dX1_append_13 ?_
  refine g_iload_n F dX1_append_14 rfl 3 rfl ?_
  refine g_iadd F dX1_append_15 ?_
  obtain ⟨h1, hf⟩ := ckE hf
  refine g_iast F 1 0 rfl rfl h1 dX1_append_16 (ws' := wHp cI a_p a_words_p a_roots_p a_heads_p a_marks_p a_order_p a_targets_p (upd a_words a_top.toNatClampNeg (((64 : Int32) * x1) + x2)) a_roots a_base a_top a_heads a_objects a_marks a_order a_reached a_targets) rfl ?_
  refine g_iload_n F dX1_append_17 rfl 0 rfl ?_
  refine g_iconst (v := 1) F dX1_append_18 rfl ?_
  refine g_iadd F dX1_append_19 ?_
  obtain ⟨v2, ev2, hf⟩ := nmE hf
  refine g_nmi ev2 ?_
  refine g_istore (lv' := [(4, .int v2), (3, .int a_top), (0, .ref a_p), (1, .int x1), (2, .int x2)]) F dX1_append_20 (by decide) rfl ?_
  obtain ⟨o5, ho5, hf⟩ := bnE hf
  refine g_lv [2, 3, 4, 1, 0] rfl ?_
  refine w_X1_append_L22 F hN FU _ _ o5 ho5 ?_
  refine g_iload_n F dX1_append_44 rfl 1 rfl ?_
  refine g_iconst (v := 3) F dX1_append_45 rfl ?_
  obtain ⟨j6, hj6, hf⟩ := bnE hf
  have Kj6 : gW p l e rm_X1_append s m args below meth c 0 0 Q (dC, dI) vwCl A 5 (wHp cI a_p a_words_p a_roots_p a_heads_p a_marks_p a_order_p a_targets_p j6 a_roots a_base a_top a_heads a_objects a_marks a_order a_reached a_targets) [(0, .ref a_p), (2, .int x2), (3, .int a_top)] 58 [] := by
    refine g_aload_n F dX1_append_58 rfl 0 rfl ?_
    refine g_iload_n F dX1_append_59 rfl 2 rfl ?_
    refine g_iconst (v := 1) F dX1_append_60 rfl ?_
    refine g_iadd F dX1_append_61 ?_
    refine g_iload_n F dX1_append_62 rfl 1 rfl ?_
    refine g_iadd F dX1_append_63 ?_
    refine g_put F h_X1_append_1 tyX1 tyX1_ok nmX1 0 rfl rfl 3 (by decide) (by decide +kernel) rfl rfl rfl (Nat.le_of_ble_eq_true rfl) dX1_append_64 (ws' := wHp cI a_p a_words_p a_roots_p a_heads_p a_marks_p a_order_p a_targets_p j6 a_roots a_base ((a_top + (1 : Int32)) + x2) a_heads a_objects a_marks a_order a_reached a_targets) rfl ?_
    refine g_iload_n F dX1_append_67 rfl 2 rfl ?_
    subst hQ
    exact g_iret F hlocks hr (j6, (a_top + (1 : Int32)) + x2) rfl (pr2 (Option.some.inj hf)) dX1_append_68
  clear hf
  have hf := hj6
  refine g_icmp_ne (tgt := 58) F dX1_append_46 (by decide) (fun c46 => ?_) (fun c46 => ?_)
  · have hf := iteF hf c46
    cases hf
    refine g_lv [0, 2, 3] rfl ?_
    exact Kj6
  · have hf := iteT hf c46
    refine g_aload_n F dX1_append_49 rfl 0 rfl ?_
    refine g_get F h_X1_append_1 0 rfl rfl 0 (by decide) (by decide +kernel) rfl dX1_append_50 ?_
    refine g_iload_n F dX1_append_53 rfl 3 rfl ?_
    refine g_iconst (v := 2) F dX1_append_54 rfl ?_
    refine g_iadd F dX1_append_55 ?_
    refine g_iconst (v := 1) F dX1_append_56 rfl ?_
    obtain ⟨h7, hf⟩ := ckE hf
    refine g_iast F 1 0 rfl rfl h7 dX1_append_57 (ws' := wHp cI a_p a_words_p a_roots_p a_heads_p a_marks_p a_order_p a_targets_p (upd o5 (a_top + (2 : Int32)).toNatClampNeg (1 : Int32)) a_roots a_base a_top a_heads a_objects a_marks a_order a_reached a_targets) rfl ?_
    cases hf
    refine g_lv [0, 2, 3] rfl ?_
    exact Kj6

/-! HeapImages$Heap.isObject(I)Z -/
def rm_X1_isObject : Room := { frames := 2, cells := 0, slots := 0, locals := 43 }
theorem h_X1_isObject_1 : ∀ w ∈ wsX10, w ∈ wsX1_isObject := by decide +kernel
def f_X1_isObject (a_words : (Nat → Int32)) (a_top : Int32) (x1 : Int32) : Option Int32 :=
  if a_top ≤ x1 then some (0 : Int32) else ck (inR x1 256) (Option.bind (f_X3_isHead (a_words x1.toNatClampNeg)) fun o2 => if o2 = 0 then some (0 : Int32) else ck (inR x1 256) (Option.bind (f_X3_slotsOf (a_words x1.toNatClampNeg)) fun o4 => if a_top < ((x1 + (1 : Int32)) + o4) then some (0 : Int32) else some (1 : Int32)))
set_option maxHeartbeats 4000000 in
set_option maxRecDepth 100000 in
theorem c_X1_isObject (l : Launch) (dC : Nat → ClassId) (dI : Nat → Nat → Nat) (cI cJ cH : ClassId) (a_p a_words_p a_roots_p a_heads_p a_marks_p a_order_p a_targets_p : Nat)  (a_words : (Nat → Int32)) (a_roots : (Nat → Int32)) (a_base : Int32) (a_top : Int32) (a_heads : (Nat → Int32)) (a_objects : Int32) (a_marks : (Nat → Int32)) (a_order : (Nat → Int32)) (a_reached : Int32) (a_targets : (Nat → Int32)) (x1 : Int32) (o : Int32) (hf : f_X1_isObject a_words a_top x1 = some o) : ∀ sz : Nat, Met l yX1_isObject wsX1_isObject rm_X1_isObject (gPre [.ref a_p, .int x1] (dC, dI) vwCl (gT cI cJ cH) (wHp cI a_p a_words_p a_roots_p a_heads_p a_marks_p a_order_p a_targets_p a_words a_roots a_base a_top a_heads a_objects a_marks a_order a_reached a_targets) sz) (va_Qi (fun (r : Int32) (u : Unit) => o = r) (gB (dC, dI) vwCl (gT cI cJ cH) (fun (u : Unit) => wHp cI a_p a_words_p a_roots_p a_heads_p a_marks_p a_order_p a_targets_p a_words a_roots a_base a_top a_heads a_objects a_marks a_order a_reached a_targets) (va_A (wHp cI a_p a_words_p a_roots_p a_heads_p a_marks_p a_order_p a_targets_p a_words a_roots a_base a_top a_heads a_objects a_marks a_order a_reached a_targets) sz)) (va_A (wHp cI a_p a_words_p a_roots_p a_heads_p a_marks_p a_order_p a_targets_p a_words a_roots a_base a_top a_heads a_objects a_marks a_order a_reached a_targets) sz)) 0 0 (va_A (wHp cI a_p a_words_p a_roots_p a_heads_p a_marks_p a_order_p a_targets_p a_words a_roots a_base a_top a_heads a_objects a_marks a_order a_reached a_targets) sz) := by
  refine g_met (fun A => va_Qi (fun (r : Int32) (u : Unit) => o = r) (gB (dC, dI) vwCl (gT cI cJ cH) (fun (u : Unit) => wHp cI a_p a_words_p a_roots_p a_heads_p a_marks_p a_order_p a_targets_p a_words a_roots a_base a_top a_heads a_objects a_marks a_order a_reached a_targets) A) A) (by decide) rfl (Nat.le_of_ble_eq_true rfl) ?_
  intro p e s m args below meth c A Q F hlocks hr hname hN hQ
  unfold f_X1_isObject at hf
  refine g_lvE (lv' := [(0, .ref a_p), (1, .int x1)]) rfl ?_
  refine g_iload_n F dX1_isObject_0 rfl 1 rfl ?_
  refine g_aload_n F dX1_isObject_1 rfl 0 rfl ?_
  refine g_get F h_X1_isObject_1 0 rfl rfl 3 (by decide) (by decide +kernel) rfl dX1_isObject_2 ?_
  refine g_icmp_ge (tgt := 44) F dX1_isObject_5 (by decide) (fun c5 => ?_) (fun c5 => ?_)
  · have hf := iteT hf c5
    refine g_iconst (v := 0) F dX1_isObject_44 rfl ?_
    subst hQ
    exact g_zret F hlocks hr rfl () rfl (Option.some.inj hf).symm dX1_isObject_45
  · have hf := iteF hf c5
    refine g_aload_n F dX1_isObject_8 rfl 0 rfl ?_
    refine g_get F h_X1_isObject_1 0 rfl rfl 0 (by decide) (by decide +kernel) rfl dX1_isObject_9 ?_
    refine g_iload_n F dX1_isObject_12 rfl 1 rfl ?_
    obtain ⟨h1, hf⟩ := ckE hf
    refine g_iald F 1 0 rfl rfl h1 dX1_isObject_13 ?_
    obtain ⟨o2, ho2, hf⟩ := bnE hf
    refine g_callNi (host := "HeapImages") (n := 1) (As := [.int (a_words x1.toNatClampNeg)]) F (c_X3_isHead l dC dI cI cJ cH (a_words x1.toNatClampNeg) o2 ho2) ggX1_isObject_X3_isHead rfl rfl rfl (by decide +kernel) (hN _ (by decide +kernel)) (by decide +kernel) (by decide +kernel) ⟨Nat.le_of_ble_eq_true rfl, Nat.le_of_ble_eq_true rfl⟩ ⟨Nat.le_of_ble_eq_true rfl, Nat.le_of_ble_eq_true rfl⟩ hN [] rfl rfl (fun _ => rfl) rfl (Nat.le_of_ble_eq_true rfl) rfl dX1_isObject_14 (cells' := 0) (slots' := 0) rfl rfl (fun r u hp => ?_)
    subst hp
    refine g_ws (ws' := wHp cI a_p a_words_p a_roots_p a_heads_p a_marks_p a_order_p a_targets_p a_words a_roots a_base a_top a_heads a_objects a_marks a_order a_reached a_targets) rfl ?_
    refine g_if_eq (tgt := 44) F dX1_isObject_17 (by decide) (fun c17 => ?_) (fun c17 => ?_)
    · have hf := iteT hf c17
      refine g_iconst (v := 0) F dX1_isObject_44 rfl ?_
      subst hQ
      exact g_zret F hlocks hr rfl () rfl (Option.some.inj hf).symm dX1_isObject_45
    · have hf := iteF hf c17
      refine g_iload_n F dX1_isObject_20 rfl 1 rfl ?_
      refine g_iconst (v := 1) F dX1_isObject_21 rfl ?_
      refine g_iadd F dX1_isObject_22 ?_
      refine g_aload_n F dX1_isObject_23 rfl 0 rfl ?_
      refine g_get F h_X1_isObject_1 0 rfl rfl 0 (by decide) (by decide +kernel) rfl dX1_isObject_24 ?_
      refine g_iload_n F dX1_isObject_27 rfl 1 rfl ?_
      obtain ⟨h3, hf⟩ := ckE hf
      refine g_iald F 1 0 rfl rfl h3 dX1_isObject_28 ?_
      obtain ⟨o4, ho4, hf⟩ := bnE hf
      refine g_callNi (host := "HeapImages") (n := 1) (As := [.int (a_words x1.toNatClampNeg)]) F (c_X3_slotsOf l dC dI cI cJ cH (a_words x1.toNatClampNeg) o4 ho4) ggX1_isObject_X3_slotsOf rfl rfl rfl (by decide +kernel) (hN _ (by decide +kernel)) (by decide +kernel) (by decide +kernel) ⟨Nat.le_of_ble_eq_true rfl, Nat.le_of_ble_eq_true rfl⟩ ⟨Nat.le_of_ble_eq_true rfl, Nat.le_of_ble_eq_true rfl⟩ hN [] rfl rfl (fun _ => rfl) rfl (Nat.le_of_ble_eq_true rfl) rfl dX1_isObject_29 (cells' := 0) (slots' := 0) rfl rfl (fun r u hp => ?_)
      subst hp
      refine g_ws (ws' := wHp cI a_p a_words_p a_roots_p a_heads_p a_marks_p a_order_p a_targets_p a_words a_roots a_base a_top a_heads a_objects a_marks a_order a_reached a_targets) rfl ?_
      refine g_iadd F dX1_isObject_32 ?_
      refine g_aload_n F dX1_isObject_33 rfl 0 rfl ?_
      refine g_get F h_X1_isObject_1 0 rfl rfl 3 (by decide) (by decide +kernel) rfl dX1_isObject_34 ?_
      refine g_icmp_gt (tgt := 44) F dX1_isObject_37 (by decide) (fun c37 => ?_) (fun c37 => ?_)
      · have hf := iteT hf c37
        refine g_iconst (v := 0) F dX1_isObject_44 rfl ?_
        subst hQ
        exact g_zret F hlocks hr rfl () rfl (Option.some.inj hf).symm dX1_isObject_45
      · have hf := iteF hf c37
        refine g_iconst (v := 1) F dX1_isObject_40 rfl ?_
        refine g_goto (tgt := 45) F dX1_isObject_41 (by decide) ?_
        subst hQ
        exact g_zret F hlocks hr rfl () rfl (Option.some.inj hf).symm dX1_isObject_45

/-! HeapImages$Heap.listObjects()I -/
def rm_X1_listObjects : Room := { frames := 3, cells := 0, slots := 0, locals := 64 }
theorem h_X1_listObjects_1 : ∀ w ∈ wsX10, w ∈ wsX1_listObjects := by decide +kernel
def f_X1_listObjects_L18_s (a_words : (Nat → Int32)) (a_top : Int32) (rc : Int32 → Int32 → (Nat → Int32) → Int32 → (Nat → Int32) → Option (Int32 × (Nat → Int32) × Int32 × (Nat → Int32))) (z1 : Int32) (z2 : Int32) (a_heads : (Nat → Int32)) (a_objects : Int32) (a_marks : (Nat → Int32)) : Option (Int32 × (Nat → Int32) × Int32 × (Nat → Int32)) :=
  if (256 : Int32) ≤ z2 then some (z1, a_heads, a_objects, a_marks) else Option.bind (f_X1_isObject a_words a_top z1) fun o2 => if o2 = 0 then some (z1, a_heads, a_objects, a_marks) else ck (inR z2 256) (ck (inR z1 256) (ck (inR z1 256) (Option.bind (f_X3_slotsOf (a_words z1.toNatClampNeg)) fun o6 => nm (z1 + ((1 : Int32) + o6)) fun v7 => nm (z2 + (1 : Int32)) fun v8 => rc v7 v8 (upd a_heads z2.toNatClampNeg z1) (z2 + (1 : Int32)) (upd a_marks z1.toNatClampNeg (-1 : Int32)))))
def f_X1_listObjects_L18 (a_words : (Nat → Int32)) (a_top : Int32) : Nat → Int32 → Int32 → (Nat → Int32) → Int32 → (Nat → Int32) → Option (Int32 × (Nat → Int32) × Int32 × (Nat → Int32))
  | 0, _, _, _, _, _ => none
  | n + 1, z1, z2, a_heads, a_objects, a_marks => f_X1_listObjects_L18_s a_words a_top (f_X1_listObjects_L18 a_words a_top n) z1 z2 a_heads a_objects a_marks
set_option maxHeartbeats 4000000 in
theorem w_X1_listObjects_L18 {p : Program} {l : Launch} {e : Env} {s : State} {m : MethodId} {args : Array Value} {below : List Frame} {meth : Method} {c : Code} {A : Nat → Prop} {Q : State → Prop} {dC : Nat → ClassId} {dI : Nat → Nat → Nat} {cI cJ cH : ClassId} {a_p a_words_p a_roots_p a_heads_p a_marks_p a_order_p a_targets_p : Nat} {a_words : (Nat → Int32)} {a_roots : (Nat → Int32)} {a_base : Int32} {a_top : Int32} {a_order : (Nat → Int32)} {a_reached : Int32} {a_targets : (Nat → Int32)}  (F : gF p m c cX1_listObjects 3 s args wsX1_listObjects yX1_listObjects.cls (dC, dI) vwCl (gT cI cJ cH) A) (hN : ∀ w ∈ gN, va_Nw w s) : ∀ (n : Nat) (z1 : Int32) (z2 : Int32) (a_heads : (Nat → Int32)) (a_objects : Int32) (a_marks : (Nat → Int32)) (o : (Int32 × (Nat → Int32) × Int32 × (Nat → Int32))), f_X1_listObjects_L18 a_words a_top n z1 z2 a_heads a_objects a_marks = some o → (gW p l e rm_X1_listObjects s m args below meth c 0 0 Q (dC, dI) vwCl A 3 (wHp cI a_p a_words_p a_roots_p a_heads_p a_marks_p a_order_p a_targets_p a_words a_roots a_base a_top o.2.1 o.2.2.1 o.2.2.2 a_order a_reached a_targets) [(1, .int o.1)] 74 []) → gW p l e rm_X1_listObjects s m args below meth c 0 0 Q (dC, dI) vwCl A 3 (wHp cI a_p a_words_p a_roots_p a_heads_p a_marks_p a_order_p a_targets_p a_words a_roots a_base a_top a_heads a_objects a_marks a_order a_reached a_targets) [(0, .ref a_p), (1, .int z1), (2, .int z2)] 18 [] := by
  intro n
  induction n with
  | zero =>
    intro z1 z2 a_heads a_objects a_marks o hf E0
    change none = some o at hf
    cases hf
  | succ n ih =>
    intro z1 z2 a_heads a_objects a_marks o hf E0
    change f_X1_listObjects_L18_s a_words a_top (f_X1_listObjects_L18 a_words a_top n) z1 z2 a_heads a_objects a_marks = some o at hf
    unfold f_X1_listObjects_L18_s at hf
    refine g_iload_n F dX1_listObjects_18 rfl 2 rfl ?_
    refine g_sipush (v := 256) F dX1_listObjects_19 rfl ?_
    refine g_icmp_ge (tgt := 74) F dX1_listObjects_22 (by decide) (fun c22 => ?_) (fun c22 => ?_)
    · have hf := iteT hf c22
      cases hf
      refine g_lv [1] rfl ?_
      exact E0
    · have hf := iteF hf c22
      refine g_aload_n F dX1_listObjects_25 rfl 0 rfl ?_
      refine g_iload_n F dX1_listObjects_26 rfl 1 rfl ?_
      obtain ⟨o2, ho2, hf⟩ := bnE hf
      refine g_callPi (n := 1) (As := [.int z1]) F (c_X1_isObject l dC dI cI cJ cH a_p a_words_p a_roots_p a_heads_p a_marks_p a_order_p a_targets_p a_words a_roots a_base a_top a_heads a_objects a_marks a_order a_reached a_targets z1 o2 ho2) ggX1_listObjects_X1_isObject rfl rfl rfl (by decide +kernel) (by decide +kernel) (by decide +kernel) (by decide +kernel) (by decide +kernel) ⟨Nat.le_of_ble_eq_true rfl, Nat.le_of_ble_eq_true rfl⟩ ⟨Nat.le_of_ble_eq_true rfl, Nat.le_of_ble_eq_true rfl⟩ hN 0 rfl rfl rfl ([]) ([]) rfl (fun _ => rfl) rfl (Nat.le_of_ble_eq_true rfl) rfl dX1_listObjects_27 (cells' := 0) (slots' := 0) rfl rfl (fun r u hp => ?_)
      subst hp
      refine g_ws (ws' := wHp cI a_p a_words_p a_roots_p a_heads_p a_marks_p a_order_p a_targets_p a_words a_roots a_base a_top a_heads a_objects a_marks a_order a_reached a_targets) rfl ?_
      refine g_if_eq (tgt := 74) F dX1_listObjects_30 (by decide) (fun c30 => ?_) (fun c30 => ?_)
      · have hf := iteT hf c30
        cases hf
        refine g_lv [1] rfl ?_
        exact E0
      · have hf := iteF hf c30
        refine g_aload_n F dX1_listObjects_33 rfl 0 rfl ?_
        refine g_get F h_X1_listObjects_1 0 rfl rfl 4 (by decide) (by decide +kernel) rfl dX1_listObjects_34 ?_
        refine g_iload_n F dX1_listObjects_37 rfl 2 rfl ?_
        refine g_iload_n F dX1_listObjects_38 rfl 1 rfl ?_
        obtain ⟨h3, hf⟩ := ckE hf
        refine g_iast F 3 0 rfl rfl h3 dX1_listObjects_39 (ws' := wHp cI a_p a_words_p a_roots_p a_heads_p a_marks_p a_order_p a_targets_p a_words a_roots a_base a_top (upd a_heads z2.toNatClampNeg z1) a_objects a_marks a_order a_reached a_targets) rfl ?_
        refine g_aload_n F dX1_listObjects_40 rfl 0 rfl ?_
        refine g_get F h_X1_listObjects_1 0 rfl rfl 6 (by decide) (by decide +kernel) rfl dX1_listObjects_41 ?_
        refine g_iload_n F dX1_listObjects_44 rfl 1 rfl ?_
        refine g_iconst (v := -1) F dX1_listObjects_45 rfl ?_
        obtain ⟨h4, hf⟩ := ckE hf
        refine g_iast F 4 0 rfl rfl h4 dX1_listObjects_46 (ws' := wHp cI a_p a_words_p a_roots_p a_heads_p a_marks_p a_order_p a_targets_p a_words a_roots a_base a_top (upd a_heads z2.toNatClampNeg z1) a_objects (upd a_marks z1.toNatClampNeg (-1 : Int32)) a_order a_reached a_targets) rfl ?_
        refine g_aload_n F dX1_listObjects_47 rfl 0 rfl ?_
        refine g_iload_n F dX1_listObjects_48 rfl 2 rfl ?_
        refine g_iconst (v := 1) F dX1_listObjects_49 rfl ?_
        refine g_iadd F dX1_listObjects_50 ?_
        refine g_put F h_X1_listObjects_1 tyX1 tyX1_ok nmX1 0 rfl rfl 5 (by decide) (by decide +kernel) rfl rfl rfl (Nat.le_of_ble_eq_true rfl) dX1_listObjects_51 (ws' := wHp cI a_p a_words_p a_roots_p a_heads_p a_marks_p a_order_p a_targets_p a_words a_roots a_base a_top (upd a_heads z2.toNatClampNeg z1) (z2 + (1 : Int32)) (upd a_marks z1.toNatClampNeg (-1 : Int32)) a_order a_reached a_targets) rfl ?_
        refine g_iload_n F dX1_listObjects_54 rfl 1 rfl ?_
        refine g_iconst (v := 1) F dX1_listObjects_55 rfl ?_
        refine g_aload_n F dX1_listObjects_56 rfl 0 rfl ?_
        refine g_get F h_X1_listObjects_1 0 rfl rfl 0 (by decide) (by decide +kernel) rfl dX1_listObjects_57 ?_
        refine g_iload_n F dX1_listObjects_60 rfl 1 rfl ?_
        obtain ⟨h5, hf⟩ := ckE hf
        refine g_iald F 1 0 rfl rfl h5 dX1_listObjects_61 ?_
        obtain ⟨o6, ho6, hf⟩ := bnE hf
        refine g_callNi (host := "HeapImages") (n := 1) (As := [.int (a_words z1.toNatClampNeg)]) F (c_X3_slotsOf l dC dI cI cJ cH (a_words z1.toNatClampNeg) o6 ho6) ggX1_listObjects_X3_slotsOf rfl rfl rfl (by decide +kernel) (hN _ (by decide +kernel)) (by decide +kernel) (by decide +kernel) ⟨Nat.le_of_ble_eq_true rfl, Nat.le_of_ble_eq_true rfl⟩ ⟨Nat.le_of_ble_eq_true rfl, Nat.le_of_ble_eq_true rfl⟩ hN [] rfl rfl (fun _ => rfl) rfl (Nat.le_of_ble_eq_true rfl) rfl dX1_listObjects_62 (cells' := 0) (slots' := 0) rfl rfl (fun r u hp => ?_)
        subst hp
        refine g_ws (ws' := wHp cI a_p a_words_p a_roots_p a_heads_p a_marks_p a_order_p a_targets_p a_words a_roots a_base a_top (upd a_heads z2.toNatClampNeg z1) (z2 + (1 : Int32)) (upd a_marks z1.toNatClampNeg (-1 : Int32)) a_order a_reached a_targets) rfl ?_
        refine g_iadd F dX1_listObjects_65 ?_
        refine g_iadd F dX1_listObjects_66 ?_
        obtain ⟨v7, ev7, hf⟩ := nmE hf
        refine g_nmi ev7 ?_
        refine g_istore_n (lv' := [(1, .int v7), (0, .ref a_p), (2, .int z2)]) F dX1_listObjects_67 rfl (by decide) rfl ?_
        obtain ⟨v8, ev8, hf⟩ := nmE hf
        refine g_iinc (j := 2) (lv' := [(2, .int v8), (1, .int v7), (0, .ref a_p)]) F dX1_listObjects_68 rfl ev8.symm (by decide) rfl ?_
        refine g_goto (tgt := 18) F dX1_listObjects_71 (by decide) ?_
        refine g_lv [2, 1, 0] rfl ?_
        exact ih _ _ _ _ _ o hf E0
def f_X1_listObjects (a_words : (Nat → Int32)) (a_top : Int32) (a_heads : (Nat → Int32)) (a_objects : Int32) (a_marks : (Nat → Int32)) : Option (Int32 × (Nat → Int32) × Int32 × (Nat → Int32)) :=
  Option.bind (f_J7_fill_53178 256 a_marks (-2 : Int32)) fun o1 => Option.bind (f_X1_listObjects_L18 a_words a_top FU (0 : Int32) (0 : Int32) a_heads (0 : Int32) o1) fun o9 => some (o9.1, o9.2.1, o9.2.2.1, o9.2.2.2)
set_option maxHeartbeats 4000000 in
set_option maxRecDepth 100000 in
theorem c_X1_listObjects (l : Launch) (dC : Nat → ClassId) (dI : Nat → Nat → Nat) (cI cJ cH : ClassId) (a_p a_words_p a_roots_p a_heads_p a_marks_p a_order_p a_targets_p : Nat)  (a_words : (Nat → Int32)) (a_roots : (Nat → Int32)) (a_base : Int32) (a_top : Int32) (a_heads : (Nat → Int32)) (a_objects : Int32) (a_marks : (Nat → Int32)) (a_order : (Nat → Int32)) (a_reached : Int32) (a_targets : (Nat → Int32))  (o : (Int32 × (Nat → Int32) × Int32 × (Nat → Int32))) (hf : f_X1_listObjects a_words a_top a_heads a_objects a_marks = some o) : ∀ sz : Nat, Met l yX1_listObjects wsX1_listObjects rm_X1_listObjects (gPre [.ref a_p] (dC, dI) vwCl (gT cI cJ cH) (wHp cI a_p a_words_p a_roots_p a_heads_p a_marks_p a_order_p a_targets_p a_words a_roots a_base a_top a_heads a_objects a_marks a_order a_reached a_targets) sz) (va_Qi (fun (r : Int32) (u : ((Nat → Int32) × Int32 × (Nat → Int32))) => o.1 = r ∧ o.2 = u) (gB (dC, dI) vwCl (gT cI cJ cH) (fun (u : ((Nat → Int32) × Int32 × (Nat → Int32))) => wHp cI a_p a_words_p a_roots_p a_heads_p a_marks_p a_order_p a_targets_p a_words a_roots a_base a_top u.1 u.2.1 u.2.2 a_order a_reached a_targets) (va_A (wHp cI a_p a_words_p a_roots_p a_heads_p a_marks_p a_order_p a_targets_p a_words a_roots a_base a_top a_heads a_objects a_marks a_order a_reached a_targets) sz)) (va_A (wHp cI a_p a_words_p a_roots_p a_heads_p a_marks_p a_order_p a_targets_p a_words a_roots a_base a_top a_heads a_objects a_marks a_order a_reached a_targets) sz)) 0 0 (va_A (wHp cI a_p a_words_p a_roots_p a_heads_p a_marks_p a_order_p a_targets_p a_words a_roots a_base a_top a_heads a_objects a_marks a_order a_reached a_targets) sz) := by
  refine g_met (fun A => va_Qi (fun (r : Int32) (u : ((Nat → Int32) × Int32 × (Nat → Int32))) => o.1 = r ∧ o.2 = u) (gB (dC, dI) vwCl (gT cI cJ cH) (fun (u : ((Nat → Int32) × Int32 × (Nat → Int32))) => wHp cI a_p a_words_p a_roots_p a_heads_p a_marks_p a_order_p a_targets_p a_words a_roots a_base a_top u.1 u.2.1 u.2.2 a_order a_reached a_targets) A) A) (by decide) rfl (Nat.le_of_ble_eq_true rfl) ?_
  intro p e s m args below meth c A Q F hlocks hr hname hN hQ
  unfold f_X1_listObjects at hf
  refine g_lvE (lv' := [(0, .ref a_p)]) rfl ?_
  refine g_aload_n F dX1_listObjects_0 rfl 0 rfl ?_
  refine g_get F h_X1_listObjects_1 0 rfl rfl 6 (by decide) (by decide +kernel) rfl dX1_listObjects_1 ?_
  refine g_bipush (v := -2) F dX1_listObjects_4 rfl ?_
  obtain ⟨o1, ho1, hf⟩ := bnE hf
  refine g_callSv (n := 2) (As := [.ref a_marks_p, .int (-2 : Int32)]) F (c_J7_fill_53178 l dC dI cI cJ cH a_marks_p 256 a_marks (-2 : Int32) o1 ho1) ggX1_listObjects_J7_fill_53178 rfl rfl rfl (by decide +kernel) (by decide +kernel) (by decide +kernel) (by decide +kernel) ⟨Nat.le_of_ble_eq_true rfl, Nat.le_of_ble_eq_true rfl⟩ ⟨Nat.le_of_ble_eq_true rfl, Nat.le_of_ble_eq_true rfl⟩ hN [4] rfl rfl (fun _ => rfl) rfl (Nat.le_of_ble_eq_true rfl) rfl dX1_listObjects_6 (cells' := 0) (slots' := 0) rfl rfl (fun u hp => ?_)
  subst hp
  refine g_ws (ws' := wHp cI a_p a_words_p a_roots_p a_heads_p a_marks_p a_order_p a_targets_p a_words a_roots a_base a_top a_heads a_objects o1 a_order a_reached a_targets) rfl ?_
  refine g_aload_n F dX1_listObjects_9 rfl 0 rfl ?_
  refine g_iconst (v := 0) F dX1_listObjects_10 rfl ?_
  refine g_put F h_X1_listObjects_1 tyX1 tyX1_ok nmX1 0 rfl rfl 5 (by decide) (by decide +kernel) rfl rfl rfl (Nat.le_of_ble_eq_true rfl) dX1_listObjects_11 (ws' := wHp cI a_p a_words_p a_roots_p a_heads_p a_marks_p a_order_p a_targets_p a_words a_roots a_base a_top a_heads (0 : Int32) o1 a_order a_reached a_targets) rfl ?_
  refine g_iconst (v := 0) F dX1_listObjects_14 rfl ?_
  refine g_istore_n (lv' := [(1, .int (0 : Int32)), (0, .ref a_p)]) F dX1_listObjects_15 rfl (by decide) rfl ?_
  refine g_iconst (v := 0) F dX1_listObjects_16 rfl ?_
  refine g_istore_n (lv' := [(2, .int (0 : Int32)), (1, .int (0 : Int32)), (0, .ref a_p)]) F dX1_listObjects_17 rfl (by decide) rfl ?_
  obtain ⟨o9, ho9, hf⟩ := bnE hf
  refine g_lv [2, 1, 0] rfl ?_
  refine w_X1_listObjects_L18 F hN FU _ _ _ _ _ o9 ho9 ?_
  refine g_iload_n F dX1_listObjects_74 rfl 0 rfl ?_
  subst hQ
  exact g_iret F hlocks hr (o9.2.1, o9.2.2.1, o9.2.2.2) rfl (pr2 (Option.some.inj hf)) dX1_listObjects_75

/-! HeapImages$Heap.headOf(I)I -/
def rm_X1_headOf : Room := { frames := 0, cells := 0, slots := 0, locals := 0 }
theorem h_X1_headOf_1 : ∀ w ∈ wsX10, w ∈ wsX1_headOf := by decide +kernel
def f_X1_headOf (a_base : Int32) (a_marks : (Nat → Int32)) (x1 : Int32) : Option Int32 :=
  nm (x1 - a_base) fun v1 => if v1 < 0 then some (-1 : Int32) else if (v1 - v1 / (4 : Int32) * (4 : Int32)) = 0 then if (v1 / (4 : Int32)) < (256 : Int32) then nm (v1 / (4 : Int32)) fun v2 => ck (inR v2 256) (if (a_marks v2.toNatClampNeg) = (-2 : Int32) then some (-1 : Int32) else some v2) else some (-1 : Int32) else some (-1 : Int32)
set_option maxHeartbeats 4000000 in
set_option maxRecDepth 100000 in
theorem c_X1_headOf (l : Launch) (dC : Nat → ClassId) (dI : Nat → Nat → Nat) (cI cJ cH : ClassId) (a_p a_words_p a_roots_p a_heads_p a_marks_p a_order_p a_targets_p : Nat)  (a_words : (Nat → Int32)) (a_roots : (Nat → Int32)) (a_base : Int32) (a_top : Int32) (a_heads : (Nat → Int32)) (a_objects : Int32) (a_marks : (Nat → Int32)) (a_order : (Nat → Int32)) (a_reached : Int32) (a_targets : (Nat → Int32)) (x1 : Int32) (o : Int32) (hf : f_X1_headOf a_base a_marks x1 = some o) : ∀ sz : Nat, Met l yX1_headOf wsX1_headOf rm_X1_headOf (gPre [.ref a_p, .int x1] (dC, dI) vwCl (gT cI cJ cH) (wHp cI a_p a_words_p a_roots_p a_heads_p a_marks_p a_order_p a_targets_p a_words a_roots a_base a_top a_heads a_objects a_marks a_order a_reached a_targets) sz) (va_Qi (fun (r : Int32) (u : Unit) => o = r) (gB (dC, dI) vwCl (gT cI cJ cH) (fun (u : Unit) => wHp cI a_p a_words_p a_roots_p a_heads_p a_marks_p a_order_p a_targets_p a_words a_roots a_base a_top a_heads a_objects a_marks a_order a_reached a_targets) (va_A (wHp cI a_p a_words_p a_roots_p a_heads_p a_marks_p a_order_p a_targets_p a_words a_roots a_base a_top a_heads a_objects a_marks a_order a_reached a_targets) sz)) (va_A (wHp cI a_p a_words_p a_roots_p a_heads_p a_marks_p a_order_p a_targets_p a_words a_roots a_base a_top a_heads a_objects a_marks a_order a_reached a_targets) sz)) 0 0 (va_A (wHp cI a_p a_words_p a_roots_p a_heads_p a_marks_p a_order_p a_targets_p a_words a_roots a_base a_top a_heads a_objects a_marks a_order a_reached a_targets) sz) := by
  refine g_met (fun A => va_Qi (fun (r : Int32) (u : Unit) => o = r) (gB (dC, dI) vwCl (gT cI cJ cH) (fun (u : Unit) => wHp cI a_p a_words_p a_roots_p a_heads_p a_marks_p a_order_p a_targets_p a_words a_roots a_base a_top a_heads a_objects a_marks a_order a_reached a_targets) A) A) (by decide) rfl (Nat.le_of_ble_eq_true rfl) ?_
  intro p e s m args below meth c A Q F hlocks hr hname hN hQ
  unfold f_X1_headOf at hf
  refine g_lvE (lv' := [(0, .ref a_p), (1, .int x1)]) rfl ?_
  refine g_iload_n F dX1_headOf_0 rfl 1 rfl ?_
  refine g_aload_n F dX1_headOf_1 rfl 0 rfl ?_
  refine g_get F h_X1_headOf_1 0 rfl rfl 2 (by decide) (by decide +kernel) rfl dX1_headOf_2 ?_
  refine g_isub F dX1_headOf_5 ?_
  obtain ⟨v1, ev1, hf⟩ := nmE hf
  refine g_nmi ev1 ?_
  refine g_istore_n (lv' := [(2, .int v1), (0, .ref a_p), (1, .int x1)]) F dX1_headOf_6 rfl (by decide) rfl ?_
  refine g_iload_n F dX1_headOf_7 rfl 0 rfl ?_
  refine g_if_lt (tgt := 26) F dX1_headOf_8 (by decide) (fun c8 => ?_) (fun c8 => ?_)
  · have hf := iteT hf c8
    refine g_iconst (v := -1) F dX1_headOf_26 rfl ?_
    subst hQ
    exact g_iret F hlocks hr () rfl (Option.some.inj hf).symm dX1_headOf_27
  · have hf := iteF hf c8
    refine g_iload_n F dX1_headOf_11 rfl 0 rfl ?_
    refine g_iconst (v := 4) F dX1_headOf_12 rfl ?_
    refine g_irem F dX1_headOf_13 (by decide) ?_
    refine g_if_ne (tgt := 26) F dX1_headOf_14 (by decide) (fun c14 => ?_) (fun c14 => ?_)
    · have hf := iteF hf c14
      refine g_iconst (v := -1) F dX1_headOf_26 rfl ?_
      subst hQ
      exact g_iret F hlocks hr () rfl (Option.some.inj hf).symm dX1_headOf_27
    · have hf := iteT hf c14
      refine g_iload_n F dX1_headOf_17 rfl 0 rfl ?_
      refine g_iconst (v := 4) F dX1_headOf_18 rfl ?_
      refine g_idiv F dX1_headOf_19 (by decide) ?_
      refine g_sipush (v := 256) F dX1_headOf_20 rfl ?_
      refine g_icmp_lt (tgt := 28) F dX1_headOf_23 (by decide) (fun c23 => ?_) (fun c23 => ?_)
      · have hf := iteT hf c23
        refine g_iload_n F dX1_headOf_28 rfl 0 rfl ?_
        refine g_iconst (v := 4) F dX1_headOf_29 rfl ?_
        refine g_idiv F dX1_headOf_30 (by decide) ?_
        obtain ⟨v2, ev2, hf⟩ := nmE hf
        refine g_nmi ev2 ?_
        refine g_istore_n (lv' := [(3, .int v2), (2, .int v1), (0, .ref a_p), (1, .int x1)]) F dX1_headOf_31 rfl (by decide) rfl ?_
        refine g_aload_n F dX1_headOf_32 rfl 2 rfl ?_
        refine g_get F h_X1_headOf_1 0 rfl rfl 6 (by decide) (by decide +kernel) rfl dX1_headOf_33 ?_
        refine g_iload_n F dX1_headOf_36 rfl 0 rfl ?_
        obtain ⟨h3, hf⟩ := ckE hf
        refine g_iald F 4 0 rfl rfl h3 dX1_headOf_37 ?_
        refine g_bipush (v := -2) F dX1_headOf_38 rfl ?_
        refine g_icmp_ne (tgt := 47) F dX1_headOf_40 (by decide) (fun c40 => ?_) (fun c40 => ?_)
        · have hf := iteF hf c40
          refine g_iload_n F dX1_headOf_47 rfl 0 rfl ?_
          subst hQ
          exact g_iret F hlocks hr () rfl (Option.some.inj hf).symm dX1_headOf_48
        · have hf := iteT hf c40
          refine g_iconst (v := -1) F dX1_headOf_43 rfl ?_
          refine g_goto (tgt := 48) F dX1_headOf_44 (by decide) ?_
          subst hQ
          exact g_iret F hlocks hr () rfl (Option.some.inj hf).symm dX1_headOf_48
      · have hf := iteF hf c23
        refine g_iconst (v := -1) F dX1_headOf_26 rfl ?_
        subst hQ
        exact g_iret F hlocks hr () rfl (Option.some.inj hf).symm dX1_headOf_27

/-! HeapImages$Heap.isValue(I)Z -/
def rm_X1_isValue : Room := { frames := 1, cells := 0, slots := 0, locals := 23 }
def f_X1_isValue (a_base : Int32) (a_marks : (Nat → Int32)) (x1 : Int32) : Option Int32 :=
  if x1 = 0 then some (1 : Int32) else Option.bind (f_X3_isNumber x1) fun o1 => if o1 = 0 then Option.bind (f_X1_headOf a_base a_marks x1) fun o2 => if o2 < 0 then some (0 : Int32) else some (1 : Int32) else some (1 : Int32)
set_option maxHeartbeats 4000000 in
set_option maxRecDepth 100000 in
theorem c_X1_isValue (l : Launch) (dC : Nat → ClassId) (dI : Nat → Nat → Nat) (cI cJ cH : ClassId) (a_p a_words_p a_roots_p a_heads_p a_marks_p a_order_p a_targets_p : Nat)  (a_words : (Nat → Int32)) (a_roots : (Nat → Int32)) (a_base : Int32) (a_top : Int32) (a_heads : (Nat → Int32)) (a_objects : Int32) (a_marks : (Nat → Int32)) (a_order : (Nat → Int32)) (a_reached : Int32) (a_targets : (Nat → Int32)) (x1 : Int32) (o : Int32) (hf : f_X1_isValue a_base a_marks x1 = some o) : ∀ sz : Nat, Met l yX1_isValue wsX1_isValue rm_X1_isValue (gPre [.ref a_p, .int x1] (dC, dI) vwCl (gT cI cJ cH) (wHp cI a_p a_words_p a_roots_p a_heads_p a_marks_p a_order_p a_targets_p a_words a_roots a_base a_top a_heads a_objects a_marks a_order a_reached a_targets) sz) (va_Qi (fun (r : Int32) (u : Unit) => o = r) (gB (dC, dI) vwCl (gT cI cJ cH) (fun (u : Unit) => wHp cI a_p a_words_p a_roots_p a_heads_p a_marks_p a_order_p a_targets_p a_words a_roots a_base a_top a_heads a_objects a_marks a_order a_reached a_targets) (va_A (wHp cI a_p a_words_p a_roots_p a_heads_p a_marks_p a_order_p a_targets_p a_words a_roots a_base a_top a_heads a_objects a_marks a_order a_reached a_targets) sz)) (va_A (wHp cI a_p a_words_p a_roots_p a_heads_p a_marks_p a_order_p a_targets_p a_words a_roots a_base a_top a_heads a_objects a_marks a_order a_reached a_targets) sz)) 0 0 (va_A (wHp cI a_p a_words_p a_roots_p a_heads_p a_marks_p a_order_p a_targets_p a_words a_roots a_base a_top a_heads a_objects a_marks a_order a_reached a_targets) sz) := by
  refine g_met (fun A => va_Qi (fun (r : Int32) (u : Unit) => o = r) (gB (dC, dI) vwCl (gT cI cJ cH) (fun (u : Unit) => wHp cI a_p a_words_p a_roots_p a_heads_p a_marks_p a_order_p a_targets_p a_words a_roots a_base a_top a_heads a_objects a_marks a_order a_reached a_targets) A) A) (by decide) rfl (Nat.le_of_ble_eq_true rfl) ?_
  intro p e s m args below meth c A Q F hlocks hr hname hN hQ
  unfold f_X1_isValue at hf
  refine g_lvE (lv' := [(0, .ref a_p), (1, .int x1)]) rfl ?_
  refine g_iload_n F dX1_isValue_0 rfl 1 rfl ?_
  refine g_if_eq (tgt := 19) F dX1_isValue_1 (by decide) (fun c1 => ?_) (fun c1 => ?_)
  · have hf := iteT hf c1
    refine g_iconst (v := 1) F dX1_isValue_19 rfl ?_
    refine g_goto (tgt := 24) F dX1_isValue_20 (by decide) ?_
    subst hQ
    exact g_zret F hlocks hr rfl () rfl (Option.some.inj hf).symm dX1_isValue_24
  · have hf := iteF hf c1
    refine g_iload_n F dX1_isValue_4 rfl 1 rfl ?_
    obtain ⟨o1, ho1, hf⟩ := bnE hf
    refine g_callNi (host := "HeapImages") (n := 1) (As := [.int x1]) F (c_X3_isNumber l dC dI cI cJ cH x1 o1 ho1) ggX1_isValue_X3_isNumber rfl rfl rfl (by decide +kernel) (hN _ (by decide +kernel)) (by decide +kernel) (by decide +kernel) ⟨Nat.le_of_ble_eq_true rfl, Nat.le_of_ble_eq_true rfl⟩ ⟨Nat.le_of_ble_eq_true rfl, Nat.le_of_ble_eq_true rfl⟩ hN [] rfl rfl (fun _ => rfl) rfl (Nat.le_of_ble_eq_true rfl) rfl dX1_isValue_5 (cells' := 0) (slots' := 0) rfl rfl (fun r u hp => ?_)
    subst hp
    refine g_ws (ws' := wHp cI a_p a_words_p a_roots_p a_heads_p a_marks_p a_order_p a_targets_p a_words a_roots a_base a_top a_heads a_objects a_marks a_order a_reached a_targets) rfl ?_
    refine g_if_ne (tgt := 19) F dX1_isValue_8 (by decide) (fun c8 => ?_) (fun c8 => ?_)
    · have hf := iteF hf c8
      refine g_iconst (v := 1) F dX1_isValue_19 rfl ?_
      refine g_goto (tgt := 24) F dX1_isValue_20 (by decide) ?_
      subst hQ
      exact g_zret F hlocks hr rfl () rfl (Option.some.inj hf).symm dX1_isValue_24
    · have hf := iteT hf c8
      refine g_aload_n F dX1_isValue_11 rfl 0 rfl ?_
      refine g_iload_n F dX1_isValue_12 rfl 1 rfl ?_
      obtain ⟨o2, ho2, hf⟩ := bnE hf
      refine g_callPi (n := 1) (As := [.int x1]) F (c_X1_headOf l dC dI cI cJ cH a_p a_words_p a_roots_p a_heads_p a_marks_p a_order_p a_targets_p a_words a_roots a_base a_top a_heads a_objects a_marks a_order a_reached a_targets x1 o2 ho2) ggX1_isValue_X1_headOf rfl rfl rfl (by decide +kernel) (by decide +kernel) (by decide +kernel) (by decide +kernel) (by decide +kernel) ⟨Nat.le_of_ble_eq_true rfl, Nat.le_of_ble_eq_true rfl⟩ ⟨Nat.le_of_ble_eq_true rfl, Nat.le_of_ble_eq_true rfl⟩ hN 0 rfl rfl rfl ([]) ([]) rfl (fun _ => rfl) rfl (Nat.le_of_ble_eq_true rfl) rfl dX1_isValue_13 (cells' := 0) (slots' := 0) rfl rfl (fun r u hp => ?_)
      subst hp
      refine g_ws (ws' := wHp cI a_p a_words_p a_roots_p a_heads_p a_marks_p a_order_p a_targets_p a_words a_roots a_base a_top a_heads a_objects a_marks a_order a_reached a_targets) rfl ?_
      refine g_if_lt (tgt := 23) F dX1_isValue_16 (by decide) (fun c16 => ?_) (fun c16 => ?_)
      · have hf := iteT hf c16
        refine g_iconst (v := 0) F dX1_isValue_23 rfl ?_
        subst hQ
        exact g_zret F hlocks hr rfl () rfl (Option.some.inj hf).symm dX1_isValue_24
      · have hf := iteF hf c16
        refine g_iconst (v := 1) F dX1_isValue_19 rfl ?_
        refine g_goto (tgt := 24) F dX1_isValue_20 (by decide) ?_
        subst hQ
        exact g_zret F hlocks hr rfl () rfl (Option.some.inj hf).symm dX1_isValue_24

/-! HeapImages$Heap.faultInCell(I)I -/
def rm_X1_faultInCell : Room := { frames := 2, cells := 0, slots := 0, locals := 44 }
def f_X1_faultInCell (a_base : Int32) (a_marks : (Nat → Int32)) (x1 : Int32) : Option Int32 :=
  Option.bind (f_X1_isValue a_base a_marks x1) fun o1 => if o1 = 0 then some (3 : Int32) else some (0 : Int32)
set_option maxHeartbeats 4000000 in
set_option maxRecDepth 100000 in
theorem c_X1_faultInCell (l : Launch) (dC : Nat → ClassId) (dI : Nat → Nat → Nat) (cI cJ cH : ClassId) (a_p a_words_p a_roots_p a_heads_p a_marks_p a_order_p a_targets_p : Nat)  (a_words : (Nat → Int32)) (a_roots : (Nat → Int32)) (a_base : Int32) (a_top : Int32) (a_heads : (Nat → Int32)) (a_objects : Int32) (a_marks : (Nat → Int32)) (a_order : (Nat → Int32)) (a_reached : Int32) (a_targets : (Nat → Int32)) (x1 : Int32) (o : Int32) (hf : f_X1_faultInCell a_base a_marks x1 = some o) : ∀ sz : Nat, Met l yX1_faultInCell wsX1_faultInCell rm_X1_faultInCell (gPre [.ref a_p, .int x1] (dC, dI) vwCl (gT cI cJ cH) (wHp cI a_p a_words_p a_roots_p a_heads_p a_marks_p a_order_p a_targets_p a_words a_roots a_base a_top a_heads a_objects a_marks a_order a_reached a_targets) sz) (va_Qi (fun (r : Int32) (u : Unit) => o = r) (gB (dC, dI) vwCl (gT cI cJ cH) (fun (u : Unit) => wHp cI a_p a_words_p a_roots_p a_heads_p a_marks_p a_order_p a_targets_p a_words a_roots a_base a_top a_heads a_objects a_marks a_order a_reached a_targets) (va_A (wHp cI a_p a_words_p a_roots_p a_heads_p a_marks_p a_order_p a_targets_p a_words a_roots a_base a_top a_heads a_objects a_marks a_order a_reached a_targets) sz)) (va_A (wHp cI a_p a_words_p a_roots_p a_heads_p a_marks_p a_order_p a_targets_p a_words a_roots a_base a_top a_heads a_objects a_marks a_order a_reached a_targets) sz)) 0 0 (va_A (wHp cI a_p a_words_p a_roots_p a_heads_p a_marks_p a_order_p a_targets_p a_words a_roots a_base a_top a_heads a_objects a_marks a_order a_reached a_targets) sz) := by
  refine g_met (fun A => va_Qi (fun (r : Int32) (u : Unit) => o = r) (gB (dC, dI) vwCl (gT cI cJ cH) (fun (u : Unit) => wHp cI a_p a_words_p a_roots_p a_heads_p a_marks_p a_order_p a_targets_p a_words a_roots a_base a_top a_heads a_objects a_marks a_order a_reached a_targets) A) A) (by decide) rfl (Nat.le_of_ble_eq_true rfl) ?_
  intro p e s m args below meth c A Q F hlocks hr hname hN hQ
  unfold f_X1_faultInCell at hf
  refine g_lvE (lv' := [(0, .ref a_p), (1, .int x1)]) rfl ?_
  refine g_aload_n F dX1_faultInCell_0 rfl 0 rfl ?_
  refine g_iload_n F dX1_faultInCell_1 rfl 1 rfl ?_
  obtain ⟨o1, ho1, hf⟩ := bnE hf
  refine g_callPi (n := 1) (As := [.int x1]) F (c_X1_isValue l dC dI cI cJ cH a_p a_words_p a_roots_p a_heads_p a_marks_p a_order_p a_targets_p a_words a_roots a_base a_top a_heads a_objects a_marks a_order a_reached a_targets x1 o1 ho1) ggX1_faultInCell_X1_isValue rfl rfl rfl (by decide +kernel) (by decide +kernel) (by decide +kernel) (by decide +kernel) (by decide +kernel) ⟨Nat.le_of_ble_eq_true rfl, Nat.le_of_ble_eq_true rfl⟩ ⟨Nat.le_of_ble_eq_true rfl, Nat.le_of_ble_eq_true rfl⟩ hN 0 rfl rfl rfl ([]) ([]) rfl (fun _ => rfl) rfl (Nat.le_of_ble_eq_true rfl) rfl dX1_faultInCell_2 (cells' := 0) (slots' := 0) rfl rfl (fun r u hp => ?_)
  subst hp
  refine g_ws (ws' := wHp cI a_p a_words_p a_roots_p a_heads_p a_marks_p a_order_p a_targets_p a_words a_roots a_base a_top a_heads a_objects a_marks a_order a_reached a_targets) rfl ?_
  refine g_if_eq (tgt := 12) F dX1_faultInCell_5 (by decide) (fun c5 => ?_) (fun c5 => ?_)
  · have hf := iteT hf c5
    refine g_iconst (v := 3) F dX1_faultInCell_12 rfl ?_
    subst hQ
    exact g_iret F hlocks hr () rfl (Option.some.inj hf).symm dX1_faultInCell_13
  · have hf := iteF hf c5
    refine g_iconst (v := 0) F dX1_faultInCell_8 rfl ?_
    refine g_goto (tgt := 13) F dX1_faultInCell_9 (by decide) ?_
    subst hQ
    exact g_iret F hlocks hr () rfl (Option.some.inj hf).symm dX1_faultInCell_13

/-! HeapImages$Heap.faultInLink(II)I -/
def rm_X1_faultInLink : Room := { frames := 2, cells := 0, slots := 0, locals := 44 }
def f_X1_faultInLink (a_base : Int32) (a_marks : (Nat → Int32)) (x1 : Int32) (x2 : Int32) : Option Int32 :=
  Option.bind (f_X1_isValue a_base a_marks x2) fun o1 => if o1 = 0 then some (3 : Int32) else if x1 = 0 then Option.bind (f_X3_isNumber x2) fun o3 => if o3 = 0 then some (0 : Int32) else some (4 : Int32) else Option.bind (f_X3_isNumber x2) fun o2 => if o2 = 0 then some (5 : Int32) else some (0 : Int32)
set_option maxHeartbeats 4000000 in
set_option maxRecDepth 100000 in
theorem c_X1_faultInLink (l : Launch) (dC : Nat → ClassId) (dI : Nat → Nat → Nat) (cI cJ cH : ClassId) (a_p a_words_p a_roots_p a_heads_p a_marks_p a_order_p a_targets_p : Nat)  (a_words : (Nat → Int32)) (a_roots : (Nat → Int32)) (a_base : Int32) (a_top : Int32) (a_heads : (Nat → Int32)) (a_objects : Int32) (a_marks : (Nat → Int32)) (a_order : (Nat → Int32)) (a_reached : Int32) (a_targets : (Nat → Int32)) (x1 : Int32) (x2 : Int32) (o : Int32) (hf : f_X1_faultInLink a_base a_marks x1 x2 = some o) : ∀ sz : Nat, Met l yX1_faultInLink wsX1_faultInLink rm_X1_faultInLink (gPre [.ref a_p, .int x1, .int x2] (dC, dI) vwCl (gT cI cJ cH) (wHp cI a_p a_words_p a_roots_p a_heads_p a_marks_p a_order_p a_targets_p a_words a_roots a_base a_top a_heads a_objects a_marks a_order a_reached a_targets) sz) (va_Qi (fun (r : Int32) (u : Unit) => o = r) (gB (dC, dI) vwCl (gT cI cJ cH) (fun (u : Unit) => wHp cI a_p a_words_p a_roots_p a_heads_p a_marks_p a_order_p a_targets_p a_words a_roots a_base a_top a_heads a_objects a_marks a_order a_reached a_targets) (va_A (wHp cI a_p a_words_p a_roots_p a_heads_p a_marks_p a_order_p a_targets_p a_words a_roots a_base a_top a_heads a_objects a_marks a_order a_reached a_targets) sz)) (va_A (wHp cI a_p a_words_p a_roots_p a_heads_p a_marks_p a_order_p a_targets_p a_words a_roots a_base a_top a_heads a_objects a_marks a_order a_reached a_targets) sz)) 0 0 (va_A (wHp cI a_p a_words_p a_roots_p a_heads_p a_marks_p a_order_p a_targets_p a_words a_roots a_base a_top a_heads a_objects a_marks a_order a_reached a_targets) sz) := by
  refine g_met (fun A => va_Qi (fun (r : Int32) (u : Unit) => o = r) (gB (dC, dI) vwCl (gT cI cJ cH) (fun (u : Unit) => wHp cI a_p a_words_p a_roots_p a_heads_p a_marks_p a_order_p a_targets_p a_words a_roots a_base a_top a_heads a_objects a_marks a_order a_reached a_targets) A) A) (by decide) rfl (Nat.le_of_ble_eq_true rfl) ?_
  intro p e s m args below meth c A Q F hlocks hr hname hN hQ
  unfold f_X1_faultInLink at hf
  refine g_lvE (lv' := [(0, .ref a_p), (1, .int x1), (2, .int x2)]) rfl ?_
  refine g_aload_n F dX1_faultInLink_0 rfl 0 rfl ?_
  refine g_iload_n F dX1_faultInLink_1 rfl 2 rfl ?_
  obtain ⟨o1, ho1, hf⟩ := bnE hf
  refine g_callPi (n := 1) (As := [.int x2]) F (c_X1_isValue l dC dI cI cJ cH a_p a_words_p a_roots_p a_heads_p a_marks_p a_order_p a_targets_p a_words a_roots a_base a_top a_heads a_objects a_marks a_order a_reached a_targets x2 o1 ho1) ggX1_faultInLink_X1_isValue rfl rfl rfl (by decide +kernel) (by decide +kernel) (by decide +kernel) (by decide +kernel) (by decide +kernel) ⟨Nat.le_of_ble_eq_true rfl, Nat.le_of_ble_eq_true rfl⟩ ⟨Nat.le_of_ble_eq_true rfl, Nat.le_of_ble_eq_true rfl⟩ hN 0 rfl rfl rfl ([]) ([]) rfl (fun _ => rfl) rfl (Nat.le_of_ble_eq_true rfl) rfl dX1_faultInLink_2 (cells' := 0) (slots' := 0) rfl rfl (fun r u hp => ?_)
  subst hp
  refine g_ws (ws' := wHp cI a_p a_words_p a_roots_p a_heads_p a_marks_p a_order_p a_targets_p a_words a_roots a_base a_top a_heads a_objects a_marks a_order a_reached a_targets) rfl ?_
  refine g_if_ne (tgt := 10) F dX1_faultInLink_5 (by decide) (fun c5 => ?_) (fun c5 => ?_)
  · have hf := iteF hf c5
    refine g_iload_n F dX1_faultInLink_10 rfl 1 rfl ?_
    refine g_if_ne (tgt := 27) F dX1_faultInLink_11 (by decide) (fun c11 => ?_) (fun c11 => ?_)
    · have hf := iteF hf c11
      refine g_iload_n F dX1_faultInLink_27 rfl 2 rfl ?_
      obtain ⟨o2, ho2, hf⟩ := bnE hf
      refine g_callNi (host := "HeapImages") (n := 1) (As := [.int x2]) F (c_X3_isNumber l dC dI cI cJ cH x2 o2 ho2) ggX1_faultInLink_X3_isNumber rfl rfl rfl (by decide +kernel) (hN _ (by decide +kernel)) (by decide +kernel) (by decide +kernel) ⟨Nat.le_of_ble_eq_true rfl, Nat.le_of_ble_eq_true rfl⟩ ⟨Nat.le_of_ble_eq_true rfl, Nat.le_of_ble_eq_true rfl⟩ hN [] rfl rfl (fun _ => rfl) rfl (Nat.le_of_ble_eq_true rfl) rfl dX1_faultInLink_28 (cells' := 0) (slots' := 0) rfl rfl (fun r u hp => ?_)
      subst hp
      refine g_ws (ws' := wHp cI a_p a_words_p a_roots_p a_heads_p a_marks_p a_order_p a_targets_p a_words a_roots a_base a_top a_heads a_objects a_marks a_order a_reached a_targets) rfl ?_
      refine g_if_eq (tgt := 38) F dX1_faultInLink_31 (by decide) (fun c31 => ?_) (fun c31 => ?_)
      · have hf := iteT hf c31
        refine g_iconst (v := 5) F dX1_faultInLink_38 rfl ?_
        subst hQ
        exact g_iret F hlocks hr () rfl (Option.some.inj hf).symm dX1_faultInLink_39
      · have hf := iteF hf c31
        refine g_iconst (v := 0) F dX1_faultInLink_34 rfl ?_
        refine g_goto (tgt := 39) F dX1_faultInLink_35 (by decide) ?_
        subst hQ
        exact g_iret F hlocks hr () rfl (Option.some.inj hf).symm dX1_faultInLink_39
    · have hf := iteT hf c11
      refine g_iload_n F dX1_faultInLink_14 rfl 2 rfl ?_
      obtain ⟨o3, ho3, hf⟩ := bnE hf
      refine g_callNi (host := "HeapImages") (n := 1) (As := [.int x2]) F (c_X3_isNumber l dC dI cI cJ cH x2 o3 ho3) ggX1_faultInLink_X3_isNumber rfl rfl rfl (by decide +kernel) (hN _ (by decide +kernel)) (by decide +kernel) (by decide +kernel) ⟨Nat.le_of_ble_eq_true rfl, Nat.le_of_ble_eq_true rfl⟩ ⟨Nat.le_of_ble_eq_true rfl, Nat.le_of_ble_eq_true rfl⟩ hN [] rfl rfl (fun _ => rfl) rfl (Nat.le_of_ble_eq_true rfl) rfl dX1_faultInLink_15 (cells' := 0) (slots' := 0) rfl rfl (fun r u hp => ?_)
      subst hp
      refine g_ws (ws' := wHp cI a_p a_words_p a_roots_p a_heads_p a_marks_p a_order_p a_targets_p a_words a_roots a_base a_top a_heads a_objects a_marks a_order a_reached a_targets) rfl ?_
      refine g_if_eq (tgt := 25) F dX1_faultInLink_18 (by decide) (fun c18 => ?_) (fun c18 => ?_)
      · have hf := iteT hf c18
        refine g_iconst (v := 0) F dX1_faultInLink_25 rfl ?_
        subst hQ
        exact g_iret F hlocks hr () rfl (Option.some.inj hf).symm dX1_faultInLink_26
      · have hf := iteF hf c18
        refine g_iconst (v := 4) F dX1_faultInLink_21 rfl ?_
        refine g_goto (tgt := 26) F dX1_faultInLink_22 (by decide) ?_
        subst hQ
        exact g_iret F hlocks hr () rfl (Option.some.inj hf).symm dX1_faultInLink_26
  · have hf := iteT hf c5
    refine g_iconst (v := 3) F dX1_faultInLink_8 rfl ?_
    subst hQ
    exact g_iret F hlocks hr () rfl (Option.some.inj hf).symm dX1_faultInLink_9

/-! HeapImages$Heap.faultInObject(I)I -/
def rm_X1_faultInObject : Room := { frames := 3, cells := 0, slots := 0, locals := 66 }
theorem h_X1_faultInObject_1 : ∀ w ∈ wsX10, w ∈ wsX1_faultInObject := by decide +kernel
def f_X1_faultInObject_L32_s (a_words : (Nat → Int32)) (a_base : Int32) (a_marks : (Nat → Int32)) (y1 : Int32) (y2 : Int32) (y3 : Int32) (rc : Int32 → Option (Nat × Int32 × Int32)) (z4 : Int32) : Option (Nat × Int32 × Int32) :=
  if y3 ≤ z4 then some (0, 0, 0) else nm ((y1 + (1 : Int32)) + z4) fun v6 => if y2 = 0 then ck (inR v6 256) (Option.bind (f_X1_faultInCell a_base a_marks (a_words v6.toNatClampNeg)) fun o8 => if o8 = 0 then nm (z4 + (1 : Int32)) fun v9 => rc v9 else some (1, v6, o8)) else ck (inR v6 256) (Option.bind (f_X1_faultInLink a_base a_marks z4 (a_words v6.toNatClampNeg)) fun o11 => if o11 = 0 then nm (z4 + (1 : Int32)) fun v12 => rc v12 else some (1, v6, o11))
def f_X1_faultInObject_L32 (a_words : (Nat → Int32)) (a_base : Int32) (a_marks : (Nat → Int32)) (y1 : Int32) (y2 : Int32) (y3 : Int32) : Nat → Int32 → Option (Nat × Int32 × Int32)
  | 0, _ => none
  | n + 1, z4 => f_X1_faultInObject_L32_s a_words a_base a_marks y1 y2 y3 (f_X1_faultInObject_L32 a_words a_base a_marks y1 y2 y3 n) z4
set_option maxHeartbeats 4000000 in
theorem w_X1_faultInObject_L32 {p : Program} {l : Launch} {e : Env} {s : State} {m : MethodId} {args : Array Value} {below : List Frame} {meth : Method} {c : Code} {A : Nat → Prop} {Q : State → Prop} {dC : Nat → ClassId} {dI : Nat → Nat → Nat} {cI cJ cH : ClassId} {a_p a_words_p a_roots_p a_heads_p a_marks_p a_order_p a_targets_p : Nat} {a_words : (Nat → Int32)} {a_roots : (Nat → Int32)} {a_base : Int32} {a_top : Int32} {a_heads : (Nat → Int32)} {a_objects : Int32} {a_marks : (Nat → Int32)} {a_order : (Nat → Int32)} {a_reached : Int32} {a_targets : (Nat → Int32)} {y1 : Int32} {y2 : Int32} {y3 : Int32} (F : gF p m c cX1_faultInObject 7 s args wsX1_faultInObject yX1_faultInObject.cls (dC, dI) vwCl (gT cI cJ cH) A) (hN : ∀ w ∈ gN, va_Nw w s) : ∀ (n : Nat) (z4 : Int32) (o : (Nat × Int32 × Int32)), f_X1_faultInObject_L32 a_words a_base a_marks y1 y2 y3 n z4 = some o → (o.1 = 0 → gW p l e rm_X1_faultInObject s m args below meth c 0 0 Q (dC, dI) vwCl A 7 (wHp cI a_p a_words_p a_roots_p a_heads_p a_marks_p a_order_p a_targets_p a_words a_roots a_base a_top a_heads a_objects a_marks a_order a_reached a_targets) [] 100 []) → (o.1 = 1 → gW p l e rm_X1_faultInObject s m args below meth c 0 0 Q (dC, dI) vwCl A 7 (wHp cI a_p a_words_p a_roots_p a_heads_p a_marks_p a_order_p a_targets_p a_words a_roots a_base a_top a_heads a_objects a_marks a_order a_reached a_targets) [(5, .int o.2.1), (6, .int o.2.2)] 84 []) → gW p l e rm_X1_faultInObject s m args below meth c 0 0 Q (dC, dI) vwCl A 7 (wHp cI a_p a_words_p a_roots_p a_heads_p a_marks_p a_order_p a_targets_p a_words a_roots a_base a_top a_heads a_objects a_marks a_order a_reached a_targets) [(0, .ref a_p), (1, .int y1), (2, .int y2), (3, .int y3), (4, .int z4)] 32 [] := by
  intro n
  induction n with
  | zero =>
    intro z4 o hf E0 E1
    change none = some o at hf
    cases hf
  | succ n ih =>
    intro z4 o hf E0 E1
    change f_X1_faultInObject_L32_s a_words a_base a_marks y1 y2 y3 (f_X1_faultInObject_L32 a_words a_base a_marks y1 y2 y3 n) z4 = some o at hf
    unfold f_X1_faultInObject_L32_s at hf
    refine g_iload F dX1_faultInObject_32 4 rfl ?_
    refine g_iload_n F dX1_faultInObject_34 rfl 3 rfl ?_
    refine g_icmp_ge (tgt := 100) F dX1_faultInObject_35 (by decide) (fun c35 => ?_) (fun c35 => ?_)
    · have hf := iteT hf c35
      cases hf
      refine g_lv [] rfl ?_
      exact E0 rfl
    · have hf := iteF hf c35
      refine g_iload_n F dX1_faultInObject_38 rfl 1 rfl ?_
      refine g_iconst (v := 1) F dX1_faultInObject_39 rfl ?_
      refine g_iadd F dX1_faultInObject_40 ?_
      refine g_iload F dX1_faultInObject_41 4 rfl ?_
      refine g_iadd F dX1_faultInObject_43 ?_
      obtain ⟨v6, ev6, hf⟩ := nmE hf
      refine g_nmi ev6 ?_
      refine g_istore (lv' := [(5, .int v6), (0, .ref a_p), (1, .int y1), (2, .int y2), (3, .int y3), (4, .int z4)]) F dX1_faultInObject_44 (by decide) rfl ?_
      refine g_iload_n F dX1_faultInObject_46 rfl 3 rfl ?_
      refine g_if_eq (tgt := 66) F dX1_faultInObject_47 (by decide) (fun c47 => ?_) (fun c47 => ?_)
      · have hf := iteT hf c47
        refine g_aload_n F dX1_faultInObject_66 rfl 1 rfl ?_
        refine g_aload_n F dX1_faultInObject_67 rfl 1 rfl ?_
        refine g_get F h_X1_faultInObject_1 0 rfl rfl 0 (by decide) (by decide +kernel) rfl dX1_faultInObject_68 ?_
        refine g_iload F dX1_faultInObject_71 0 rfl ?_
        obtain ⟨h7, hf⟩ := ckE hf
        refine g_iald F 1 0 rfl rfl h7 dX1_faultInObject_73 ?_
        obtain ⟨o8, ho8, hf⟩ := bnE hf
        refine g_callPi (n := 1) (As := [.int (a_words v6.toNatClampNeg)]) F (c_X1_faultInCell l dC dI cI cJ cH a_p a_words_p a_roots_p a_heads_p a_marks_p a_order_p a_targets_p a_words a_roots a_base a_top a_heads a_objects a_marks a_order a_reached a_targets (a_words v6.toNatClampNeg) o8 ho8) ggX1_faultInObject_X1_faultInCell rfl rfl rfl (by decide +kernel) (by decide +kernel) (by decide +kernel) (by decide +kernel) (by decide +kernel) ⟨Nat.le_of_ble_eq_true rfl, Nat.le_of_ble_eq_true rfl⟩ ⟨Nat.le_of_ble_eq_true rfl, Nat.le_of_ble_eq_true rfl⟩ hN 0 rfl rfl rfl ([]) ([]) rfl (fun _ => rfl) rfl (Nat.le_of_ble_eq_true rfl) rfl dX1_faultInObject_74 (cells' := 0) (slots' := 0) rfl rfl (fun r u hp => ?_)
        subst hp
        refine g_ws (ws' := wHp cI a_p a_words_p a_roots_p a_heads_p a_marks_p a_order_p a_targets_p a_words a_roots a_base a_top a_heads a_objects a_marks a_order a_reached a_targets) rfl ?_
        refine g_istore (lv' := [(6, .int o8), (5, .int v6), (0, .ref a_p), (1, .int y1), (2, .int y2), (3, .int y3), (4, .int z4)]) F dX1_faultInObject_77 (by decide) rfl ?_
        refine g_iload F dX1_faultInObject_79 0 rfl ?_
        refine g_if_eq (tgt := 94) F dX1_faultInObject_81 (by decide) (fun c81 => ?_) (fun c81 => ?_)
        · have hf := iteT hf c81
          obtain ⟨v9, ev9, hf⟩ := nmE hf
          refine g_iinc (j := 6) (lv' := [(4, .int v9), (6, .int o8), (5, .int v6), (0, .ref a_p), (1, .int y1), (2, .int y2), (3, .int y3)]) F dX1_faultInObject_94 rfl ev9.symm (by decide) rfl ?_
          refine g_goto (tgt := 32) F dX1_faultInObject_97 (by decide) ?_
          refine g_lv [3, 4, 5, 6, 0] rfl ?_
          exact ih _ o hf E0 E1
        · have hf := iteF hf c81
          cases hf
          refine g_lv [1, 0] rfl ?_
          exact E1 rfl
      · have hf := iteF hf c47
        refine g_aload_n F dX1_faultInObject_50 rfl 1 rfl ?_
        refine g_iload F dX1_faultInObject_51 5 rfl ?_
        refine g_aload_n F dX1_faultInObject_53 rfl 1 rfl ?_
        refine g_get F h_X1_faultInObject_1 0 rfl rfl 0 (by decide) (by decide +kernel) rfl dX1_faultInObject_54 ?_
        refine g_iload F dX1_faultInObject_57 0 rfl ?_
        obtain ⟨h10, hf⟩ := ckE hf
        refine g_iald F 1 0 rfl rfl h10 dX1_faultInObject_59 ?_
        obtain ⟨o11, ho11, hf⟩ := bnE hf
        refine g_callPi (n := 2) (As := [.int z4, .int (a_words v6.toNatClampNeg)]) F (c_X1_faultInLink l dC dI cI cJ cH a_p a_words_p a_roots_p a_heads_p a_marks_p a_order_p a_targets_p a_words a_roots a_base a_top a_heads a_objects a_marks a_order a_reached a_targets z4 (a_words v6.toNatClampNeg) o11 ho11) ggX1_faultInObject_X1_faultInLink rfl rfl rfl (by decide +kernel) (by decide +kernel) (by decide +kernel) (by decide +kernel) (by decide +kernel) ⟨Nat.le_of_ble_eq_true rfl, Nat.le_of_ble_eq_true rfl⟩ ⟨Nat.le_of_ble_eq_true rfl, Nat.le_of_ble_eq_true rfl⟩ hN 0 rfl rfl rfl ([]) ([]) rfl (fun _ => rfl) rfl (Nat.le_of_ble_eq_true rfl) rfl dX1_faultInObject_60 (cells' := 0) (slots' := 0) rfl rfl (fun r u hp => ?_)
        subst hp
        refine g_ws (ws' := wHp cI a_p a_words_p a_roots_p a_heads_p a_marks_p a_order_p a_targets_p a_words a_roots a_base a_top a_heads a_objects a_marks a_order a_reached a_targets) rfl ?_
        refine g_goto (tgt := 77) F dX1_faultInObject_63 (by decide) ?_
        refine g_istore (lv' := [(6, .int o11), (5, .int v6), (0, .ref a_p), (1, .int y1), (2, .int y2), (3, .int y3), (4, .int z4)]) F dX1_faultInObject_77 (by decide) rfl ?_
        refine g_iload F dX1_faultInObject_79 0 rfl ?_
        refine g_if_eq (tgt := 94) F dX1_faultInObject_81 (by decide) (fun c81 => ?_) (fun c81 => ?_)
        · have hf := iteT hf c81
          obtain ⟨v12, ev12, hf⟩ := nmE hf
          refine g_iinc (j := 6) (lv' := [(4, .int v12), (6, .int o11), (5, .int v6), (0, .ref a_p), (1, .int y1), (2, .int y2), (3, .int y3)]) F dX1_faultInObject_94 rfl ev12.symm (by decide) rfl ?_
          refine g_goto (tgt := 32) F dX1_faultInObject_97 (by decide) ?_
          refine g_lv [3, 4, 5, 6, 0] rfl ?_
          exact ih _ o hf E0 E1
        · have hf := iteF hf c81
          cases hf
          refine g_lv [1, 0] rfl ?_
          exact E1 rfl
def f_X1_faultInObject (a_words : (Nat → Int32)) (a_base : Int32) (a_marks : (Nat → Int32)) (x1 : Int32) : Option Int32 :=
  ck (inR x1 256) (Option.bind (f_X3_kindOf (a_words x1.toNatClampNeg)) fun o2 => Option.bind (α := Int32) (if o2 = (3 : Int32) then some (1 : Int32) else some (0 : Int32)) fun j3 => ck (inR x1 256) (Option.bind (f_X3_valuesOf (a_words x1.toNatClampNeg)) fun o5 => Option.bind (f_X1_faultInObject_L32 a_words a_base a_marks x1 j3 o5 FU (0 : Int32)) fun o13 => if o13.1 = 0 then some (0 : Int32) else some (((1000 : Int32) * o13.2.2) + o13.2.1)))
set_option maxHeartbeats 4000000 in
set_option maxRecDepth 100000 in
theorem c_X1_faultInObject (l : Launch) (dC : Nat → ClassId) (dI : Nat → Nat → Nat) (cI cJ cH : ClassId) (a_p a_words_p a_roots_p a_heads_p a_marks_p a_order_p a_targets_p : Nat)  (a_words : (Nat → Int32)) (a_roots : (Nat → Int32)) (a_base : Int32) (a_top : Int32) (a_heads : (Nat → Int32)) (a_objects : Int32) (a_marks : (Nat → Int32)) (a_order : (Nat → Int32)) (a_reached : Int32) (a_targets : (Nat → Int32)) (x1 : Int32) (o : Int32) (hf : f_X1_faultInObject a_words a_base a_marks x1 = some o) : ∀ sz : Nat, Met l yX1_faultInObject wsX1_faultInObject rm_X1_faultInObject (gPre [.ref a_p, .int x1] (dC, dI) vwCl (gT cI cJ cH) (wHp cI a_p a_words_p a_roots_p a_heads_p a_marks_p a_order_p a_targets_p a_words a_roots a_base a_top a_heads a_objects a_marks a_order a_reached a_targets) sz) (va_Qi (fun (r : Int32) (u : Unit) => o = r) (gB (dC, dI) vwCl (gT cI cJ cH) (fun (u : Unit) => wHp cI a_p a_words_p a_roots_p a_heads_p a_marks_p a_order_p a_targets_p a_words a_roots a_base a_top a_heads a_objects a_marks a_order a_reached a_targets) (va_A (wHp cI a_p a_words_p a_roots_p a_heads_p a_marks_p a_order_p a_targets_p a_words a_roots a_base a_top a_heads a_objects a_marks a_order a_reached a_targets) sz)) (va_A (wHp cI a_p a_words_p a_roots_p a_heads_p a_marks_p a_order_p a_targets_p a_words a_roots a_base a_top a_heads a_objects a_marks a_order a_reached a_targets) sz)) 0 0 (va_A (wHp cI a_p a_words_p a_roots_p a_heads_p a_marks_p a_order_p a_targets_p a_words a_roots a_base a_top a_heads a_objects a_marks a_order a_reached a_targets) sz) := by
  refine g_met (fun A => va_Qi (fun (r : Int32) (u : Unit) => o = r) (gB (dC, dI) vwCl (gT cI cJ cH) (fun (u : Unit) => wHp cI a_p a_words_p a_roots_p a_heads_p a_marks_p a_order_p a_targets_p a_words a_roots a_base a_top a_heads a_objects a_marks a_order a_reached a_targets) A) A) (by decide) rfl (Nat.le_of_ble_eq_true rfl) ?_
  intro p e s m args below meth c A Q F hlocks hr hname hN hQ
  unfold f_X1_faultInObject at hf
  refine g_lvE (lv' := [(0, .ref a_p), (1, .int x1)]) rfl ?_
  refine g_aload_n F dX1_faultInObject_0 rfl 0 rfl ?_
  refine g_get F h_X1_faultInObject_1 0 rfl rfl 0 (by decide) (by decide +kernel) rfl dX1_faultInObject_1 ?_
  refine g_iload_n F dX1_faultInObject_4 rfl 1 rfl ?_
  obtain ⟨h1, hf⟩ := ckE hf
  refine g_iald F 1 0 rfl rfl h1 dX1_faultInObject_5 ?_
  obtain ⟨o2, ho2, hf⟩ := bnE hf
  refine g_callNi (host := "HeapImages") (n := 1) (As := [.int (a_words x1.toNatClampNeg)]) F (c_X3_kindOf l dC dI cI cJ cH (a_words x1.toNatClampNeg) o2 ho2) ggX1_faultInObject_X3_kindOf rfl rfl rfl (by decide +kernel) (hN _ (by decide +kernel)) (by decide +kernel) (by decide +kernel) ⟨Nat.le_of_ble_eq_true rfl, Nat.le_of_ble_eq_true rfl⟩ ⟨Nat.le_of_ble_eq_true rfl, Nat.le_of_ble_eq_true rfl⟩ hN [] rfl rfl (fun _ => rfl) rfl (Nat.le_of_ble_eq_true rfl) rfl dX1_faultInObject_6 (cells' := 0) (slots' := 0) rfl rfl (fun r u hp => ?_)
  subst hp
  refine g_ws (ws' := wHp cI a_p a_words_p a_roots_p a_heads_p a_marks_p a_order_p a_targets_p a_words a_roots a_base a_top a_heads a_objects a_marks a_order a_reached a_targets) rfl ?_
  refine g_iconst (v := 3) F dX1_faultInObject_9 rfl ?_
  obtain ⟨j3, hj3, hf⟩ := bnE hf
  have Kj3 : gW p l e rm_X1_faultInObject s m args below meth c 0 0 Q (dC, dI) vwCl A 7 (wHp cI a_p a_words_p a_roots_p a_heads_p a_marks_p a_order_p a_targets_p a_words a_roots a_base a_top a_heads a_objects a_marks a_order a_reached a_targets) [(0, .ref a_p), (1, .int x1)] 18 [.int j3] := by
    refine g_istore_n (lv' := [(2, .int j3), (0, .ref a_p), (1, .int x1)]) F dX1_faultInObject_18 rfl (by decide) rfl ?_
    refine g_aload_n F dX1_faultInObject_19 rfl 1 rfl ?_
    refine g_get F h_X1_faultInObject_1 0 rfl rfl 0 (by decide) (by decide +kernel) rfl dX1_faultInObject_20 ?_
    refine g_iload_n F dX1_faultInObject_23 rfl 2 rfl ?_
    obtain ⟨h4, hf⟩ := ckE hf
    refine g_iald F 1 0 rfl rfl h4 dX1_faultInObject_24 ?_
    obtain ⟨o5, ho5, hf⟩ := bnE hf
    refine g_callNi (host := "HeapImages") (n := 1) (As := [.int (a_words x1.toNatClampNeg)]) F (c_X3_valuesOf l dC dI cI cJ cH (a_words x1.toNatClampNeg) o5 ho5) ggX1_faultInObject_X3_valuesOf rfl rfl rfl (by decide +kernel) (hN _ (by decide +kernel)) (by decide +kernel) (by decide +kernel) ⟨Nat.le_of_ble_eq_true rfl, Nat.le_of_ble_eq_true rfl⟩ ⟨Nat.le_of_ble_eq_true rfl, Nat.le_of_ble_eq_true rfl⟩ hN [] rfl rfl (fun _ => rfl) rfl (Nat.le_of_ble_eq_true rfl) rfl dX1_faultInObject_25 (cells' := 0) (slots' := 0) rfl rfl (fun r u hp => ?_)
    subst hp
    refine g_ws (ws' := wHp cI a_p a_words_p a_roots_p a_heads_p a_marks_p a_order_p a_targets_p a_words a_roots a_base a_top a_heads a_objects a_marks a_order a_reached a_targets) rfl ?_
    refine g_istore_n (lv' := [(3, .int o5), (2, .int j3), (0, .ref a_p), (1, .int x1)]) F dX1_faultInObject_28 rfl (by decide) rfl ?_
    refine g_iconst (v := 0) F dX1_faultInObject_29 rfl ?_
    refine g_istore (lv' := [(4, .int (0 : Int32)), (3, .int o5), (2, .int j3), (0, .ref a_p), (1, .int x1)]) F dX1_faultInObject_30 (by decide) rfl ?_
    obtain ⟨o13, ho13, hf⟩ := bnE hf
    refine g_lv [3, 4, 2, 1, 0] rfl ?_
    refine w_X1_faultInObject_L32 F hN FU _ o13 ho13 ?_ ?_
    · intro hk
      have hf := iteT hf hk
      refine g_iconst (v := 0) F dX1_faultInObject_100 rfl ?_
      subst hQ
      exact g_iret F hlocks hr () rfl (Option.some.inj hf).symm dX1_faultInObject_101
    · intro hk
      have hf := iteF hf (by rw [hk]; decide)
      refine g_sipush (v := 1000) F dX1_faultInObject_84 rfl ?_
      refine g_iload F dX1_faultInObject_87 1 rfl ?_
      refine g_imul F dX1_faultInObject_89 ?_
      refine g_iload F dX1_faultInObject_90 0 rfl ?_
      refine g_iadd F dX1_faultInObject_92 ?_
      subst hQ
      exact g_iret F hlocks hr () rfl (Option.some.inj hf).symm dX1_faultInObject_93
  clear hf
  have hf := hj3
  refine g_icmp_ne (tgt := 17) F dX1_faultInObject_10 (by decide) (fun c10 => ?_) (fun c10 => ?_)
  · have hf := iteF hf c10
    refine g_iconst (v := 0) F dX1_faultInObject_17 rfl ?_
    cases hf
    refine g_lv [0, 1] rfl ?_
    exact Kj3
  · have hf := iteT hf c10
    refine g_iconst (v := 1) F dX1_faultInObject_13 rfl ?_
    refine g_goto (tgt := 18) F dX1_faultInObject_14 (by decide) ?_
    cases hf
    refine g_lv [0, 1] rfl ?_
    exact Kj3

/-! HeapImages$Heap.firstFault()I -/
def rm_X1_firstFault : Room := { frames := 4, cells := 0, slots := 0, locals := 92 }
theorem h_X1_firstFault_1 : ∀ w ∈ wsX10, w ∈ wsX1_firstFault := by decide +kernel
def f_X1_firstFault_L39_s (a_words : (Nat → Int32)) (a_base : Int32) (a_heads : (Nat → Int32)) (a_objects : Int32) (a_marks : (Nat → Int32)) (rc : Int32 → Option (Nat × Int32)) (z2 : Int32) : Option (Nat × Int32) :=
  if a_objects ≤ z2 then some (0, 0) else ck (inR z2 256) (Option.bind (f_X1_faultInObject a_words a_base a_marks (a_heads z2.toNatClampNeg)) fun o3 => if o3 = 0 then nm (z2 + (1 : Int32)) fun v4 => rc v4 else some (1, o3))
def f_X1_firstFault_L39 (a_words : (Nat → Int32)) (a_base : Int32) (a_heads : (Nat → Int32)) (a_objects : Int32) (a_marks : (Nat → Int32)) : Nat → Int32 → Option (Nat × Int32)
  | 0, _ => none
  | n + 1, z2 => f_X1_firstFault_L39_s a_words a_base a_heads a_objects a_marks (f_X1_firstFault_L39 a_words a_base a_heads a_objects a_marks n) z2
set_option maxHeartbeats 4000000 in
theorem w_X1_firstFault_L39 {p : Program} {l : Launch} {e : Env} {s : State} {m : MethodId} {args : Array Value} {below : List Frame} {meth : Method} {c : Code} {A : Nat → Prop} {Q : State → Prop} {dC : Nat → ClassId} {dI : Nat → Nat → Nat} {cI cJ cH : ClassId} {a_p a_words_p a_roots_p a_heads_p a_marks_p a_order_p a_targets_p : Nat} {a_words : (Nat → Int32)} {a_roots : (Nat → Int32)} {a_base : Int32} {a_top : Int32} {a_heads : (Nat → Int32)} {a_objects : Int32} {a_marks : (Nat → Int32)} {a_order : (Nat → Int32)} {a_reached : Int32} {a_targets : (Nat → Int32)}  (F : gF p m c cX1_firstFault 4 s args wsX1_firstFault yX1_firstFault.cls (dC, dI) vwCl (gT cI cJ cH) A) (hN : ∀ w ∈ gN, va_Nw w s) : ∀ (n : Nat) (z2 : Int32) (o : (Nat × Int32)), f_X1_firstFault_L39 a_words a_base a_heads a_objects a_marks n z2 = some o → (o.1 = 0 → gW p l e rm_X1_firstFault s m args below meth c 0 0 Q (dC, dI) vwCl A 4 (wHp cI a_p a_words_p a_roots_p a_heads_p a_marks_p a_order_p a_targets_p a_words a_roots a_base a_top a_heads a_objects a_marks a_order a_reached a_targets) [(0, .ref a_p)] 70 []) → (o.1 = 1 → gW p l e rm_X1_firstFault s m args below meth c 0 0 Q (dC, dI) vwCl A 4 (wHp cI a_p a_words_p a_roots_p a_heads_p a_marks_p a_order_p a_targets_p a_words a_roots a_base a_top a_heads a_objects a_marks a_order a_reached a_targets) [(3, .int o.2)] 62 []) → gW p l e rm_X1_firstFault s m args below meth c 0 0 Q (dC, dI) vwCl A 4 (wHp cI a_p a_words_p a_roots_p a_heads_p a_marks_p a_order_p a_targets_p a_words a_roots a_base a_top a_heads a_objects a_marks a_order a_reached a_targets) [(0, .ref a_p), (2, .int z2)] 39 [] := by
  intro n
  induction n with
  | zero =>
    intro z2 o hf E0 E1
    change none = some o at hf
    cases hf
  | succ n ih =>
    intro z2 o hf E0 E1
    change f_X1_firstFault_L39_s a_words a_base a_heads a_objects a_marks (f_X1_firstFault_L39 a_words a_base a_heads a_objects a_marks n) z2 = some o at hf
    unfold f_X1_firstFault_L39_s at hf
    refine g_iload_n F dX1_firstFault_39 rfl 1 rfl ?_
    refine g_aload_n F dX1_firstFault_40 rfl 0 rfl ?_
    refine g_get F h_X1_firstFault_1 0 rfl rfl 5 (by decide) (by decide +kernel) rfl dX1_firstFault_41 ?_
    refine g_icmp_ge (tgt := 70) F dX1_firstFault_44 (by decide) (fun c44 => ?_) (fun c44 => ?_)
    · have hf := iteT hf c44
      cases hf
      refine g_lv [0] rfl ?_
      exact E0 rfl
    · have hf := iteF hf c44
      refine g_aload_n F dX1_firstFault_47 rfl 0 rfl ?_
      refine g_aload_n F dX1_firstFault_48 rfl 0 rfl ?_
      refine g_get F h_X1_firstFault_1 0 rfl rfl 4 (by decide) (by decide +kernel) rfl dX1_firstFault_49 ?_
      refine g_iload_n F dX1_firstFault_52 rfl 1 rfl ?_
      obtain ⟨h2, hf⟩ := ckE hf
      refine g_iald F 3 0 rfl rfl h2 dX1_firstFault_53 ?_
      obtain ⟨o3, ho3, hf⟩ := bnE hf
      refine g_callPi (n := 1) (As := [.int (a_heads z2.toNatClampNeg)]) F (c_X1_faultInObject l dC dI cI cJ cH a_p a_words_p a_roots_p a_heads_p a_marks_p a_order_p a_targets_p a_words a_roots a_base a_top a_heads a_objects a_marks a_order a_reached a_targets (a_heads z2.toNatClampNeg) o3 ho3) ggX1_firstFault_X1_faultInObject rfl rfl rfl (by decide +kernel) (by decide +kernel) (by decide +kernel) (by decide +kernel) (by decide +kernel) ⟨Nat.le_of_ble_eq_true rfl, Nat.le_of_ble_eq_true rfl⟩ ⟨Nat.le_of_ble_eq_true rfl, Nat.le_of_ble_eq_true rfl⟩ hN 0 rfl rfl rfl ([]) ([]) rfl (fun _ => rfl) rfl (Nat.le_of_ble_eq_true rfl) rfl dX1_firstFault_54 (cells' := 0) (slots' := 0) rfl rfl (fun r u hp => ?_)
      subst hp
      refine g_ws (ws' := wHp cI a_p a_words_p a_roots_p a_heads_p a_marks_p a_order_p a_targets_p a_words a_roots a_base a_top a_heads a_objects a_marks a_order a_reached a_targets) rfl ?_
      refine g_istore_n (lv' := [(3, .int o3), (0, .ref a_p), (2, .int z2)]) F dX1_firstFault_57 rfl (by decide) rfl ?_
      refine g_iload_n F dX1_firstFault_58 rfl 0 rfl ?_
      refine g_if_eq (tgt := 64) F dX1_firstFault_59 (by decide) (fun c59 => ?_) (fun c59 => ?_)
      · have hf := iteT hf c59
        obtain ⟨v4, ev4, hf⟩ := nmE hf
        refine g_iinc (j := 2) (lv' := [(2, .int v4), (3, .int o3), (0, .ref a_p)]) F dX1_firstFault_64 rfl ev4.symm (by decide) rfl ?_
        refine g_goto (tgt := 39) F dX1_firstFault_67 (by decide) ?_
        refine g_lv [2, 0] rfl ?_
        exact ih _ o hf E0 E1
      · have hf := iteF hf c59
        cases hf
        refine g_lv [0] rfl ?_
        exact E1 rfl
def f_X1_firstFault_L72_s (a_roots : (Nat → Int32)) (a_base : Int32) (a_marks : (Nat → Int32)) (rc : Int32 → Option (Nat × Int32)) (z2 : Int32) : Option (Nat × Int32) :=
  if (4 : Int32) ≤ z2 then some (0, 0) else ck (inR z2 4) (Option.bind (f_X1_isValue a_base a_marks (a_roots z2.toNatClampNeg)) fun o7 => if o7 = 0 then some (1, z2) else nm (z2 + (1 : Int32)) fun v8 => rc v8)
def f_X1_firstFault_L72 (a_roots : (Nat → Int32)) (a_base : Int32) (a_marks : (Nat → Int32)) : Nat → Int32 → Option (Nat × Int32)
  | 0, _ => none
  | n + 1, z2 => f_X1_firstFault_L72_s a_roots a_base a_marks (f_X1_firstFault_L72 a_roots a_base a_marks n) z2
set_option maxHeartbeats 4000000 in
theorem w_X1_firstFault_L72 {p : Program} {l : Launch} {e : Env} {s : State} {m : MethodId} {args : Array Value} {below : List Frame} {meth : Method} {c : Code} {A : Nat → Prop} {Q : State → Prop} {dC : Nat → ClassId} {dI : Nat → Nat → Nat} {cI cJ cH : ClassId} {a_p a_words_p a_roots_p a_heads_p a_marks_p a_order_p a_targets_p : Nat} {a_words : (Nat → Int32)} {a_roots : (Nat → Int32)} {a_base : Int32} {a_top : Int32} {a_heads : (Nat → Int32)} {a_objects : Int32} {a_marks : (Nat → Int32)} {a_order : (Nat → Int32)} {a_reached : Int32} {a_targets : (Nat → Int32)}  (F : gF p m c cX1_firstFault 4 s args wsX1_firstFault yX1_firstFault.cls (dC, dI) vwCl (gT cI cJ cH) A) (hN : ∀ w ∈ gN, va_Nw w s) : ∀ (n : Nat) (z2 : Int32) (o : (Nat × Int32)), f_X1_firstFault_L72 a_roots a_base a_marks n z2 = some o → (o.1 = 0 → gW p l e rm_X1_firstFault s m args below meth c 0 0 Q (dC, dI) vwCl A 4 (wHp cI a_p a_words_p a_roots_p a_heads_p a_marks_p a_order_p a_targets_p a_words a_roots a_base a_top a_heads a_objects a_marks a_order a_reached a_targets) [] 102 []) → (o.1 = 1 → gW p l e rm_X1_firstFault s m args below meth c 0 0 Q (dC, dI) vwCl A 4 (wHp cI a_p a_words_p a_roots_p a_heads_p a_marks_p a_order_p a_targets_p a_words a_roots a_base a_top a_heads a_objects a_marks a_order a_reached a_targets) [(2, .int o.2)] 90 []) → gW p l e rm_X1_firstFault s m args below meth c 0 0 Q (dC, dI) vwCl A 4 (wHp cI a_p a_words_p a_roots_p a_heads_p a_marks_p a_order_p a_targets_p a_words a_roots a_base a_top a_heads a_objects a_marks a_order a_reached a_targets) [(0, .ref a_p), (2, .int z2)] 72 [] := by
  intro n
  induction n with
  | zero =>
    intro z2 o hf E0 E1
    change none = some o at hf
    cases hf
  | succ n ih =>
    intro z2 o hf E0 E1
    change f_X1_firstFault_L72_s a_roots a_base a_marks (f_X1_firstFault_L72 a_roots a_base a_marks n) z2 = some o at hf
    unfold f_X1_firstFault_L72_s at hf
    refine g_iload_n F dX1_firstFault_72 rfl 1 rfl ?_
    refine g_iconst (v := 4) F dX1_firstFault_73 rfl ?_
    refine g_icmp_ge (tgt := 102) F dX1_firstFault_74 (by decide) (fun c74 => ?_) (fun c74 => ?_)
    · have hf := iteT hf c74
      cases hf
      refine g_lv [] rfl ?_
      exact E0 rfl
    · have hf := iteF hf c74
      refine g_aload_n F dX1_firstFault_77 rfl 0 rfl ?_
      refine g_aload_n F dX1_firstFault_78 rfl 0 rfl ?_
      refine g_get F h_X1_firstFault_1 0 rfl rfl 1 (by decide) (by decide +kernel) rfl dX1_firstFault_79 ?_
      refine g_iload_n F dX1_firstFault_82 rfl 1 rfl ?_
      obtain ⟨h6, hf⟩ := ckE hf
      refine g_iald F 2 0 rfl rfl h6 dX1_firstFault_83 ?_
      obtain ⟨o7, ho7, hf⟩ := bnE hf
      refine g_callPi (n := 1) (As := [.int (a_roots z2.toNatClampNeg)]) F (c_X1_isValue l dC dI cI cJ cH a_p a_words_p a_roots_p a_heads_p a_marks_p a_order_p a_targets_p a_words a_roots a_base a_top a_heads a_objects a_marks a_order a_reached a_targets (a_roots z2.toNatClampNeg) o7 ho7) ggX1_firstFault_X1_isValue rfl rfl rfl (by decide +kernel) (by decide +kernel) (by decide +kernel) (by decide +kernel) (by decide +kernel) ⟨Nat.le_of_ble_eq_true rfl, Nat.le_of_ble_eq_true rfl⟩ ⟨Nat.le_of_ble_eq_true rfl, Nat.le_of_ble_eq_true rfl⟩ hN 0 rfl rfl rfl ([]) ([]) rfl (fun _ => rfl) rfl (Nat.le_of_ble_eq_true rfl) rfl dX1_firstFault_84 (cells' := 0) (slots' := 0) rfl rfl (fun r u hp => ?_)
      subst hp
      refine g_ws (ws' := wHp cI a_p a_words_p a_roots_p a_heads_p a_marks_p a_order_p a_targets_p a_words a_roots a_base a_top a_heads a_objects a_marks a_order a_reached a_targets) rfl ?_
      refine g_if_ne (tgt := 96) F dX1_firstFault_87 (by decide) (fun c87 => ?_) (fun c87 => ?_)
      · have hf := iteF hf c87
        obtain ⟨v8, ev8, hf⟩ := nmE hf
        refine g_iinc (j := 1) (lv' := [(2, .int v8), (0, .ref a_p)]) F dX1_firstFault_96 rfl ev8.symm (by decide) rfl ?_
        refine g_goto (tgt := 72) F dX1_firstFault_99 (by decide) ?_
        refine g_lv [1, 0] rfl ?_
        exact ih _ o hf E0 E1
      · have hf := iteT hf c87
        cases hf
        refine g_lv [1] rfl ?_
        exact E1 rfl
def f_X1_firstFault (a_words : (Nat → Int32)) (a_roots : (Nat → Int32)) (a_base : Int32) (a_top : Int32) (a_heads : (Nat → Int32)) (a_objects : Int32) (a_marks : (Nat → Int32)) : Option (Int32 × (Nat → Int32) × Int32 × (Nat → Int32)) :=
  Option.bind (f_X1_listObjects a_words a_top a_heads a_objects a_marks) fun o1 => if a_top ≤ o1.1 then Option.bind (f_X1_firstFault_L39 a_words a_base o1.2.1 o1.2.2.1 o1.2.2.2 FU (0 : Int32)) fun o5 => if o5.1 = 0 then Option.bind (f_X1_firstFault_L72 a_roots a_base o1.2.2.2 FU (0 : Int32)) fun o9 => if o9.1 = 0 then some ((0 : Int32), o1.2.1, o1.2.2.1, o1.2.2.2) else some ((6000 : Int32) + o9.2, o1.2.1, o1.2.2.1, o1.2.2.2) else some (o5.2, o1.2.1, o1.2.2.1, o1.2.2.2) else ck (inR o1.1 256) (Option.bind (f_X3_isHead (a_words o1.1.toNatClampNeg)) fun o11 => if o11 = 0 then some (((1000 : Int32) * (1 : Int32)) + o1.1, o1.2.1, o1.2.2.1, o1.2.2.2) else some (((1000 : Int32) * (2 : Int32)) + o1.1, o1.2.1, o1.2.2.1, o1.2.2.2))
set_option maxHeartbeats 4000000 in
set_option maxRecDepth 100000 in
theorem c_X1_firstFault (l : Launch) (dC : Nat → ClassId) (dI : Nat → Nat → Nat) (cI cJ cH : ClassId) (a_p a_words_p a_roots_p a_heads_p a_marks_p a_order_p a_targets_p : Nat)  (a_words : (Nat → Int32)) (a_roots : (Nat → Int32)) (a_base : Int32) (a_top : Int32) (a_heads : (Nat → Int32)) (a_objects : Int32) (a_marks : (Nat → Int32)) (a_order : (Nat → Int32)) (a_reached : Int32) (a_targets : (Nat → Int32))  (o : (Int32 × (Nat → Int32) × Int32 × (Nat → Int32))) (hf : f_X1_firstFault a_words a_roots a_base a_top a_heads a_objects a_marks = some o) : ∀ sz : Nat, Met l yX1_firstFault wsX1_firstFault rm_X1_firstFault (gPre [.ref a_p] (dC, dI) vwCl (gT cI cJ cH) (wHp cI a_p a_words_p a_roots_p a_heads_p a_marks_p a_order_p a_targets_p a_words a_roots a_base a_top a_heads a_objects a_marks a_order a_reached a_targets) sz) (va_Qi (fun (r : Int32) (u : ((Nat → Int32) × Int32 × (Nat → Int32))) => o.1 = r ∧ o.2 = u) (gB (dC, dI) vwCl (gT cI cJ cH) (fun (u : ((Nat → Int32) × Int32 × (Nat → Int32))) => wHp cI a_p a_words_p a_roots_p a_heads_p a_marks_p a_order_p a_targets_p a_words a_roots a_base a_top u.1 u.2.1 u.2.2 a_order a_reached a_targets) (va_A (wHp cI a_p a_words_p a_roots_p a_heads_p a_marks_p a_order_p a_targets_p a_words a_roots a_base a_top a_heads a_objects a_marks a_order a_reached a_targets) sz)) (va_A (wHp cI a_p a_words_p a_roots_p a_heads_p a_marks_p a_order_p a_targets_p a_words a_roots a_base a_top a_heads a_objects a_marks a_order a_reached a_targets) sz)) 0 0 (va_A (wHp cI a_p a_words_p a_roots_p a_heads_p a_marks_p a_order_p a_targets_p a_words a_roots a_base a_top a_heads a_objects a_marks a_order a_reached a_targets) sz) := by
  refine g_met (fun A => va_Qi (fun (r : Int32) (u : ((Nat → Int32) × Int32 × (Nat → Int32))) => o.1 = r ∧ o.2 = u) (gB (dC, dI) vwCl (gT cI cJ cH) (fun (u : ((Nat → Int32) × Int32 × (Nat → Int32))) => wHp cI a_p a_words_p a_roots_p a_heads_p a_marks_p a_order_p a_targets_p a_words a_roots a_base a_top u.1 u.2.1 u.2.2 a_order a_reached a_targets) A) A) (by decide) rfl (Nat.le_of_ble_eq_true rfl) ?_
  intro p e s m args below meth c A Q F hlocks hr hname hN hQ
  unfold f_X1_firstFault at hf
  refine g_lvE (lv' := [(0, .ref a_p)]) rfl ?_
  refine g_aload_n F dX1_firstFault_0 rfl 0 rfl ?_
  obtain ⟨o1, ho1, hf⟩ := bnE hf
  refine g_callPi (n := 0) (As := []) F (c_X1_listObjects l dC dI cI cJ cH a_p a_words_p a_roots_p a_heads_p a_marks_p a_order_p a_targets_p a_words a_roots a_base a_top a_heads a_objects a_marks a_order a_reached a_targets o1 ho1) ggX1_firstFault_X1_listObjects rfl rfl rfl (by decide +kernel) (by decide +kernel) (by decide +kernel) (by decide +kernel) (by decide +kernel) ⟨Nat.le_of_ble_eq_true rfl, Nat.le_of_ble_eq_true rfl⟩ ⟨Nat.le_of_ble_eq_true rfl, Nat.le_of_ble_eq_true rfl⟩ hN 0 rfl rfl rfl ([]) ([]) rfl (fun _ => rfl) rfl (Nat.le_of_ble_eq_true rfl) rfl dX1_firstFault_1 (cells' := 0) (slots' := 0) rfl rfl (fun r u hp => ?_)
  obtain ⟨hp1, hp2⟩ := hp
  subst hp1
  subst hp2
  refine g_ws (ws' := wHp cI a_p a_words_p a_roots_p a_heads_p a_marks_p a_order_p a_targets_p a_words a_roots a_base a_top o1.2.1 o1.2.2.1 o1.2.2.2 a_order a_reached a_targets) rfl ?_
  refine g_istore_n (lv' := [(1, .int o1.1), (0, .ref a_p)]) F dX1_firstFault_4 rfl (by decide) rfl ?_
  refine g_iload_n F dX1_firstFault_5 rfl 0 rfl ?_
  refine g_aload_n F dX1_firstFault_6 rfl 1 rfl ?_
  refine g_get F h_X1_firstFault_1 0 rfl rfl 3 (by decide) (by decide +kernel) rfl dX1_firstFault_7 ?_
  refine g_icmp_ge (tgt := 37) F dX1_firstFault_10 (by decide) (fun c10 => ?_) (fun c10 => ?_)
  · have hf := iteT hf c10
    refine g_iconst (v := 0) F dX1_firstFault_37 rfl ?_
    refine g_istore_n (lv' := [(2, .int (0 : Int32)), (1, .int o1.1), (0, .ref a_p)]) F dX1_firstFault_38 rfl (by decide) rfl ?_
    obtain ⟨o5, ho5, hf⟩ := bnE hf
    refine g_lv [2, 0] rfl ?_
    refine w_X1_firstFault_L39 F hN FU _ o5 ho5 ?_ ?_
    · intro hk
      have hf := iteT hf hk
      refine g_iconst (v := 0) F dX1_firstFault_70 rfl ?_
      refine g_istore_n (lv' := [(2, .int (0 : Int32)), (0, .ref a_p)]) F dX1_firstFault_71 rfl (by decide) rfl ?_
      obtain ⟨o9, ho9, hf⟩ := bnE hf
      refine g_lv [1, 0] rfl ?_
      refine w_X1_firstFault_L72 F hN FU _ o9 ho9 ?_ ?_
      · intro hk
        have hf := iteT hf hk
        refine g_iconst (v := 0) F dX1_firstFault_102 rfl ?_
        subst hQ
        exact g_iret F hlocks hr (o1.2.1, o1.2.2.1, o1.2.2.2) rfl (pr2 (Option.some.inj hf)) dX1_firstFault_103
      · intro hk
        have hf := iteF hf (by rw [hk]; decide)
        refine g_sipush (v := 6000) F dX1_firstFault_90 rfl ?_
        refine g_iload_n F dX1_firstFault_93 rfl 0 rfl ?_
        refine g_iadd F dX1_firstFault_94 ?_
        subst hQ
        exact g_iret F hlocks hr (o1.2.1, o1.2.2.1, o1.2.2.2) rfl (pr2 (Option.some.inj hf)) dX1_firstFault_95
    · intro hk
      have hf := iteF hf (by rw [hk]; decide)
      refine g_iload_n F dX1_firstFault_62 rfl 0 rfl ?_
      subst hQ
      exact g_iret F hlocks hr (o1.2.1, o1.2.2.1, o1.2.2.2) rfl (pr2 (Option.some.inj hf)) dX1_firstFault_63
  · have hf := iteF hf c10
    refine g_sipush (v := 1000) F dX1_firstFault_13 rfl ?_
    refine g_aload_n F dX1_firstFault_16 rfl 1 rfl ?_
    refine g_get F h_X1_firstFault_1 0 rfl rfl 0 (by decide) (by decide +kernel) rfl dX1_firstFault_17 ?_
    refine g_iload_n F dX1_firstFault_20 rfl 0 rfl ?_
    obtain ⟨h10, hf⟩ := ckE hf
    refine g_iald F 1 0 rfl rfl h10 dX1_firstFault_21 ?_
    obtain ⟨o11, ho11, hf⟩ := bnE hf
    refine g_callNi (host := "HeapImages") (n := 1) (As := [.int (a_words o1.1.toNatClampNeg)]) F (c_X3_isHead l dC dI cI cJ cH (a_words o1.1.toNatClampNeg) o11 ho11) ggX1_firstFault_X3_isHead rfl rfl rfl (by decide +kernel) (hN _ (by decide +kernel)) (by decide +kernel) (by decide +kernel) ⟨Nat.le_of_ble_eq_true rfl, Nat.le_of_ble_eq_true rfl⟩ ⟨Nat.le_of_ble_eq_true rfl, Nat.le_of_ble_eq_true rfl⟩ hN [] rfl rfl (fun _ => rfl) rfl (Nat.le_of_ble_eq_true rfl) rfl dX1_firstFault_22 (cells' := 0) (slots' := 0) rfl rfl (fun r u hp => ?_)
    subst hp
    refine g_ws (ws' := wHp cI a_p a_words_p a_roots_p a_heads_p a_marks_p a_order_p a_targets_p a_words a_roots a_base a_top o1.2.1 o1.2.2.1 o1.2.2.2 a_order a_reached a_targets) rfl ?_
    refine g_if_eq (tgt := 32) F dX1_firstFault_25 (by decide) (fun c25 => ?_) (fun c25 => ?_)
    · have hf := iteT hf c25
      refine g_iconst (v := 1) F dX1_firstFault_32 rfl ?_
      refine g_imul F dX1_firstFault_33 ?_
      refine g_iload_n F dX1_firstFault_34 rfl 0 rfl ?_
      refine g_iadd F dX1_firstFault_35 ?_
      subst hQ
      exact g_iret F hlocks hr (o1.2.1, o1.2.2.1, o1.2.2.2) rfl (pr2 (Option.some.inj hf)) dX1_firstFault_36
    · have hf := iteF hf c25
      refine g_iconst (v := 2) F dX1_firstFault_28 rfl ?_
      refine g_goto (tgt := 33) F dX1_firstFault_29 (by decide) ?_
      refine g_imul F dX1_firstFault_33 ?_
      refine g_iload_n F dX1_firstFault_34 rfl 0 rfl ?_
      refine g_iadd F dX1_firstFault_35 ?_
      subst hQ
      exact g_iret F hlocks hr (o1.2.1, o1.2.2.1, o1.2.2.2) rfl (pr2 (Option.some.inj hf)) dX1_firstFault_36
