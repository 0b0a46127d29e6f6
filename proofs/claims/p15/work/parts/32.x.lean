/-! HeapImages.wordPlace(I)I -/
def rm_X3_wordPlace : Room := { frames := 6, cells := 1, slots := 6, locals := 90 }
def f_X3_wordPlace (x0 : Int32) : Option (Nat × Int32) :=
  if x0 < 0 then some (1, 0) else if x0 < (256 : Int32) then some (0, x0) else some (1, 0)
set_option maxHeartbeats 4000000 in
set_option maxRecDepth 100000 in
theorem c_X3_wordPlace (l : Launch) (hlt : l.stackTraces = false) (dC : Nat → ClassId) (dI : Nat → Nat → Nat) (cI cJ cH : ClassId)    (x0 : Int32) (o : (Nat × Int32)) (hf : f_X3_wordPlace x0 = some o) : ∀ sz : Nat, vx_Met l yX3_wordPlace wsX3_wordPlace rm_X3_wordPlace (gPreX [.int x0] (dC, dI) vwCl (gT cI cJ cH) ([]) sz) (va_Qi (fun (r : Int32) (u : Unit) => o.1 = 0 ∧ o.2 = r) (gB (dC, dI) vwCl (gT cI cJ cH) (fun (u : Unit) => []) (va_A ([]) sz)) (va_A ([]) sz)) (vx_X (fun (u : Unit) => o.1 ≠ 0) (gBX (dC, dI) vwCl (gT cI cJ cH) (fun (u : Unit) => []) (exn o.1) (va_A ([]) sz)) (va_A ([]) sz)) 1 6 (va_A ([]) sz) := by
  refine g_metX (fun A => va_Qi (fun (r : Int32) (u : Unit) => o.1 = 0 ∧ o.2 = r) (gB (dC, dI) vwCl (gT cI cJ cH) (fun (u : Unit) => []) A) A) (fun A => vx_X (fun (u : Unit) => o.1 ≠ 0) (gBX (dC, dI) vwCl (gT cI cJ cH) (fun (u : Unit) => []) (exn o.1) A) A) (by decide) rfl (Nat.le_of_ble_eq_true rfl) ?_
  intro p e s m args below meth c A Q F hlocks hr hname hN hX hZ hne hQ
  unfold f_X3_wordPlace at hf
  refine g_lvE (lv' := [(0, .int x0)]) rfl ?_
  refine g_iload_n F dX3_wordPlace_0 rfl 0 rfl ?_
  refine g_if_lt (tgt := 11) F dX3_wordPlace_1 (by decide) (fun c1 => ?_) (fun c1 => ?_)
  · have hf := iteT hf c1
    cases hf
    exact g_throw (cls := "java/lang/IndexOutOfBoundsException") (names := ["java/lang/RuntimeException", "java/lang/Exception"]) F hQ hlt hlocks hne hX hZ (by decide +kernel) (by decide +kernel) (by decide +kernel) (by decide +kernel) (by decide +kernel) (by decide +kernel) (by decide +kernel) dX3_wordPlace_11 dX3_wordPlace_14 dX3_wordPlace_15 dX3_wordPlace_18 (Nat.le_of_ble_eq_true rfl) (Nat.le_of_ble_eq_true rfl) (Nat.le_of_ble_eq_true rfl) (Nat.le_of_ble_eq_true rfl) (Nat.le_of_ble_eq_true rfl) (Nat.le_of_ble_eq_true rfl) rfl () rfl (show (1 : Nat) ≠ 0 by decide)
  · have hf := iteF hf c1
    refine g_iload_n F dX3_wordPlace_4 rfl 0 rfl ?_
    refine g_sipush (v := 256) F dX3_wordPlace_5 rfl ?_
    refine g_icmp_lt (tgt := 19) F dX3_wordPlace_8 (by decide) (fun c8 => ?_) (fun c8 => ?_)
    · have hf := iteT hf c8
      refine g_iload_n F dX3_wordPlace_19 rfl 0 rfl ?_
      cases hf
      exact g_iretX F hQ hlocks hr (Nat.le_of_ble_eq_true rfl) (Nat.le_of_ble_eq_true rfl) () rfl ⟨rfl, rfl⟩ dX3_wordPlace_20
    · have hf := iteF hf c8
      cases hf
      exact g_throw (cls := "java/lang/IndexOutOfBoundsException") (names := ["java/lang/RuntimeException", "java/lang/Exception"]) F hQ hlt hlocks hne hX hZ (by decide +kernel) (by decide +kernel) (by decide +kernel) (by decide +kernel) (by decide +kernel) (by decide +kernel) (by decide +kernel) dX3_wordPlace_11 dX3_wordPlace_14 dX3_wordPlace_15 dX3_wordPlace_18 (Nat.le_of_ble_eq_true rfl) (Nat.le_of_ble_eq_true rfl) (Nat.le_of_ble_eq_true rfl) (Nat.le_of_ble_eq_true rfl) (Nat.le_of_ble_eq_true rfl) (Nat.le_of_ble_eq_true rfl) rfl () rfl (show (1 : Nat) ≠ 0 by decide)

/-! HeapImages.needBase(I)V -/
def rm_X3_needBase : Room := { frames := 6, cells := 1, slots := 6, locals := 90 }
def f_X3_needBase (x0 : Int32) : Option Nat :=
  if x0 < (4 : Int32) then some 2 else if (1000000 : Int32) < x0 then some 2 else if (x0 - x0 / (4 : Int32) * (4 : Int32)) = 0 then some 0 else some 2
set_option maxHeartbeats 4000000 in
set_option maxRecDepth 100000 in
theorem c_X3_needBase (l : Launch) (hlt : l.stackTraces = false) (dC : Nat → ClassId) (dI : Nat → Nat → Nat) (cI cJ cH : ClassId)    (x0 : Int32) (o : Nat) (hf : f_X3_needBase x0 = some o) : ∀ sz : Nat, vx_Met l yX3_needBase wsX3_needBase rm_X3_needBase (gPreX [.int x0] (dC, dI) vwCl (gT cI cJ cH) ([]) sz) (va_Qv (fun (u : Unit) => o = 0) (gB (dC, dI) vwCl (gT cI cJ cH) (fun (u : Unit) => []) (va_A ([]) sz)) (va_A ([]) sz)) (vx_X (fun (u : Unit) => o ≠ 0) (gBX (dC, dI) vwCl (gT cI cJ cH) (fun (u : Unit) => []) (exn o) (va_A ([]) sz)) (va_A ([]) sz)) 1 6 (va_A ([]) sz) := by
  refine g_metX (fun A => va_Qv (fun (u : Unit) => o = 0) (gB (dC, dI) vwCl (gT cI cJ cH) (fun (u : Unit) => []) A) A) (fun A => vx_X (fun (u : Unit) => o ≠ 0) (gBX (dC, dI) vwCl (gT cI cJ cH) (fun (u : Unit) => []) (exn o) A) A) (by decide) rfl (Nat.le_of_ble_eq_true rfl) ?_
  intro p e s m args below meth c A Q F hlocks hr hname hN hX hZ hne hQ
  unfold f_X3_needBase at hf
  refine g_lvE (lv' := [(0, .int x0)]) rfl ?_
  refine g_iload_n F dX3_needBase_0 rfl 0 rfl ?_
  refine g_iconst (v := 4) F dX3_needBase_1 rfl ?_
  refine g_icmp_lt (tgt := 17) F dX3_needBase_2 (by decide) (fun c2 => ?_) (fun c2 => ?_)
  · have hf := iteT hf c2
    cases hf
    exact g_throw (cls := "java/lang/IllegalArgumentException") (names := ["java/lang/RuntimeException", "java/lang/Exception"]) F hQ hlt hlocks hne hX hZ (by decide +kernel) (by decide +kernel) (by decide +kernel) (by decide +kernel) (by decide +kernel) (by decide +kernel) (by decide +kernel) dX3_needBase_17 dX3_needBase_20 dX3_needBase_21 dX3_needBase_24 (Nat.le_of_ble_eq_true rfl) (Nat.le_of_ble_eq_true rfl) (Nat.le_of_ble_eq_true rfl) (Nat.le_of_ble_eq_true rfl) (Nat.le_of_ble_eq_true rfl) (Nat.le_of_ble_eq_true rfl) rfl () rfl (show (2 : Nat) ≠ 0 by decide)
  · have hf := iteF hf c2
    refine g_iload_n F dX3_needBase_5 rfl 0 rfl ?_
    refine g_ldc (v := 1000000) F (by decide +kernel) dX3_needBase_6 ?_
    refine g_icmp_gt (tgt := 17) F dX3_needBase_8 (by decide) (fun c8 => ?_) (fun c8 => ?_)
    · have hf := iteT hf c8
      cases hf
      exact g_throw (cls := "java/lang/IllegalArgumentException") (names := ["java/lang/RuntimeException", "java/lang/Exception"]) F hQ hlt hlocks hne hX hZ (by decide +kernel) (by decide +kernel) (by decide +kernel) (by decide +kernel) (by decide +kernel) (by decide +kernel) (by decide +kernel) dX3_needBase_17 dX3_needBase_20 dX3_needBase_21 dX3_needBase_24 (Nat.le_of_ble_eq_true rfl) (Nat.le_of_ble_eq_true rfl) (Nat.le_of_ble_eq_true rfl) (Nat.le_of_ble_eq_true rfl) (Nat.le_of_ble_eq_true rfl) (Nat.le_of_ble_eq_true rfl) rfl () rfl (show (2 : Nat) ≠ 0 by decide)
    · have hf := iteF hf c8
      refine g_iload_n F dX3_needBase_11 rfl 0 rfl ?_
      refine g_iconst (v := 4) F dX3_needBase_12 rfl ?_
      refine g_irem F dX3_needBase_13 (by decide) ?_
      refine g_if_eq (tgt := 25) F dX3_needBase_14 (by decide) (fun c14 => ?_) (fun c14 => ?_)
      · have hf := iteT hf c14
        cases hf
        exact g_vretX F hQ hlocks hr (Nat.le_of_ble_eq_true rfl) (Nat.le_of_ble_eq_true rfl) () rfl rfl dX3_needBase_25
      · have hf := iteF hf c14
        cases hf
        exact g_throw (cls := "java/lang/IllegalArgumentException") (names := ["java/lang/RuntimeException", "java/lang/Exception"]) F hQ hlt hlocks hne hX hZ (by decide +kernel) (by decide +kernel) (by decide +kernel) (by decide +kernel) (by decide +kernel) (by decide +kernel) (by decide +kernel) dX3_needBase_17 dX3_needBase_20 dX3_needBase_21 dX3_needBase_24 (Nat.le_of_ble_eq_true rfl) (Nat.le_of_ble_eq_true rfl) (Nat.le_of_ble_eq_true rfl) (Nat.le_of_ble_eq_true rfl) (Nat.le_of_ble_eq_true rfl) (Nat.le_of_ble_eq_true rfl) rfl () rfl (show (2 : Nat) ≠ 0 by decide)

/-! HeapImages.needValid(LHeapImages$Heap;)V -/
def rm_X3_needValid : Room := { frames := 6, cells := 1, slots := 6, locals := 115 }
def f_X3_needValid (a_words : (Nat → Int32)) (a_roots : (Nat → Int32)) (a_base : Int32) (a_top : Int32) (a_heads : (Nat → Int32)) (a_objects : Int32) (a_marks : (Nat → Int32)) : Option (Nat × (Nat → Int32) × Int32 × (Nat → Int32)) :=
  Option.bind (f_X1_firstFault a_words a_roots a_base a_top a_heads a_objects a_marks) fun o1 => if o1.1 = 0 then some (0, o1.2.1, o1.2.2.1, o1.2.2.2) else some (3, o1.2.1, o1.2.2.1, o1.2.2.2)
set_option maxHeartbeats 4000000 in
set_option maxRecDepth 100000 in
theorem c_X3_needValid (l : Launch) (hlt : l.stackTraces = false) (dC : Nat → ClassId) (dI : Nat → Nat → Nat) (cI cJ cH : ClassId) (a_p a_words_p a_roots_p a_heads_p a_marks_p a_order_p a_targets_p : Nat)  (a_words : (Nat → Int32)) (a_roots : (Nat → Int32)) (a_base : Int32) (a_top : Int32) (a_heads : (Nat → Int32)) (a_objects : Int32) (a_marks : (Nat → Int32)) (a_order : (Nat → Int32)) (a_reached : Int32) (a_targets : (Nat → Int32))  (o : (Nat × (Nat → Int32) × Int32 × (Nat → Int32))) (hf : f_X3_needValid a_words a_roots a_base a_top a_heads a_objects a_marks = some o) : ∀ sz : Nat, vx_Met l yX3_needValid wsX3_needValid rm_X3_needValid (gPreX [.ref a_p] (dC, dI) vwCl (gT cI cJ cH) (wHp cI a_p a_words_p a_roots_p a_heads_p a_marks_p a_order_p a_targets_p a_words a_roots a_base a_top a_heads a_objects a_marks a_order a_reached a_targets) sz) (va_Qv (fun (u : ((Nat → Int32) × Int32 × (Nat → Int32))) => o.1 = 0 ∧ o.2 = u) (gB (dC, dI) vwCl (gT cI cJ cH) (fun (u : ((Nat → Int32) × Int32 × (Nat → Int32))) => wHp cI a_p a_words_p a_roots_p a_heads_p a_marks_p a_order_p a_targets_p a_words a_roots a_base a_top u.1 u.2.1 u.2.2 a_order a_reached a_targets) (va_A (wHp cI a_p a_words_p a_roots_p a_heads_p a_marks_p a_order_p a_targets_p a_words a_roots a_base a_top a_heads a_objects a_marks a_order a_reached a_targets) sz)) (va_A (wHp cI a_p a_words_p a_roots_p a_heads_p a_marks_p a_order_p a_targets_p a_words a_roots a_base a_top a_heads a_objects a_marks a_order a_reached a_targets) sz)) (vx_X (fun (u : ((Nat → Int32) × Int32 × (Nat → Int32))) => o.1 ≠ 0 ∧ o.2 = u) (gBX (dC, dI) vwCl (gT cI cJ cH) (fun (u : ((Nat → Int32) × Int32 × (Nat → Int32))) => wHp cI a_p a_words_p a_roots_p a_heads_p a_marks_p a_order_p a_targets_p a_words a_roots a_base a_top u.1 u.2.1 u.2.2 a_order a_reached a_targets) (exn o.1) (va_A (wHp cI a_p a_words_p a_roots_p a_heads_p a_marks_p a_order_p a_targets_p a_words a_roots a_base a_top a_heads a_objects a_marks a_order a_reached a_targets) sz)) (va_A (wHp cI a_p a_words_p a_roots_p a_heads_p a_marks_p a_order_p a_targets_p a_words a_roots a_base a_top a_heads a_objects a_marks a_order a_reached a_targets) sz)) 1 6 (va_A (wHp cI a_p a_words_p a_roots_p a_heads_p a_marks_p a_order_p a_targets_p a_words a_roots a_base a_top a_heads a_objects a_marks a_order a_reached a_targets) sz) := by
  refine g_metX (fun A => va_Qv (fun (u : ((Nat → Int32) × Int32 × (Nat → Int32))) => o.1 = 0 ∧ o.2 = u) (gB (dC, dI) vwCl (gT cI cJ cH) (fun (u : ((Nat → Int32) × Int32 × (Nat → Int32))) => wHp cI a_p a_words_p a_roots_p a_heads_p a_marks_p a_order_p a_targets_p a_words a_roots a_base a_top u.1 u.2.1 u.2.2 a_order a_reached a_targets) A) A) (fun A => vx_X (fun (u : ((Nat → Int32) × Int32 × (Nat → Int32))) => o.1 ≠ 0 ∧ o.2 = u) (gBX (dC, dI) vwCl (gT cI cJ cH) (fun (u : ((Nat → Int32) × Int32 × (Nat → Int32))) => wHp cI a_p a_words_p a_roots_p a_heads_p a_marks_p a_order_p a_targets_p a_words a_roots a_base a_top u.1 u.2.1 u.2.2 a_order a_reached a_targets) (exn o.1) A) A) (by decide) rfl (Nat.le_of_ble_eq_true rfl) ?_
  intro p e s m args below meth c A Q F hlocks hr hname hN hX hZ hne hQ
  unfold f_X3_needValid at hf
  refine g_lvE (lv' := [(0, .ref a_p)]) rfl ?_
  refine g_aload_n F dX3_needValid_0 rfl 0 rfl ?_
  obtain ⟨o1, ho1, hf⟩ := bnE hf
  refine g_callPi (n := 0) (As := []) F (c_X1_firstFault l dC dI cI cJ cH a_p a_words_p a_roots_p a_heads_p a_marks_p a_order_p a_targets_p a_words a_roots a_base a_top a_heads a_objects a_marks a_order a_reached a_targets o1 ho1) ggX3_needValid_X1_firstFault rfl rfl rfl (by decide +kernel) (by decide +kernel) (by decide +kernel) (by decide +kernel) (by decide +kernel) ⟨Nat.le_of_ble_eq_true rfl, Nat.le_of_ble_eq_true rfl⟩ ⟨Nat.le_of_ble_eq_true rfl, Nat.le_of_ble_eq_true rfl⟩ hN 0 rfl rfl rfl ([]) ([]) rfl (fun _ => rfl) rfl (Nat.le_of_ble_eq_true rfl) rfl dX3_needValid_1 (cells' := 0) (slots' := 0) rfl rfl (fun r u hp => ?_)
  obtain ⟨hp1, hp2⟩ := hp
  subst hp1
  subst hp2
  refine g_ws (ws' := wHp cI a_p a_words_p a_roots_p a_heads_p a_marks_p a_order_p a_targets_p a_words a_roots a_base a_top o1.2.1 o1.2.2.1 o1.2.2.2 a_order a_reached a_targets) rfl ?_
  refine g_if_eq (tgt := 15) F dX3_needValid_4 (by decide) (fun c4 => ?_) (fun c4 => ?_)
  · have hf := iteT hf c4
    cases hf
    exact g_vretX F hQ hlocks hr (Nat.le_of_ble_eq_true rfl) (Nat.le_of_ble_eq_true rfl) (o1.2.1, o1.2.2.1, o1.2.2.2) rfl ⟨rfl, rfl⟩ dX3_needValid_15
  · have hf := iteF hf c4
    cases hf
    exact g_throw (cls := "java/lang/IllegalStateException") (names := ["java/lang/RuntimeException", "java/lang/Exception"]) F hQ hlt hlocks hne hX hZ (by decide +kernel) (by decide +kernel) (by decide +kernel) (by decide +kernel) (by decide +kernel) (by decide +kernel) (by decide +kernel) dX3_needValid_7 dX3_needValid_10 dX3_needValid_11 dX3_needValid_14 (Nat.le_of_ble_eq_true rfl) (Nat.le_of_ble_eq_true rfl) (Nat.le_of_ble_eq_true rfl) (Nat.le_of_ble_eq_true rfl) (Nat.le_of_ble_eq_true rfl) (Nat.le_of_ble_eq_true rfl) rfl (o1.2.1, o1.2.2.1, o1.2.2.2) rfl ⟨show (3 : Nat) ≠ 0 by decide, rfl⟩
