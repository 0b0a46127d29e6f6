/-! HeapImages.slotPlace(LHeapImages$Heap;II)I -/
def rm_X3_slotPlace : Room := { frames := 6, cells := 1, slots := 6, locals := 90 }
theorem h_X3_slotPlace_1 : ∀ w ∈ wsX10, w ∈ wsX3_slotPlace := by decide +kernel
def f_X3_slotPlace (a_words : (Nat → Int32)) (a_base : Int32) (a_top : Int32) (a_heads : (Nat → Int32)) (a_objects : Int32) (a_marks : (Nat → Int32)) (x1 : Int32) (x2 : Int32) : Option (Nat × Int32 × (Nat → Int32) × Int32 × (Nat → Int32)) :=
  Option.bind (f_X1_listObjects a_words a_top a_heads a_objects a_marks) fun o1 => Option.bind (f_X1_headOf a_base o1.2.2.2 x1) fun o2 => if o2 < 0 then some (1, 0, o1.2.1, o1.2.2.1, o1.2.2.2) else if x2 < 0 then some (1, 0, o1.2.1, o1.2.2.1, o1.2.2.2) else ck (inR o2 256) (Option.bind (f_X3_slotsOf (a_words o2.toNatClampNeg)) fun o4 => if x2 < o4 then some (0, (o2 + (1 : Int32)) + x2, o1.2.1, o1.2.2.1, o1.2.2.2) else some (1, 0, o1.2.1, o1.2.2.1, o1.2.2.2))
set_option maxHeartbeats 4000000 in
set_option maxRecDepth 100000 in
theorem c_X3_slotPlace (l : Launch) (hlt : l.stackTraces = false) (dC : Nat → ClassId) (dI : Nat → Nat → Nat) (cI cJ cH : ClassId) (a_p a_words_p a_roots_p a_heads_p a_marks_p a_order_p a_targets_p : Nat)  (a_words : (Nat → Int32)) (a_roots : (Nat → Int32)) (a_base : Int32) (a_top : Int32) (a_heads : (Nat → Int32)) (a_objects : Int32) (a_marks : (Nat → Int32)) (a_order : (Nat → Int32)) (a_reached : Int32) (a_targets : (Nat → Int32)) (x1 : Int32) (x2 : Int32) (o : (Nat × Int32 × (Nat → Int32) × Int32 × (Nat → Int32))) (hf : f_X3_slotPlace a_words a_base a_top a_heads a_objects a_marks x1 x2 = some o) : ∀ sz : Nat, vx_Met l yX3_slotPlace wsX3_slotPlace rm_X3_slotPlace (gPreX [.ref a_p, .int x1, .int x2] (dC, dI) vwCl (gT cI cJ cH) (wHp cI a_p a_words_p a_roots_p a_heads_p a_marks_p a_order_p a_targets_p a_words a_roots a_base a_top a_heads a_objects a_marks a_order a_reached a_targets) sz) (va_Qi (fun (r : Int32) (u : ((Nat → Int32) × Int32 × (Nat → Int32))) => o.1 = 0 ∧ o.2.1 = r ∧ o.2.2 = u) (gB (dC, dI) vwCl (gT cI cJ cH) (fun (u : ((Nat → Int32) × Int32 × (Nat → Int32))) => wHp cI a_p a_words_p a_roots_p a_heads_p a_marks_p a_order_p a_targets_p a_words a_roots a_base a_top u.1 u.2.1 u.2.2 a_order a_reached a_targets) (va_A (wHp cI a_p a_words_p a_roots_p a_heads_p a_marks_p a_order_p a_targets_p a_words a_roots a_base a_top a_heads a_objects a_marks a_order a_reached a_targets) sz)) (va_A (wHp cI a_p a_words_p a_roots_p a_heads_p a_marks_p a_order_p a_targets_p a_words a_roots a_base a_top a_heads a_objects a_marks a_order a_reached a_targets) sz)) (vx_X (fun (u : ((Nat → Int32) × Int32 × (Nat → Int32))) => o.1 ≠ 0 ∧ o.2.2 = u) (gBX (dC, dI) vwCl (gT cI cJ cH) (fun (u : ((Nat → Int32) × Int32 × (Nat → Int32))) => wHp cI a_p a_words_p a_roots_p a_heads_p a_marks_p a_order_p a_targets_p a_words a_roots a_base a_top u.1 u.2.1 u.2.2 a_order a_reached a_targets) (exn o.1) (va_A (wHp cI a_p a_words_p a_roots_p a_heads_p a_marks_p a_order_p a_targets_p a_words a_roots a_base a_top a_heads a_objects a_marks a_order a_reached a_targets) sz)) (va_A (wHp cI a_p a_words_p a_roots_p a_heads_p a_marks_p a_order_p a_targets_p a_words a_roots a_base a_top a_heads a_objects a_marks a_order a_reached a_targets) sz)) 1 6 (va_A (wHp cI a_p a_words_p a_roots_p a_heads_p a_marks_p a_order_p a_targets_p a_words a_roots a_base a_top a_heads a_objects a_marks a_order a_reached a_targets) sz) := by
  refine g_metX (fun A => va_Qi (fun (r : Int32) (u : ((Nat → Int32) × Int32 × (Nat → Int32))) => o.1 = 0 ∧ o.2.1 = r ∧ o.2.2 = u) (gB (dC, dI) vwCl (gT cI cJ cH) (fun (u : ((Nat → Int32) × Int32 × (Nat → Int32))) => wHp cI a_p a_words_p a_roots_p a_heads_p a_marks_p a_order_p a_targets_p a_words a_roots a_base a_top u.1 u.2.1 u.2.2 a_order a_reached a_targets) A) A) (fun A => vx_X (fun (u : ((Nat → Int32) × Int32 × (Nat → Int32))) => o.1 ≠ 0 ∧ o.2.2 = u) (gBX (dC, dI) vwCl (gT cI cJ cH) (fun (u : ((Nat → Int32) × Int32 × (Nat → Int32))) => wHp cI a_p a_words_p a_roots_p a_heads_p a_marks_p a_order_p a_targets_p a_words a_roots a_base a_top u.1 u.2.1 u.2.2 a_order a_reached a_targets) (exn o.1) A) A) (by decide) rfl (Nat.le_of_ble_eq_true rfl) ?_
  intro p e s m args below meth c A Q F hlocks hr hname hN hX hZ hne hQ
  unfold f_X3_slotPlace at hf
  refine g_lvE (lv' := [(0, .ref a_p), (1, .int x1), (2, .int x2)]) rfl ?_
  refine g_aload_n F dX3_slotPlace_0 rfl 0 rfl ?_
  obtain ⟨o1, ho1, hf⟩ := bnE hf
  refine g_callPi (n := 0) (As := []) F (c_X1_listObjects l dC dI cI cJ cH a_p a_words_p a_roots_p a_heads_p a_marks_p a_order_p a_targets_p a_words a_roots a_base a_top a_heads a_objects a_marks a_order a_reached a_targets o1 ho1) ggX3_slotPlace_X1_listObjects rfl rfl rfl (by decide +kernel) (by decide +kernel) (by decide +kernel) (by decide +kernel) (by decide +kernel) ⟨Nat.le_of_ble_eq_true rfl, Nat.le_of_ble_eq_true rfl⟩ ⟨Nat.le_of_ble_eq_true rfl, Nat.le_of_ble_eq_true rfl⟩ hN 0 rfl rfl rfl ([]) ([]) rfl (fun _ => rfl) rfl (Nat.le_of_ble_eq_true rfl) rfl dX3_slotPlace_1 (cells' := 0) (slots' := 0) rfl rfl (fun r u hp => ?_)
  obtain ⟨hp1, hp2⟩ := hp
  subst hp1
  subst hp2
  refine g_ws (ws' := wHp cI a_p a_words_p a_roots_p a_heads_p a_marks_p a_order_p a_targets_p a_words a_roots a_base a_top o1.2.1 o1.2.2.1 o1.2.2.2 a_order a_reached a_targets) rfl ?_
  refine g_pop F dX3_slotPlace_4 rfl ?_
  refine g_aload_n F dX3_slotPlace_5 rfl 0 rfl ?_
  refine g_iload_n F dX3_slotPlace_6 rfl 1 rfl ?_
  obtain ⟨o2, ho2, hf⟩ := bnE hf
  refine g_callPi (n := 1) (As := [.int x1]) F (c_X1_headOf l dC dI cI cJ cH a_p a_words_p a_roots_p a_heads_p a_marks_p a_order_p a_targets_p a_words a_roots a_base a_top o1.2.1 o1.2.2.1 o1.2.2.2 a_order a_reached a_targets x1 o2 ho2) ggX3_slotPlace_X1_headOf rfl rfl rfl (by decide +kernel) (by decide +kernel) (by decide +kernel) (by decide +kernel) (by decide +kernel) ⟨Nat.le_of_ble_eq_true rfl, Nat.le_of_ble_eq_true rfl⟩ ⟨Nat.le_of_ble_eq_true rfl, Nat.le_of_ble_eq_true rfl⟩ hN 0 rfl rfl rfl ([]) ([]) rfl (fun _ => rfl) rfl (Nat.le_of_ble_eq_true rfl) rfl dX3_slotPlace_7 (cells' := 0) (slots' := 0) rfl rfl (fun r u hp => ?_)
  subst hp
  refine g_ws (ws' := wHp cI a_p a_words_p a_roots_p a_heads_p a_marks_p a_order_p a_targets_p a_words a_roots a_base a_top o1.2.1 o1.2.2.1 o1.2.2.2 a_order a_reached a_targets) rfl ?_
  refine g_istore_n (lv' := [(3, .int o2), (0, .ref a_p), (1, .int x1), (2, .int x2)]) F dX3_slotPlace_10 rfl (by decide) rfl ?_
  refine g_iload_n F dX3_slotPlace_11 rfl 0 rfl ?_
  refine g_if_lt (tgt := 32) F dX3_slotPlace_12 (by decide) (fun c12 => ?_) (fun c12 => ?_)
  · have hf := iteT hf c12
    cases hf
    exact g_throw (cls := "java/lang/IndexOutOfBoundsException") (names := ["java/lang/RuntimeException", "java/lang/Exception"]) F hQ hlt hlocks hne hX hZ (by decide +kernel) (by decide +kernel) (by decide +kernel) (by decide +kernel) (by decide +kernel) (by decide +kernel) (by decide +kernel) dX3_slotPlace_32 dX3_slotPlace_35 dX3_slotPlace_36 dX3_slotPlace_39 (Nat.le_of_ble_eq_true rfl) (Nat.le_of_ble_eq_true rfl) (Nat.le_of_ble_eq_true rfl) (Nat.le_of_ble_eq_true rfl) (Nat.le_of_ble_eq_true rfl) (Nat.le_of_ble_eq_true rfl) rfl (o1.2.1, o1.2.2.1, o1.2.2.2) rfl ⟨show (1 : Nat) ≠ 0 by decide, rfl⟩
  · have hf := iteF hf c12
    refine g_iload_n F dX3_slotPlace_15 rfl 3 rfl ?_
    refine g_if_lt (tgt := 32) F dX3_slotPlace_16 (by decide) (fun c16 => ?_) (fun c16 => ?_)
    · have hf := iteT hf c16
      cases hf
      exact g_throw (cls := "java/lang/IndexOutOfBoundsException") (names := ["java/lang/RuntimeException", "java/lang/Exception"]) F hQ hlt hlocks hne hX hZ (by decide +kernel) (by decide +kernel) (by decide +kernel) (by decide +kernel) (by decide +kernel) (by decide +kernel) (by decide +kernel) dX3_slotPlace_32 dX3_slotPlace_35 dX3_slotPlace_36 dX3_slotPlace_39 (Nat.le_of_ble_eq_true rfl) (Nat.le_of_ble_eq_true rfl) (Nat.le_of_ble_eq_true rfl) (Nat.le_of_ble_eq_true rfl) (Nat.le_of_ble_eq_true rfl) (Nat.le_of_ble_eq_true rfl) rfl (o1.2.1, o1.2.2.1, o1.2.2.2) rfl ⟨show (1 : Nat) ≠ 0 by decide, rfl⟩
    · have hf := iteF hf c16
      refine g_iload_n F dX3_slotPlace_19 rfl 3 rfl ?_
      refine g_aload_n F dX3_slotPlace_20 rfl 1 rfl ?_
      refine g_getN (host := "HeapImages") (v := .ref a_words_p) F h_X3_slotPlace_1 0 rfl rfl 0 (by decide) (hN _ (by decide +kernel)) rfl dX3_slotPlace_21 ?_
      refine g_iload_n F dX3_slotPlace_24 rfl 0 rfl ?_
      obtain ⟨h3, hf⟩ := ckE hf
      refine g_iald F 1 0 rfl rfl h3 dX3_slotPlace_25 ?_
      obtain ⟨o4, ho4, hf⟩ := bnE hf
      refine g_callSi (n := 1) (As := [.int (a_words o2.toNatClampNeg)]) F (c_X3_slotsOf l dC dI cI cJ cH (a_words o2.toNatClampNeg) o4 ho4) ggX3_slotPlace_X3_slotsOf rfl rfl rfl (by decide +kernel) (by decide +kernel) (by decide +kernel) (by decide +kernel) ⟨Nat.le_of_ble_eq_true rfl, Nat.le_of_ble_eq_true rfl⟩ ⟨Nat.le_of_ble_eq_true rfl, Nat.le_of_ble_eq_true rfl⟩ hN [] rfl rfl (fun _ => rfl) rfl (Nat.le_of_ble_eq_true rfl) rfl dX3_slotPlace_26 (cells' := 0) (slots' := 0) rfl rfl (fun r u hp => ?_)
      subst hp
      refine g_ws (ws' := wHp cI a_p a_words_p a_roots_p a_heads_p a_marks_p a_order_p a_targets_p a_words a_roots a_base a_top o1.2.1 o1.2.2.1 o1.2.2.2 a_order a_reached a_targets) rfl ?_
      refine g_icmp_lt (tgt := 40) F dX3_slotPlace_29 (by decide) (fun c29 => ?_) (fun c29 => ?_)
      · have hf := iteT hf c29
        refine g_iload_n F dX3_slotPlace_40 rfl 0 rfl ?_
        refine g_iconst (v := 1) F dX3_slotPlace_41 rfl ?_
        refine g_iadd F dX3_slotPlace_42 ?_
        refine g_iload_n F dX3_slotPlace_43 rfl 3 rfl ?_
        refine g_iadd F dX3_slotPlace_44 ?_
        cases hf
        exact g_iretX F hQ hlocks hr (Nat.le_of_ble_eq_true rfl) (Nat.le_of_ble_eq_true rfl) (o1.2.1, o1.2.2.1, o1.2.2.2) rfl ⟨rfl, rfl, rfl⟩ dX3_slotPlace_45
      · have hf := iteF hf c29
        cases hf
        exact g_throw (cls := "java/lang/IndexOutOfBoundsException") (names := ["java/lang/RuntimeException", "java/lang/Exception"]) F hQ hlt hlocks hne hX hZ (by decide +kernel) (by decide +kernel) (by decide +kernel) (by decide +kernel) (by decide +kernel) (by decide +kernel) (by decide +kernel) dX3_slotPlace_32 dX3_slotPlace_35 dX3_slotPlace_36 dX3_slotPlace_39 (Nat.le_of_ble_eq_true rfl) (Nat.le_of_ble_eq_true rfl) (Nat.le_of_ble_eq_true rfl) (Nat.le_of_ble_eq_true rfl) (Nat.le_of_ble_eq_true rfl) (Nat.le_of_ble_eq_true rfl) rfl (o1.2.1, o1.2.2.1, o1.2.2.2) rfl ⟨show (1 : Nat) ≠ 0 by decide, rfl⟩

/-! HeapImages.needImagePlace(I)V -/
def rm_X3_needImagePlace : Room := { frames := 6, cells := 1, slots := 6, locals := 90 }
theorem h_X3_needImagePlace_0 : ∀ w ∈ wsX00, w ∈ wsX3_needImagePlace := by decide +kernel
theorem h_X3_needImagePlace_3 : ∀ w ∈ wsX30, w ∈ wsX3_needImagePlace := by decide +kernel
def f_X3_needImagePlace (im_size : Int32) (x1 : Int32) : Option Nat :=
  if x1 < 0 then some 1 else if x1 < im_size then some 0 else some 1
set_option maxHeartbeats 4000000 in
set_option maxRecDepth 100000 in
theorem c_X3_needImagePlace (l : Launch) (hlt : l.stackTraces = false) (dC : Nat → ClassId) (dI : Nat → Nat → Nat) (cI cJ cH : ClassId) (a_p a_heaps_p im_p im_row_p ip_p rd_p h0_p h1_p sp_p : Nat)  (im_row : (Nat → Int32)) (im_size : Int32) (x1 : Int32) (o : Nat) (hf : f_X3_needImagePlace im_size x1 = some o) : ∀ sz : Nat, vx_Met l yX3_needImagePlace wsX3_needImagePlace rm_X3_needImagePlace (gPreX [.ref a_p, .int x1] (dC, dI) vwCl (gT cI cJ cH) (wHI cH a_p a_heaps_p im_p ip_p rd_p (hsf h0_p h1_p) sp_p ++ wBy cI im_p im_row_p im_row im_size) sz) (va_Qv (fun (u : Unit) => o = 0) (gB (dC, dI) vwCl (gT cI cJ cH) (fun (u : Unit) => wHI cH a_p a_heaps_p im_p ip_p rd_p (hsf h0_p h1_p) sp_p ++ wBy cI im_p im_row_p im_row im_size) (va_A (wHI cH a_p a_heaps_p im_p ip_p rd_p (hsf h0_p h1_p) sp_p ++ wBy cI im_p im_row_p im_row im_size) sz)) (va_A (wHI cH a_p a_heaps_p im_p ip_p rd_p (hsf h0_p h1_p) sp_p ++ wBy cI im_p im_row_p im_row im_size) sz)) (vx_X (fun (u : Unit) => o ≠ 0) (gBX (dC, dI) vwCl (gT cI cJ cH) (fun (u : Unit) => wHI cH a_p a_heaps_p im_p ip_p rd_p (hsf h0_p h1_p) sp_p ++ wBy cI im_p im_row_p im_row im_size) (exn o) (va_A (wHI cH a_p a_heaps_p im_p ip_p rd_p (hsf h0_p h1_p) sp_p ++ wBy cI im_p im_row_p im_row im_size) sz)) (va_A (wHI cH a_p a_heaps_p im_p ip_p rd_p (hsf h0_p h1_p) sp_p ++ wBy cI im_p im_row_p im_row im_size) sz)) 1 6 (va_A (wHI cH a_p a_heaps_p im_p ip_p rd_p (hsf h0_p h1_p) sp_p ++ wBy cI im_p im_row_p im_row im_size) sz) := by
  refine g_metX (fun A => va_Qv (fun (u : Unit) => o = 0) (gB (dC, dI) vwCl (gT cI cJ cH) (fun (u : Unit) => wHI cH a_p a_heaps_p im_p ip_p rd_p (hsf h0_p h1_p) sp_p ++ wBy cI im_p im_row_p im_row im_size) A) A) (fun A => vx_X (fun (u : Unit) => o ≠ 0) (gBX (dC, dI) vwCl (gT cI cJ cH) (fun (u : Unit) => wHI cH a_p a_heaps_p im_p ip_p rd_p (hsf h0_p h1_p) sp_p ++ wBy cI im_p im_row_p im_row im_size) (exn o) A) A) (by decide) rfl (Nat.le_of_ble_eq_true rfl) ?_
  intro p e s m args below meth c A Q F hlocks hr hname hN hX hZ hne hQ
  unfold f_X3_needImagePlace at hf
  refine g_lvE (lv' := [(0, .ref a_p), (1, .int x1)]) rfl ?_
  refine g_iload_n F dX3_needImagePlace_0 rfl 1 rfl ?_
  refine g_if_lt (tgt := 15) F dX3_needImagePlace_1 (by decide) (fun c1 => ?_) (fun c1 => ?_)
  · have hf := iteT hf c1
    cases hf
    exact g_throw (cls := "java/lang/IndexOutOfBoundsException") (names := ["java/lang/RuntimeException", "java/lang/Exception"]) F hQ hlt hlocks hne hX hZ (by decide +kernel) (by decide +kernel) (by decide +kernel) (by decide +kernel) (by decide +kernel) (by decide +kernel) (by decide +kernel) dX3_needImagePlace_15 dX3_needImagePlace_18 dX3_needImagePlace_19 dX3_needImagePlace_22 (Nat.le_of_ble_eq_true rfl) (Nat.le_of_ble_eq_true rfl) (Nat.le_of_ble_eq_true rfl) (Nat.le_of_ble_eq_true rfl) (Nat.le_of_ble_eq_true rfl) (Nat.le_of_ble_eq_true rfl) rfl () rfl (show (1 : Nat) ≠ 0 by decide)
  · have hf := iteF hf c1
    refine g_iload_n F dX3_needImagePlace_4 rfl 1 rfl ?_
    refine g_aload_n F dX3_needImagePlace_5 rfl 0 rfl ?_
    refine g_get (v := .ref im_p) F h_X3_needImagePlace_3 0 rfl rfl 1 (by decide) (by decide +kernel) rfl dX3_needImagePlace_6 ?_
    refine g_getN (host := "HeapImages") (v := .int im_size) F h_X3_needImagePlace_0 2 rfl rfl 1 (by decide) (hN _ (by decide +kernel)) rfl dX3_needImagePlace_9 ?_
    refine g_icmp_lt (tgt := 23) F dX3_needImagePlace_12 (by decide) (fun c12 => ?_) (fun c12 => ?_)
    · have hf := iteT hf c12
      cases hf
      exact g_vretX F hQ hlocks hr (Nat.le_of_ble_eq_true rfl) (Nat.le_of_ble_eq_true rfl) () rfl rfl dX3_needImagePlace_23
    · have hf := iteF hf c12
      cases hf
      exact g_throw (cls := "java/lang/IndexOutOfBoundsException") (names := ["java/lang/RuntimeException", "java/lang/Exception"]) F hQ hlt hlocks hne hX hZ (by decide +kernel) (by decide +kernel) (by decide +kernel) (by decide +kernel) (by decide +kernel) (by decide +kernel) (by decide +kernel) dX3_needImagePlace_15 dX3_needImagePlace_18 dX3_needImagePlace_19 dX3_needImagePlace_22 (Nat.le_of_ble_eq_true rfl) (Nat.le_of_ble_eq_true rfl) (Nat.le_of_ble_eq_true rfl) (Nat.le_of_ble_eq_true rfl) (Nat.le_of_ble_eq_true rfl) (Nat.le_of_ble_eq_true rfl) rfl () rfl (show (1 : Nat) ≠ 0 by decide)
