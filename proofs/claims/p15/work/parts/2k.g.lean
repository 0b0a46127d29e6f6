/-! HeapImagesModel.poke(III)I -/
def rm_X4_poke : Room := { frames := 2, cells := 0, slots := 0, locals := 41 }
theorem h_X4_poke_4 : ∀ w ∈ wsX40, w ∈ wsX4_poke := by decide +kernel
def f_X4_poke (a_thrown : Int32) (a_words : (Nat → Int32)) (x1 : Int32) (x2 : Int32) (x3 : Int32) : Option (Int32 × Int32 × (Nat → Int32)) :=
  Option.bind (f_X4_isWord x1 x2) fun o1 => Option.bind (α := Int32) (if o1 = 0 then some (1 : Int32) else some (0 : Int32)) fun j2 => if j2 = (1 : Int32) then some ((0 : Int32), j2, a_words) else ck (inR (((256 : Int32) * x1) + x2) 512) (ck (inR (((256 : Int32) * x1) + x2) 512) (ck (inR (((256 : Int32) * x1) + x2) 512) (some ((upd a_words (((256 : Int32) * x1) + x2).toNatClampNeg ((a_words (((256 : Int32) * x1) + x2).toNatClampNeg) ^^^ x3)) (((256 : Int32) * x1) + x2).toNatClampNeg, j2, upd a_words (((256 : Int32) * x1) + x2).toNatClampNeg ((a_words (((256 : Int32) * x1) + x2).toNatClampNeg) ^^^ x3)))))
set_option maxHeartbeats 4000000 in
set_option maxRecDepth 100000 in
theorem c_X4_poke (l : Launch) (dC : Nat → ClassId) (dI : Nat → Nat → Nat) (cI cJ cH : ClassId) (a_p a_bases_p a_tops_p a_words_p a_roots_p a_order_p a_numbers_p a_image_p a_other_p a_input_p a_fresh_p a_freshRoots_p a_heads_p a_kept_p : Nat)  (a_thrown : Int32) (a_bases : (Nat → Int32)) (a_tops : (Nat → Int32)) (a_words : (Nat → Int32)) (a_roots : (Nat → Int32)) (a_reached : Int32) (a_order : (Nat → Int32)) (a_numbers : (Nat → Int32)) (a_size : Int32) (a_image : (Nat → Int32)) (a_otherSize : Int32) (a_other : (Nat → Int32)) (a_waiting : Int32) (a_input : (Nat → Int32)) (a_at : Int32) (a_ended : Int32) (a_told : Int32) (a_many : Int32) (a_fresh : (Nat → Int32)) (a_freshRoots : (Nat → Int32)) (a_heads : (Nat → Int32)) (a_count : Int64) (a_kept : (Nat → Int32)) (x1 : Int32) (x2 : Int32) (x3 : Int32) (o : (Int32 × Int32 × (Nat → Int32))) (hf : f_X4_poke a_thrown a_words x1 x2 x3 = some o) : ∀ sz : Nat, Met l yX4_poke wsX4_poke rm_X4_poke (gPre [.ref a_p, .int x1, .int x2, .int x3] (dC, dI) vwCl (gT cI cJ cH) (wMd cI a_p a_bases_p a_tops_p a_words_p a_roots_p a_order_p a_numbers_p a_image_p a_other_p a_input_p a_fresh_p a_freshRoots_p a_heads_p a_kept_p a_thrown a_bases a_tops a_words a_roots a_reached a_order a_numbers a_size a_image a_otherSize a_other a_waiting a_input a_at a_ended a_told a_many a_fresh a_freshRoots a_heads a_count a_kept) sz) (va_Qi (fun (r : Int32) (u : (Int32 × (Nat → Int32))) => o.1 = r ∧ o.2 = u) (gB (dC, dI) vwCl (gT cI cJ cH) (fun (u : (Int32 × (Nat → Int32))) => wMd cI a_p a_bases_p a_tops_p a_words_p a_roots_p a_order_p a_numbers_p a_image_p a_other_p a_input_p a_fresh_p a_freshRoots_p a_heads_p a_kept_p u.1 a_bases a_tops u.2 a_roots a_reached a_order a_numbers a_size a_image a_otherSize a_other a_waiting a_input a_at a_ended a_told a_many a_fresh a_freshRoots a_heads a_count a_kept) (va_A (wMd cI a_p a_bases_p a_tops_p a_words_p a_roots_p a_order_p a_numbers_p a_image_p a_other_p a_input_p a_fresh_p a_freshRoots_p a_heads_p a_kept_p a_thrown a_bases a_tops a_words a_roots a_reached a_order a_numbers a_size a_image a_otherSize a_other a_waiting a_input a_at a_ended a_told a_many a_fresh a_freshRoots a_heads a_count a_kept) sz)) (va_A (wMd cI a_p a_bases_p a_tops_p a_words_p a_roots_p a_order_p a_numbers_p a_image_p a_other_p a_input_p a_fresh_p a_freshRoots_p a_heads_p a_kept_p a_thrown a_bases a_tops a_words a_roots a_reached a_order a_numbers a_size a_image a_otherSize a_other a_waiting a_input a_at a_ended a_told a_many a_fresh a_freshRoots a_heads a_count a_kept) sz)) 0 0 (va_A (wMd cI a_p a_bases_p a_tops_p a_words_p a_roots_p a_order_p a_numbers_p a_image_p a_other_p a_input_p a_fresh_p a_freshRoots_p a_heads_p a_kept_p a_thrown a_bases a_tops a_words a_roots a_reached a_order a_numbers a_size a_image a_otherSize a_other a_waiting a_input a_at a_ended a_told a_many a_fresh a_freshRoots a_heads a_count a_kept) sz) := by
  refine g_met (fun A => va_Qi (fun (r : Int32) (u : (Int32 × (Nat → Int32))) => o.1 = r ∧ o.2 = u) (gB (dC, dI) vwCl (gT cI cJ cH) (fun (u : (Int32 × (Nat → Int32))) => wMd cI a_p a_bases_p a_tops_p a_words_p a_roots_p a_order_p a_numbers_p a_image_p a_other_p a_input_p a_fresh_p a_freshRoots_p a_heads_p a_kept_p u.1 a_bases a_tops u.2 a_roots a_reached a_order a_numbers a_size a_image a_otherSize a_other a_waiting a_input a_at a_ended a_told a_many a_fresh a_freshRoots a_heads a_count a_kept) A) A) (by decide) rfl (Nat.le_of_ble_eq_true rfl) ?_
  intro p e s m args below meth c A Q F hlocks hr hname hN hQ
  unfold f_X4_poke at hf
  refine g_lvE (lv' := [(0, .ref a_p), (1, .int x1), (2, .int x2), (3, .int x3)]) rfl ?_
  refine g_aload_n F dX4_poke_0 rfl 0 rfl ?_
  refine g_iload_n F dX4_poke_1 rfl 1 rfl ?_
  refine g_iload_n F dX4_poke_2 rfl 2 rfl ?_
  obtain ⟨o1, ho1, hf⟩ := bnE hf
  refine g_callSi (n := 2) (As := [.int x1, .int x2]) F (c_X4_isWord l dC dI cI cJ cH x1 x2 o1 ho1) ggX4_poke_X4_isWord rfl rfl rfl (by decide +kernel) (by decide +kernel) (by decide +kernel) (by decide +kernel) ⟨Nat.le_of_ble_eq_true rfl, Nat.le_of_ble_eq_true rfl⟩ ⟨Nat.le_of_ble_eq_true rfl, Nat.le_of_ble_eq_true rfl⟩ hN [] rfl rfl (fun _ => rfl) rfl (Nat.le_of_ble_eq_true rfl) rfl dX4_poke_3 (cells' := 0) (slots' := 0) rfl rfl (fun r u hp => ?_)
  subst hp
  refine g_ws (ws' := wMd cI a_p a_bases_p a_tops_p a_words_p a_roots_p a_order_p a_numbers_p a_image_p a_other_p a_input_p a_fresh_p a_freshRoots_p a_heads_p a_kept_p a_thrown a_bases a_tops a_words a_roots a_reached a_order a_numbers a_size a_image a_otherSize a_other a_waiting a_input a_at a_ended a_told a_many a_fresh a_freshRoots a_heads a_count a_kept) rfl ?_
  obtain ⟨j2, hj2, hf⟩ := bnE hf
  have Kj2 : gW p l e rm_X4_poke s m args below meth c 0 0 Q (dC, dI) vwCl A 4 (wMd cI a_p a_bases_p a_tops_p a_words_p a_roots_p a_order_p a_numbers_p a_image_p a_other_p a_input_p a_fresh_p a_freshRoots_p a_heads_p a_kept_p a_thrown a_bases a_tops a_words a_roots a_reached a_order a_numbers a_size a_image a_otherSize a_other a_waiting a_input a_at a_ended a_told a_many a_fresh a_freshRoots a_heads a_count a_kept) [(0, .ref a_p), (1, .int x1), (2, .int x2), (3, .int x3)] 14 [.int j2, .ref a_p] := by
    refine g_put F h_X4_poke_4 tyX4 tyX4_ok nmX4 0 rfl rfl 0 (by decide) (by decide +kernel) rfl rfl rfl (Nat.le_of_ble_eq_true rfl) dX4_poke_14 (ws' := wMd cI a_p a_bases_p a_tops_p a_words_p a_roots_p a_order_p a_numbers_p a_image_p a_other_p a_input_p a_fresh_p a_freshRoots_p a_heads_p a_kept_p j2 a_bases a_tops a_words a_roots a_reached a_order a_numbers a_size a_image a_otherSize a_other a_waiting a_input a_at a_ended a_told a_many a_fresh a_freshRoots a_heads a_count a_kept) rfl ?_
    refine g_aload_n F dX4_poke_17 rfl 0 rfl ?_
    refine g_get F h_X4_poke_4 0 rfl rfl 0 (by decide) (by decide +kernel) rfl dX4_poke_18 ?_
    refine g_iconst (v := 1) F dX4_poke_21 rfl ?_
    refine g_icmp_ne (tgt := 27) F dX4_poke_22 (by decide) (fun c22 => ?_) (fun c22 => ?_)
    · have hf := iteF hf c22
      refine g_aload_n F dX4_poke_27 rfl 0 rfl ?_
      refine g_get F h_X4_poke_4 0 rfl rfl 3 (by decide) (by decide +kernel) rfl dX4_poke_28 ?_
      refine g_sipush (v := 256) F dX4_poke_31 rfl ?_
      refine g_iload_n F dX4_poke_34 rfl 1 rfl ?_
      refine g_imul F dX4_poke_35 ?_
      refine g_iload_n F dX4_poke_36 rfl 2 rfl ?_
      refine g_iadd F dX4_poke_37 ?_
      refine g_aload_n F dX4_poke_38 rfl 0 rfl ?_
      refine g_get F h_X4_poke_4 0 rfl rfl 3 (by decide) (by decide +kernel) rfl dX4_poke_39 ?_
      refine g_sipush (v := 256) F dX4_poke_42 rfl ?_
      refine g_iload_n F dX4_poke_45 rfl 1 rfl ?_
      refine g_imul F dX4_poke_46 ?_
      refine g_iload_n F dX4_poke_47 rfl 2 rfl ?_
      refine g_iadd F dX4_poke_48 ?_
      obtain ⟨h3, hf⟩ := ckE hf
      refine g_iald F 3 0 rfl rfl h3 dX4_poke_49 ?_
      refine g_iload_n F dX4_poke_50 rfl 3 rfl ?_
      refine g_ixor F dX4_poke_51 ?_
      obtain ⟨h4, hf⟩ := ckE hf
      refine g_iast F 3 0 rfl rfl h4 dX4_poke_52 (ws' := wMd cI a_p a_bases_p a_tops_p a_words_p a_roots_p a_order_p a_numbers_p a_image_p a_other_p a_input_p a_fresh_p a_freshRoots_p a_heads_p a_kept_p j2 a_bases a_tops (upd a_words (((256 : Int32) * x1) + x2).toNatClampNeg ((a_words (((256 : Int32) * x1) + x2).toNatClampNeg) ^^^ x3)) a_roots a_reached a_order a_numbers a_size a_image a_otherSize a_other a_waiting a_input a_at a_ended a_told a_many a_fresh a_freshRoots a_heads a_count a_kept) rfl ?_
      refine g_aload_n F dX4_poke_53 rfl 0 rfl ?_
      refine g_get F h_X4_poke_4 0 rfl rfl 3 (by decide) (by decide +kernel) rfl dX4_poke_54 ?_
      refine g_sipush (v := 256) F dX4_poke_57 rfl ?_
      refine g_iload_n F dX4_poke_60 rfl 1 rfl ?_
      refine g_imul F dX4_poke_61 ?_
      refine g_iload_n F dX4_poke_62 rfl 2 rfl ?_
      refine g_iadd F dX4_poke_63 ?_
      obtain ⟨h5, hf⟩ := ckE hf
      refine g_iald F 3 0 rfl rfl h5 dX4_poke_64 ?_
      subst hQ
      exact g_iret F hlocks hr (j2, upd a_words (((256 : Int32) * x1) + x2).toNatClampNeg ((a_words (((256 : Int32) * x1) + x2).toNatClampNeg) ^^^ x3)) rfl (pr2 (Option.some.inj hf)) dX4_poke_65
    · have hf := iteT hf c22
      refine g_iconst (v := 0) F dX4_poke_25 rfl ?_
      subst hQ
      exact g_iret F hlocks hr (j2, a_words) rfl (pr2 (Option.some.inj hf)) dX4_poke_26
  clear hf
  have hf := hj2
  refine g_if_eq (tgt := 13) F dX4_poke_6 (by decide) (fun c6 => ?_) (fun c6 => ?_)
  · have hf := iteT hf c6
    refine g_iconst (v := 1) F dX4_poke_13 rfl ?_
    cases hf
    refine g_lv [0, 1, 2, 3] rfl ?_
    exact Kj2
  · have hf := iteF hf c6
    refine g_iconst (v := 0) F dX4_poke_9 rfl ?_
    refine g_goto (tgt := 14) F dX4_poke_10 (by decide) ?_
    cases hf
    refine g_lv [0, 1, 2, 3] rfl ?_
    exact Kj2

/-! HeapImagesModel.word(II)I -/
def rm_X4_word : Room := { frames := 2, cells := 0, slots := 0, locals := 41 }
theorem h_X4_word_4 : ∀ w ∈ wsX40, w ∈ wsX4_word := by decide +kernel
def f_X4_word (a_thrown : Int32) (a_words : (Nat → Int32)) (x1 : Int32) (x2 : Int32) : Option (Int32 × Int32) :=
  Option.bind (f_X4_isWord x1 x2) fun o1 => Option.bind (α := Int32) (if o1 = 0 then some (1 : Int32) else some (0 : Int32)) fun j2 => if j2 = (1 : Int32) then some ((0 : Int32), j2) else ck (inR (((256 : Int32) * x1) + x2) 512) (some (a_words (((256 : Int32) * x1) + x2).toNatClampNeg, j2))
set_option maxHeartbeats 4000000 in
set_option maxRecDepth 100000 in
theorem c_X4_word (l : Launch) (dC : Nat → ClassId) (dI : Nat → Nat → Nat) (cI cJ cH : ClassId) (a_p a_bases_p a_tops_p a_words_p a_roots_p a_order_p a_numbers_p a_image_p a_other_p a_input_p a_fresh_p a_freshRoots_p a_heads_p a_kept_p : Nat)  (a_thrown : Int32) (a_bases : (Nat → Int32)) (a_tops : (Nat → Int32)) (a_words : (Nat → Int32)) (a_roots : (Nat → Int32)) (a_reached : Int32) (a_order : (Nat → Int32)) (a_numbers : (Nat → Int32)) (a_size : Int32) (a_image : (Nat → Int32)) (a_otherSize : Int32) (a_other : (Nat → Int32)) (a_waiting : Int32) (a_input : (Nat → Int32)) (a_at : Int32) (a_ended : Int32) (a_told : Int32) (a_many : Int32) (a_fresh : (Nat → Int32)) (a_freshRoots : (Nat → Int32)) (a_heads : (Nat → Int32)) (a_count : Int64) (a_kept : (Nat → Int32)) (x1 : Int32) (x2 : Int32) (o : (Int32 × Int32)) (hf : f_X4_word a_thrown a_words x1 x2 = some o) : ∀ sz : Nat, Met l yX4_word wsX4_word rm_X4_word (gPre [.ref a_p, .int x1, .int x2] (dC, dI) vwCl (gT cI cJ cH) (wMd cI a_p a_bases_p a_tops_p a_words_p a_roots_p a_order_p a_numbers_p a_image_p a_other_p a_input_p a_fresh_p a_freshRoots_p a_heads_p a_kept_p a_thrown a_bases a_tops a_words a_roots a_reached a_order a_numbers a_size a_image a_otherSize a_other a_waiting a_input a_at a_ended a_told a_many a_fresh a_freshRoots a_heads a_count a_kept) sz) (va_Qi (fun (r : Int32) (u : Int32) => o.1 = r ∧ o.2 = u) (gB (dC, dI) vwCl (gT cI cJ cH) (fun (u : Int32) => wMd cI a_p a_bases_p a_tops_p a_words_p a_roots_p a_order_p a_numbers_p a_image_p a_other_p a_input_p a_fresh_p a_freshRoots_p a_heads_p a_kept_p u a_bases a_tops a_words a_roots a_reached a_order a_numbers a_size a_image a_otherSize a_other a_waiting a_input a_at a_ended a_told a_many a_fresh a_freshRoots a_heads a_count a_kept) (va_A (wMd cI a_p a_bases_p a_tops_p a_words_p a_roots_p a_order_p a_numbers_p a_image_p a_other_p a_input_p a_fresh_p a_freshRoots_p a_heads_p a_kept_p a_thrown a_bases a_tops a_words a_roots a_reached a_order a_numbers a_size a_image a_otherSize a_other a_waiting a_input a_at a_ended a_told a_many a_fresh a_freshRoots a_heads a_count a_kept) sz)) (va_A (wMd cI a_p a_bases_p a_tops_p a_words_p a_roots_p a_order_p a_numbers_p a_image_p a_other_p a_input_p a_fresh_p a_freshRoots_p a_heads_p a_kept_p a_thrown a_bases a_tops a_words a_roots a_reached a_order a_numbers a_size a_image a_otherSize a_other a_waiting a_input a_at a_ended a_told a_many a_fresh a_freshRoots a_heads a_count a_kept) sz)) 0 0 (va_A (wMd cI a_p a_bases_p a_tops_p a_words_p a_roots_p a_order_p a_numbers_p a_image_p a_other_p a_input_p a_fresh_p a_freshRoots_p a_heads_p a_kept_p a_thrown a_bases a_tops a_words a_roots a_reached a_order a_numbers a_size a_image a_otherSize a_other a_waiting a_input a_at a_ended a_told a_many a_fresh a_freshRoots a_heads a_count a_kept) sz) := by
  refine g_met (fun A => va_Qi (fun (r : Int32) (u : Int32) => o.1 = r ∧ o.2 = u) (gB (dC, dI) vwCl (gT cI cJ cH) (fun (u : Int32) => wMd cI a_p a_bases_p a_tops_p a_words_p a_roots_p a_order_p a_numbers_p a_image_p a_other_p a_input_p a_fresh_p a_freshRoots_p a_heads_p a_kept_p u a_bases a_tops a_words a_roots a_reached a_order a_numbers a_size a_image a_otherSize a_other a_waiting a_input a_at a_ended a_told a_many a_fresh a_freshRoots a_heads a_count a_kept) A) A) (by decide) rfl (Nat.le_of_ble_eq_true rfl) ?_
  intro p e s m args below meth c A Q F hlocks hr hname hN hQ
  unfold f_X4_word at hf
  refine g_lvE (lv' := [(0, .ref a_p), (1, .int x1), (2, .int x2)]) rfl ?_
  refine g_aload_n F dX4_word_0 rfl 0 rfl ?_
  refine g_iload_n F dX4_word_1 rfl 1 rfl ?_
  refine g_iload_n F dX4_word_2 rfl 2 rfl ?_
  obtain ⟨o1, ho1, hf⟩ := bnE hf
  refine g_callSi (n := 2) (As := [.int x1, .int x2]) F (c_X4_isWord l dC dI cI cJ cH x1 x2 o1 ho1) ggX4_word_X4_isWord rfl rfl rfl (by decide +kernel) (by decide +kernel) (by decide +kernel) (by decide +kernel) ⟨Nat.le_of_ble_eq_true rfl, Nat.le_of_ble_eq_true rfl⟩ ⟨Nat.le_of_ble_eq_true rfl, Nat.le_of_ble_eq_true rfl⟩ hN [] rfl rfl (fun _ => rfl) rfl (Nat.le_of_ble_eq_true rfl) rfl dX4_word_3 (cells' := 0) (slots' := 0) rfl rfl (fun r u hp => ?_)
  subst hp
  refine g_ws (ws' := wMd cI a_p a_bases_p a_tops_p a_words_p a_roots_p a_order_p a_numbers_p a_image_p a_other_p a_input_p a_fresh_p a_freshRoots_p a_heads_p a_kept_p a_thrown a_bases a_tops a_words a_roots a_reached a_order a_numbers a_size a_image a_otherSize a_other a_waiting a_input a_at a_ended a_told a_many a_fresh a_freshRoots a_heads a_count a_kept) rfl ?_
  obtain ⟨j2, hj2, hf⟩ := bnE hf
  have Kj2 : gW p l e rm_X4_word s m args below meth c 0 0 Q (dC, dI) vwCl A 3 (wMd cI a_p a_bases_p a_tops_p a_words_p a_roots_p a_order_p a_numbers_p a_image_p a_other_p a_input_p a_fresh_p a_freshRoots_p a_heads_p a_kept_p a_thrown a_bases a_tops a_words a_roots a_reached a_order a_numbers a_size a_image a_otherSize a_other a_waiting a_input a_at a_ended a_told a_many a_fresh a_freshRoots a_heads a_count a_kept) [(0, .ref a_p), (1, .int x1), (2, .int x2)] 14 [.int j2, .ref a_p] := by
    refine g_put F h_X4_word_4 tyX4 tyX4_ok nmX4 0 rfl rfl 0 (by decide) (by decide +kernel) rfl rfl rfl (Nat.le_of_ble_eq_true rfl) dX4_word_14 (ws' := wMd cI a_p a_bases_p a_tops_p a_words_p a_roots_p a_order_p a_numbers_p a_image_p a_other_p a_input_p a_fresh_p a_freshRoots_p a_heads_p a_kept_p j2 a_bases a_tops a_words a_roots a_reached a_order a_numbers a_size a_image a_otherSize a_other a_waiting a_input a_at a_ended a_told a_many a_fresh a_freshRoots a_heads a_count a_kept) rfl ?_
    refine g_aload_n F dX4_word_17 rfl 0 rfl ?_
    refine g_get F h_X4_word_4 0 rfl rfl 0 (by decide) (by decide +kernel) rfl dX4_word_18 ?_
    refine g_iconst (v := 1) F dX4_word_21 rfl ?_
    refine g_icmp_ne (tgt := 29) F dX4_word_22 (by decide) (fun c22 => ?_) (fun c22 => ?_)
    · have hf := iteF hf c22
      refine g_aload_n F dX4_word_29 rfl 0 rfl ?_
      refine g_get F h_X4_word_4 0 rfl rfl 3 (by decide) (by decide +kernel) rfl dX4_word_30 ?_
      refine g_sipush (v := 256) F dX4_word_33 rfl ?_
      refine g_iload_n F dX4_word_36 rfl 1 rfl ?_
      refine g_imul F dX4_word_37 ?_
      refine g_iload_n F dX4_word_38 rfl 2 rfl ?_
      refine g_iadd F dX4_word_39 ?_
      obtain ⟨h3, hf⟩ := ckE hf
      refine g_iald F 3 0 rfl rfl h3 dX4_word_40 ?_
      subst hQ
      exact g_iret F hlocks hr j2 rfl (pr2 (Option.some.inj hf)) dX4_word_41
    · have hf := iteT hf c22
      refine g_iconst (v := 0) F dX4_word_25 rfl ?_
      refine g_goto (tgt := 41) F dX4_word_26 (by decide) ?_
      subst hQ
      exact g_iret F hlocks hr j2 rfl (pr2 (Option.some.inj hf)) dX4_word_41
  clear hf
  have hf := hj2
  refine g_if_eq (tgt := 13) F dX4_word_6 (by decide) (fun c6 => ?_) (fun c6 => ?_)
  · have hf := iteT hf c6
    refine g_iconst (v := 1) F dX4_word_13 rfl ?_
    cases hf
    refine g_lv [0, 1, 2] rfl ?_
    exact Kj2
  · have hf := iteF hf c6
    refine g_iconst (v := 0) F dX4_word_9 rfl ?_
    refine g_goto (tgt := 14) F dX4_word_10 (by decide) ?_
    cases hf
    refine g_lv [0, 1, 2] rfl ?_
    exact Kj2

/-! HeapImagesModel.kindAt(II)I -/
def rm_X4_kindAt : Room := { frames := 0, cells := 0, slots := 0, locals := 0 }
theorem h_X4_kindAt_4 : ∀ w ∈ wsX40, w ∈ wsX4_kindAt := by decide +kernel
def f_X4_kindAt (a_words : (Nat → Int32)) (x1 : Int32) (x2 : Int32) : Option Int32 :=
  ck (inR (((256 : Int32) * x1) + x2) 512) (some ((a_words (((256 : Int32) * x1) + x2).toNatClampNeg) / (64 : Int32)))
set_option maxHeartbeats 4000000 in
set_option maxRecDepth 100000 in
theorem c_X4_kindAt (l : Launch) (dC : Nat → ClassId) (dI : Nat → Nat → Nat) (cI cJ cH : ClassId) (a_p a_bases_p a_tops_p a_words_p a_roots_p a_order_p a_numbers_p a_image_p a_other_p a_input_p a_fresh_p a_freshRoots_p a_heads_p a_kept_p : Nat)  (a_thrown : Int32) (a_bases : (Nat → Int32)) (a_tops : (Nat → Int32)) (a_words : (Nat → Int32)) (a_roots : (Nat → Int32)) (a_reached : Int32) (a_order : (Nat → Int32)) (a_numbers : (Nat → Int32)) (a_size : Int32) (a_image : (Nat → Int32)) (a_otherSize : Int32) (a_other : (Nat → Int32)) (a_waiting : Int32) (a_input : (Nat → Int32)) (a_at : Int32) (a_ended : Int32) (a_told : Int32) (a_many : Int32) (a_fresh : (Nat → Int32)) (a_freshRoots : (Nat → Int32)) (a_heads : (Nat → Int32)) (a_count : Int64) (a_kept : (Nat → Int32)) (x1 : Int32) (x2 : Int32) (o : Int32) (hf : f_X4_kindAt a_words x1 x2 = some o) : ∀ sz : Nat, Met l yX4_kindAt wsX4_kindAt rm_X4_kindAt (gPre [.ref a_p, .int x1, .int x2] (dC, dI) vwCl (gT cI cJ cH) (wMd cI a_p a_bases_p a_tops_p a_words_p a_roots_p a_order_p a_numbers_p a_image_p a_other_p a_input_p a_fresh_p a_freshRoots_p a_heads_p a_kept_p a_thrown a_bases a_tops a_words a_roots a_reached a_order a_numbers a_size a_image a_otherSize a_other a_waiting a_input a_at a_ended a_told a_many a_fresh a_freshRoots a_heads a_count a_kept) sz) (va_Qi (fun (r : Int32) (u : Unit) => o = r) (gB (dC, dI) vwCl (gT cI cJ cH) (fun (u : Unit) => wMd cI a_p a_bases_p a_tops_p a_words_p a_roots_p a_order_p a_numbers_p a_image_p a_other_p a_input_p a_fresh_p a_freshRoots_p a_heads_p a_kept_p a_thrown a_bases a_tops a_words a_roots a_reached a_order a_numbers a_size a_image a_otherSize a_other a_waiting a_input a_at a_ended a_told a_many a_fresh a_freshRoots a_heads a_count a_kept) (va_A (wMd cI a_p a_bases_p a_tops_p a_words_p a_roots_p a_order_p a_numbers_p a_image_p a_other_p a_input_p a_fresh_p a_freshRoots_p a_heads_p a_kept_p a_thrown a_bases a_tops a_words a_roots a_reached a_order a_numbers a_size a_image a_otherSize a_other a_waiting a_input a_at a_ended a_told a_many a_fresh a_freshRoots a_heads a_count a_kept) sz)) (va_A (wMd cI a_p a_bases_p a_tops_p a_words_p a_roots_p a_order_p a_numbers_p a_image_p a_other_p a_input_p a_fresh_p a_freshRoots_p a_heads_p a_kept_p a_thrown a_bases a_tops a_words a_roots a_reached a_order a_numbers a_size a_image a_otherSize a_other a_waiting a_input a_at a_ended a_told a_many a_fresh a_freshRoots a_heads a_count a_kept) sz)) 0 0 (va_A (wMd cI a_p a_bases_p a_tops_p a_words_p a_roots_p a_order_p a_numbers_p a_image_p a_other_p a_input_p a_fresh_p a_freshRoots_p a_heads_p a_kept_p a_thrown a_bases a_tops a_words a_roots a_reached a_order a_numbers a_size a_image a_otherSize a_other a_waiting a_input a_at a_ended a_told a_many a_fresh a_freshRoots a_heads a_count a_kept) sz) := by
  refine g_met (fun A => va_Qi (fun (r : Int32) (u : Unit) => o = r) (gB (dC, dI) vwCl (gT cI cJ cH) (fun (u : Unit) => wMd cI a_p a_bases_p a_tops_p a_words_p a_roots_p a_order_p a_numbers_p a_image_p a_other_p a_input_p a_fresh_p a_freshRoots_p a_heads_p a_kept_p a_thrown a_bases a_tops a_words a_roots a_reached a_order a_numbers a_size a_image a_otherSize a_other a_waiting a_input a_at a_ended a_told a_many a_fresh a_freshRoots a_heads a_count a_kept) A) A) (by decide) rfl (Nat.le_of_ble_eq_true rfl) ?_
  intro p e s m args below meth c A Q F hlocks hr hname hN hQ
  unfold f_X4_kindAt at hf
  refine g_lvE (lv' := [(0, .ref a_p), (1, .int x1), (2, .int x2)]) rfl ?_
  refine g_aload_n F dX4_kindAt_0 rfl 0 rfl ?_
  refine g_get F h_X4_kindAt_4 0 rfl rfl 3 (by decide) (by decide +kernel) rfl dX4_kindAt_1 ?_
  refine g_sipush (v := 256) F dX4_kindAt_4 rfl ?_
  refine g_iload_n F dX4_kindAt_7 rfl 1 rfl ?_
  refine g_imul F dX4_kindAt_8 ?_
  refine g_iload_n F dX4_kindAt_9 rfl 2 rfl ?_
  refine g_iadd F dX4_kindAt_10 ?_
  obtain ⟨h1, hf⟩ := ckE hf
  refine g_iald F 3 0 rfl rfl h1 dX4_kindAt_11 ?_
  refine g_bipush (v := 64) F dX4_kindAt_12 rfl ?_
  refine g_idiv F dX4_kindAt_14 (by decide) ?_
  subst hQ
  exact g_iret F hlocks hr () rfl (Option.some.inj hf).symm dX4_kindAt_15

/-! HeapImagesModel.isNumber(I)Z -/
def rm_X4_isNumber : Room := { frames := 0, cells := 0, slots := 0, locals := 0 }
def f_X4_isNumber (x0 : Int32) : Option Int32 :=
  if (x0 &&& (1 : Int32)) = (1 : Int32) then some (1 : Int32) else some (0 : Int32)
set_option maxHeartbeats 4000000 in
set_option maxRecDepth 100000 in
theorem c_X4_isNumber (l : Launch) (dC : Nat → ClassId) (dI : Nat → Nat → Nat) (cI cJ cH : ClassId)    (x0 : Int32) (o : Int32) (hf : f_X4_isNumber x0 = some o) : ∀ sz : Nat, Met l yX4_isNumber wsX4_isNumber rm_X4_isNumber (gPre [.int x0] (dC, dI) vwCl (gT cI cJ cH) ([]) sz) (va_Qi (fun (r : Int32) (u : Unit) => o = r) (gB (dC, dI) vwCl (gT cI cJ cH) (fun (u : Unit) => []) (va_A ([]) sz)) (va_A ([]) sz)) 0 0 (va_A ([]) sz) := by
  refine g_met (fun A => va_Qi (fun (r : Int32) (u : Unit) => o = r) (gB (dC, dI) vwCl (gT cI cJ cH) (fun (u : Unit) => []) A) A) (by decide) rfl (Nat.le_of_ble_eq_true rfl) ?_
  intro p e s m args below meth c A Q F hlocks hr hname hN hQ
  unfold f_X4_isNumber at hf
  refine g_lvE (lv' := [(0, .int x0)]) rfl ?_
  refine g_iload_n F dX4_isNumber_0 rfl 0 rfl ?_
  refine g_iconst (v := 1) F dX4_isNumber_1 rfl ?_
  refine g_iand F dX4_isNumber_2 ?_
  refine g_iconst (v := 1) F dX4_isNumber_3 rfl ?_
  refine g_icmp_ne (tgt := 11) F dX4_isNumber_4 (by decide) (fun c4 => ?_) (fun c4 => ?_)
  · have hf := iteF hf c4
    refine g_iconst (v := 0) F dX4_isNumber_11 rfl ?_
    subst hQ
    exact g_zret F hlocks hr rfl () rfl (Option.some.inj hf).symm dX4_isNumber_12
  · have hf := iteT hf c4
    refine g_iconst (v := 1) F dX4_isNumber_7 rfl ?_
    refine g_goto (tgt := 12) F dX4_isNumber_8 (by decide) ?_
    subst hQ
    exact g_zret F hlocks hr rfl () rfl (Option.some.inj hf).symm dX4_isNumber_12

/-! HeapImagesModel.isReference(II)Z -/
def rm_X4_isReference : Room := { frames := 4, cells := 0, slots := 0, locals := 89 }
def f_X4_isReference (a_bases : (Nat → Int32)) (a_tops : (Nat → Int32)) (a_words : (Nat → Int32)) (x1 : Int32) (x2 : Int32) : Option Int32 :=
  if x2 = 0 then some (0 : Int32) else Option.bind (f_X4_find a_bases a_tops a_words x1 x2) fun o1 => if o1 < 0 then some (0 : Int32) else some (1 : Int32)
set_option maxHeartbeats 4000000 in
set_option maxRecDepth 100000 in
theorem c_X4_isReference (l : Launch) (dC : Nat → ClassId) (dI : Nat → Nat → Nat) (cI cJ cH : ClassId) (a_p a_bases_p a_tops_p a_words_p a_roots_p a_order_p a_numbers_p a_image_p a_other_p a_input_p a_fresh_p a_freshRoots_p a_heads_p a_kept_p : Nat)  (a_thrown : Int32) (a_bases : (Nat → Int32)) (a_tops : (Nat → Int32)) (a_words : (Nat → Int32)) (a_roots : (Nat → Int32)) (a_reached : Int32) (a_order : (Nat → Int32)) (a_numbers : (Nat → Int32)) (a_size : Int32) (a_image : (Nat → Int32)) (a_otherSize : Int32) (a_other : (Nat → Int32)) (a_waiting : Int32) (a_input : (Nat → Int32)) (a_at : Int32) (a_ended : Int32) (a_told : Int32) (a_many : Int32) (a_fresh : (Nat → Int32)) (a_freshRoots : (Nat → Int32)) (a_heads : (Nat → Int32)) (a_count : Int64) (a_kept : (Nat → Int32)) (x1 : Int32) (x2 : Int32) (o : Int32) (hf : f_X4_isReference a_bases a_tops a_words x1 x2 = some o) : ∀ sz : Nat, Met l yX4_isReference wsX4_isReference rm_X4_isReference (gPre [.ref a_p, .int x1, .int x2] (dC, dI) vwCl (gT cI cJ cH) (wMd cI a_p a_bases_p a_tops_p a_words_p a_roots_p a_order_p a_numbers_p a_image_p a_other_p a_input_p a_fresh_p a_freshRoots_p a_heads_p a_kept_p a_thrown a_bases a_tops a_words a_roots a_reached a_order a_numbers a_size a_image a_otherSize a_other a_waiting a_input a_at a_ended a_told a_many a_fresh a_freshRoots a_heads a_count a_kept) sz) (va_Qi (fun (r : Int32) (u : Unit) => o = r) (gB (dC, dI) vwCl (gT cI cJ cH) (fun (u : Unit) => wMd cI a_p a_bases_p a_tops_p a_words_p a_roots_p a_order_p a_numbers_p a_image_p a_other_p a_input_p a_fresh_p a_freshRoots_p a_heads_p a_kept_p a_thrown a_bases a_tops a_words a_roots a_reached a_order a_numbers a_size a_image a_otherSize a_other a_waiting a_input a_at a_ended a_told a_many a_fresh a_freshRoots a_heads a_count a_kept) (va_A (wMd cI a_p a_bases_p a_tops_p a_words_p a_roots_p a_order_p a_numbers_p a_image_p a_other_p a_input_p a_fresh_p a_freshRoots_p a_heads_p a_kept_p a_thrown a_bases a_tops a_words a_roots a_reached a_order a_numbers a_size a_image a_otherSize a_other a_waiting a_input a_at a_ended a_told a_many a_fresh a_freshRoots a_heads a_count a_kept) sz)) (va_A (wMd cI a_p a_bases_p a_tops_p a_words_p a_roots_p a_order_p a_numbers_p a_image_p a_other_p a_input_p a_fresh_p a_freshRoots_p a_heads_p a_kept_p a_thrown a_bases a_tops a_words a_roots a_reached a_order a_numbers a_size a_image a_otherSize a_other a_waiting a_input a_at a_ended a_told a_many a_fresh a_freshRoots a_heads a_count a_kept) sz)) 0 0 (va_A (wMd cI a_p a_bases_p a_tops_p a_words_p a_roots_p a_order_p a_numbers_p a_image_p a_other_p a_input_p a_fresh_p a_freshRoots_p a_heads_p a_kept_p a_thrown a_bases a_tops a_words a_roots a_reached a_order a_numbers a_size a_image a_otherSize a_other a_waiting a_input a_at a_ended a_told a_many a_fresh a_freshRoots a_heads a_count a_kept) sz) := by
  refine g_met (fun A => va_Qi (fun (r : Int32) (u : Unit) => o = r) (gB (dC, dI) vwCl (gT cI cJ cH) (fun (u : Unit) => wMd cI a_p a_bases_p a_tops_p a_words_p a_roots_p a_order_p a_numbers_p a_image_p a_other_p a_input_p a_fresh_p a_freshRoots_p a_heads_p a_kept_p a_thrown a_bases a_tops a_words a_roots a_reached a_order a_numbers a_size a_image a_otherSize a_other a_waiting a_input a_at a_ended a_told a_many a_fresh a_freshRoots a_heads a_count a_kept) A) A) (by decide) rfl (Nat.le_of_ble_eq_true rfl) ?_
  intro p e s m args below meth c A Q F hlocks hr hname hN hQ
  unfold f_X4_isReference at hf
  refine g_lvE (lv' := [(0, .ref a_p), (1, .int x1), (2, .int x2)]) rfl ?_
  refine g_iload_n F dX4_isReference_0 rfl 2 rfl ?_
  refine g_if_eq (tgt := 17) F dX4_isReference_1 (by decide) (fun c1 => ?_) (fun c1 => ?_)
  · have hf := iteT hf c1
    refine g_iconst (v := 0) F dX4_isReference_17 rfl ?_
    subst hQ
    exact g_zret F hlocks hr rfl () rfl (Option.some.inj hf).symm dX4_isReference_18
  · have hf := iteF hf c1
    refine g_aload_n F dX4_isReference_4 rfl 0 rfl ?_
    refine g_iload_n F dX4_isReference_5 rfl 1 rfl ?_
    refine g_iload_n F dX4_isReference_6 rfl 2 rfl ?_
    obtain ⟨o1, ho1, hf⟩ := bnE hf
    refine g_callPi (n := 2) (As := [.int x1, .int x2]) F (c_X4_find l dC dI cI cJ cH a_p a_bases_p a_tops_p a_words_p a_roots_p a_order_p a_numbers_p a_image_p a_other_p a_input_p a_fresh_p a_freshRoots_p a_heads_p a_kept_p a_thrown a_bases a_tops a_words a_roots a_reached a_order a_numbers a_size a_image a_otherSize a_other a_waiting a_input a_at a_ended a_told a_many a_fresh a_freshRoots a_heads a_count a_kept x1 x2 o1 ho1) ggX4_isReference_X4_find rfl rfl rfl (by decide +kernel) (by decide +kernel) (by decide +kernel) (by decide +kernel) (by decide +kernel) ⟨Nat.le_of_ble_eq_true rfl, Nat.le_of_ble_eq_true rfl⟩ ⟨Nat.le_of_ble_eq_true rfl, Nat.le_of_ble_eq_true rfl⟩ hN 0 rfl rfl rfl ([]) ([]) rfl (fun _ => rfl) rfl (Nat.le_of_ble_eq_true rfl) rfl dX4_isReference_7 (cells' := 0) (slots' := 0) rfl rfl (fun r u hp => ?_)
    subst hp
    refine g_ws (ws' := wMd cI a_p a_bases_p a_tops_p a_words_p a_roots_p a_order_p a_numbers_p a_image_p a_other_p a_input_p a_fresh_p a_freshRoots_p a_heads_p a_kept_p a_thrown a_bases a_tops a_words a_roots a_reached a_order a_numbers a_size a_image a_otherSize a_other a_waiting a_input a_at a_ended a_told a_many a_fresh a_freshRoots a_heads a_count a_kept) rfl ?_
    refine g_if_lt (tgt := 17) F dX4_isReference_10 (by decide) (fun c10 => ?_) (fun c10 => ?_)
    · have hf := iteT hf c10
      refine g_iconst (v := 0) F dX4_isReference_17 rfl ?_
      subst hQ
      exact g_zret F hlocks hr rfl () rfl (Option.some.inj hf).symm dX4_isReference_18
    · have hf := iteF hf c10
      refine g_iconst (v := 1) F dX4_isReference_13 rfl ?_
      refine g_goto (tgt := 18) F dX4_isReference_14 (by decide) ?_
      subst hQ
      exact g_zret F hlocks hr rfl () rfl (Option.some.inj hf).symm dX4_isReference_18

/-! HeapImagesModel.faultOf(III)I -/
def rm_X4_faultOf : Room := { frames := 5, cells := 0, slots := 0, locals := 111 }
def f_X4_faultOf (a_bases : (Nat → Int32)) (a_tops : (Nat → Int32)) (a_words : (Nat → Int32)) (x1 : Int32) (x2 : Int32) (x3 : Int32) : Option Int32 :=
  Option.bind (f_X4_isNumber x2) fun o1 => if o1 = 0 then if x2 = 0 then if x3 = 0 then Option.bind (f_X4_isNumber x2) fun o6 => if o6 = 0 then if x3 = (1 : Int32) then Option.bind (f_X4_isNumber x2) fun o7 => if o7 = 0 then some (5 : Int32) else some (0 : Int32) else some (0 : Int32) else some (4 : Int32) else if x3 = (1 : Int32) then Option.bind (f_X4_isNumber x2) fun o5 => if o5 = 0 then some (5 : Int32) else some (0 : Int32) else some (0 : Int32) else Option.bind (f_X4_isReference a_bases a_tops a_words x1 x2) fun o8 => if o8 = 0 then some (3 : Int32) else if x3 = 0 then Option.bind (f_X4_isNumber x2) fun o10 => if o10 = 0 then if x3 = (1 : Int32) then Option.bind (f_X4_isNumber x2) fun o11 => if o11 = 0 then some (5 : Int32) else some (0 : Int32) else some (0 : Int32) else some (4 : Int32) else if x3 = (1 : Int32) then Option.bind (f_X4_isNumber x2) fun o9 => if o9 = 0 then some (5 : Int32) else some (0 : Int32) else some (0 : Int32) else if x3 = 0 then Option.bind (f_X4_isNumber x2) fun o3 => if o3 = 0 then if x3 = (1 : Int32) then Option.bind (f_X4_isNumber x2) fun o4 => if o4 = 0 then some (5 : Int32) else some (0 : Int32) else some (0 : Int32) else some (4 : Int32) else if x3 = (1 : Int32) then Option.bind (f_X4_isNumber x2) fun o2 => if o2 = 0 then some (5 : Int32) else some (0 : Int32) else some (0 : Int32)
set_option maxHeartbeats 4000000 in
set_option maxRecDepth 100000 in
theorem c_X4_faultOf (l : Launch) (dC : Nat → ClassId) (dI : Nat → Nat → Nat) (cI cJ cH : ClassId) (a_p a_bases_p a_tops_p a_words_p a_roots_p a_order_p a_numbers_p a_image_p a_other_p a_input_p a_fresh_p a_freshRoots_p a_heads_p a_kept_p : Nat)  (a_thrown : Int32) (a_bases : (Nat → Int32)) (a_tops : (Nat → Int32)) (a_words : (Nat → Int32)) (a_roots : (Nat → Int32)) (a_reached : Int32) (a_order : (Nat → Int32)) (a_numbers : (Nat → Int32)) (a_size : Int32) (a_image : (Nat → Int32)) (a_otherSize : Int32) (a_other : (Nat → Int32)) (a_waiting : Int32) (a_input : (Nat → Int32)) (a_at : Int32) (a_ended : Int32) (a_told : Int32) (a_many : Int32) (a_fresh : (Nat → Int32)) (a_freshRoots : (Nat → Int32)) (a_heads : (Nat → Int32)) (a_count : Int64) (a_kept : (Nat → Int32)) (x1 : Int32) (x2 : Int32) (x3 : Int32) (o : Int32) (hf : f_X4_faultOf a_bases a_tops a_words x1 x2 x3 = some o) : ∀ sz : Nat, Met l yX4_faultOf wsX4_faultOf rm_X4_faultOf (gPre [.ref a_p, .int x1, .int x2, .int x3] (dC, dI) vwCl (gT cI cJ cH) (wMd cI a_p a_bases_p a_tops_p a_words_p a_roots_p a_order_p a_numbers_p a_image_p a_other_p a_input_p a_fresh_p a_freshRoots_p a_heads_p a_kept_p a_thrown a_bases a_tops a_words a_roots a_reached a_order a_numbers a_size a_image a_otherSize a_other a_waiting a_input a_at a_ended a_told a_many a_fresh a_freshRoots a_heads a_count a_kept) sz) (va_Qi (fun (r : Int32) (u : Unit) => o = r) (gB (dC, dI) vwCl (gT cI cJ cH) (fun (u : Unit) => wMd cI a_p a_bases_p a_tops_p a_words_p a_roots_p a_order_p a_numbers_p a_image_p a_other_p a_input_p a_fresh_p a_freshRoots_p a_heads_p a_kept_p a_thrown a_bases a_tops a_words a_roots a_reached a_order a_numbers a_size a_image a_otherSize a_other a_waiting a_input a_at a_ended a_told a_many a_fresh a_freshRoots a_heads a_count a_kept) (va_A (wMd cI a_p a_bases_p a_tops_p a_words_p a_roots_p a_order_p a_numbers_p a_image_p a_other_p a_input_p a_fresh_p a_freshRoots_p a_heads_p a_kept_p a_thrown a_bases a_tops a_words a_roots a_reached a_order a_numbers a_size a_image a_otherSize a_other a_waiting a_input a_at a_ended a_told a_many a_fresh a_freshRoots a_heads a_count a_kept) sz)) (va_A (wMd cI a_p a_bases_p a_tops_p a_words_p a_roots_p a_order_p a_numbers_p a_image_p a_other_p a_input_p a_fresh_p a_freshRoots_p a_heads_p a_kept_p a_thrown a_bases a_tops a_words a_roots a_reached a_order a_numbers a_size a_image a_otherSize a_other a_waiting a_input a_at a_ended a_told a_many a_fresh a_freshRoots a_heads a_count a_kept) sz)) 0 0 (va_A (wMd cI a_p a_bases_p a_tops_p a_words_p a_roots_p a_order_p a_numbers_p a_image_p a_other_p a_input_p a_fresh_p a_freshRoots_p a_heads_p a_kept_p a_thrown a_bases a_tops a_words a_roots a_reached a_order a_numbers a_size a_image a_otherSize a_other a_waiting a_input a_at a_ended a_told a_many a_fresh a_freshRoots a_heads a_count a_kept) sz) := by
  refine g_met (fun A => va_Qi (fun (r : Int32) (u : Unit) => o = r) (gB (dC, dI) vwCl (gT cI cJ cH) (fun (u : Unit) => wMd cI a_p a_bases_p a_tops_p a_words_p a_roots_p a_order_p a_numbers_p a_image_p a_other_p a_input_p a_fresh_p a_freshRoots_p a_heads_p a_kept_p a_thrown a_bases a_tops a_words a_roots a_reached a_order a_numbers a_size a_image a_otherSize a_other a_waiting a_input a_at a_ended a_told a_many a_fresh a_freshRoots a_heads a_count a_kept) A) A) (by decide) rfl (Nat.le_of_ble_eq_true rfl) ?_
  intro p e s m args below meth c A Q F hlocks hr hname hN hQ
  unfold f_X4_faultOf at hf
  refine g_lvE (lv' := [(0, .ref a_p), (1, .int x1), (2, .int x2), (3, .int x3)]) rfl ?_
  refine g_iload_n F dX4_faultOf_0 rfl 2 rfl ?_
  obtain ⟨o1, ho1, hf⟩ := bnE hf
  refine g_callSi (n := 1) (As := [.int x2]) F (c_X4_isNumber l dC dI cI cJ cH x2 o1 ho1) ggX4_faultOf_X4_isNumber rfl rfl rfl (by decide +kernel) (by decide +kernel) (by decide +kernel) (by decide +kernel) ⟨Nat.le_of_ble_eq_true rfl, Nat.le_of_ble_eq_true rfl⟩ ⟨Nat.le_of_ble_eq_true rfl, Nat.le_of_ble_eq_true rfl⟩ hN [] rfl rfl (fun _ => rfl) rfl (Nat.le_of_ble_eq_true rfl) rfl dX4_faultOf_1 (cells' := 0) (slots' := 0) rfl rfl (fun r u hp => ?_)
  subst hp
  refine g_ws (ws' := wMd cI a_p a_bases_p a_tops_p a_words_p a_roots_p a_order_p a_numbers_p a_image_p a_other_p a_input_p a_fresh_p a_freshRoots_p a_heads_p a_kept_p a_thrown a_bases a_tops a_words a_roots a_reached a_order a_numbers a_size a_image a_otherSize a_other a_waiting a_input a_at a_ended a_told a_many a_fresh a_freshRoots a_heads a_count a_kept) rfl ?_
  refine g_if_ne (tgt := 22) F dX4_faultOf_4 (by decide) (fun c4 => ?_) (fun c4 => ?_)
  · have hf := iteF hf c4
    refine g_iload_n F dX4_faultOf_22 rfl 3 rfl ?_
    refine g_if_ne (tgt := 37) F dX4_faultOf_23 (by decide) (fun c23 => ?_) (fun c23 => ?_)
    · have hf := iteF hf c23
      refine g_iload_n F dX4_faultOf_37 rfl 3 rfl ?_
      refine g_iconst (v := 1) F dX4_faultOf_38 rfl ?_
      refine g_icmp_ne (tgt := 53) F dX4_faultOf_39 (by decide) (fun c39 => ?_) (fun c39 => ?_)
      · have hf := iteF hf c39
        refine g_iconst (v := 0) F dX4_faultOf_53 rfl ?_
        subst hQ
        exact g_iret F hlocks hr () rfl (Option.some.inj hf).symm dX4_faultOf_54
      · have hf := iteT hf c39
        refine g_iload_n F dX4_faultOf_42 rfl 2 rfl ?_
        obtain ⟨o2, ho2, hf⟩ := bnE hf
        refine g_callSi (n := 1) (As := [.int x2]) F (c_X4_isNumber l dC dI cI cJ cH x2 o2 ho2) ggX4_faultOf_X4_isNumber rfl rfl rfl (by decide +kernel) (by decide +kernel) (by decide +kernel) (by decide +kernel) ⟨Nat.le_of_ble_eq_true rfl, Nat.le_of_ble_eq_true rfl⟩ ⟨Nat.le_of_ble_eq_true rfl, Nat.le_of_ble_eq_true rfl⟩ hN [] rfl rfl (fun _ => rfl) rfl (Nat.le_of_ble_eq_true rfl) rfl dX4_faultOf_43 (cells' := 0) (slots' := 0) rfl rfl (fun r u hp => ?_)
        subst hp
        refine g_ws (ws' := wMd cI a_p a_bases_p a_tops_p a_words_p a_roots_p a_order_p a_numbers_p a_image_p a_other_p a_input_p a_fresh_p a_freshRoots_p a_heads_p a_kept_p a_thrown a_bases a_tops a_words a_roots a_reached a_order a_numbers a_size a_image a_otherSize a_other a_waiting a_input a_at a_ended a_told a_many a_fresh a_freshRoots a_heads a_count a_kept) rfl ?_
        refine g_if_ne (tgt := 53) F dX4_faultOf_46 (by decide) (fun c46 => ?_) (fun c46 => ?_)
        · have hf := iteF hf c46
          refine g_iconst (v := 0) F dX4_faultOf_53 rfl ?_
          subst hQ
          exact g_iret F hlocks hr () rfl (Option.some.inj hf).symm dX4_faultOf_54
        · have hf := iteT hf c46
          refine g_iconst (v := 5) F dX4_faultOf_49 rfl ?_
          refine g_goto (tgt := 54) F dX4_faultOf_50 (by decide) ?_
          subst hQ
          exact g_iret F hlocks hr () rfl (Option.some.inj hf).symm dX4_faultOf_54
    · have hf := iteT hf c23
      refine g_iload_n F dX4_faultOf_26 rfl 2 rfl ?_
      obtain ⟨o3, ho3, hf⟩ := bnE hf
      refine g_callSi (n := 1) (As := [.int x2]) F (c_X4_isNumber l dC dI cI cJ cH x2 o3 ho3) ggX4_faultOf_X4_isNumber rfl rfl rfl (by decide +kernel) (by decide +kernel) (by decide +kernel) (by decide +kernel) ⟨Nat.le_of_ble_eq_true rfl, Nat.le_of_ble_eq_true rfl⟩ ⟨Nat.le_of_ble_eq_true rfl, Nat.le_of_ble_eq_true rfl⟩ hN [] rfl rfl (fun _ => rfl) rfl (Nat.le_of_ble_eq_true rfl) rfl dX4_faultOf_27 (cells' := 0) (slots' := 0) rfl rfl (fun r u hp => ?_)
      subst hp
      refine g_ws (ws' := wMd cI a_p a_bases_p a_tops_p a_words_p a_roots_p a_order_p a_numbers_p a_image_p a_other_p a_input_p a_fresh_p a_freshRoots_p a_heads_p a_kept_p a_thrown a_bases a_tops a_words a_roots a_reached a_order a_numbers a_size a_image a_otherSize a_other a_waiting a_input a_at a_ended a_told a_many a_fresh a_freshRoots a_heads a_count a_kept) rfl ?_
      refine g_if_eq (tgt := 37) F dX4_faultOf_30 (by decide) (fun c30 => ?_) (fun c30 => ?_)
      · have hf := iteT hf c30
        refine g_iload_n F dX4_faultOf_37 rfl 3 rfl ?_
        refine g_iconst (v := 1) F dX4_faultOf_38 rfl ?_
        refine g_icmp_ne (tgt := 53) F dX4_faultOf_39 (by decide) (fun c39 => ?_) (fun c39 => ?_)
        · have hf := iteF hf c39
          refine g_iconst (v := 0) F dX4_faultOf_53 rfl ?_
          subst hQ
          exact g_iret F hlocks hr () rfl (Option.some.inj hf).symm dX4_faultOf_54
        · have hf := iteT hf c39
          refine g_iload_n F dX4_faultOf_42 rfl 2 rfl ?_
          obtain ⟨o4, ho4, hf⟩ := bnE hf
          refine g_callSi (n := 1) (As := [.int x2]) F (c_X4_isNumber l dC dI cI cJ cH x2 o4 ho4) ggX4_faultOf_X4_isNumber rfl rfl rfl (by decide +kernel) (by decide +kernel) (by decide +kernel) (by decide +kernel) ⟨Nat.le_of_ble_eq_true rfl, Nat.le_of_ble_eq_true rfl⟩ ⟨Nat.le_of_ble_eq_true rfl, Nat.le_of_ble_eq_true rfl⟩ hN [] rfl rfl (fun _ => rfl) rfl (Nat.le_of_ble_eq_true rfl) rfl dX4_faultOf_43 (cells' := 0) (slots' := 0) rfl rfl (fun r u hp => ?_)
          subst hp
          refine g_ws (ws' := wMd cI a_p a_bases_p a_tops_p a_words_p a_roots_p a_order_p a_numbers_p a_image_p a_other_p a_input_p a_fresh_p a_freshRoots_p a_heads_p a_kept_p a_thrown a_bases a_tops a_words a_roots a_reached a_order a_numbers a_size a_image a_otherSize a_other a_waiting a_input a_at a_ended a_told a_many a_fresh a_freshRoots a_heads a_count a_kept) rfl ?_
          refine g_if_ne (tgt := 53) F dX4_faultOf_46 (by decide) (fun c46 => ?_) (fun c46 => ?_)
          · have hf := iteF hf c46
            refine g_iconst (v := 0) F dX4_faultOf_53 rfl ?_
            subst hQ
            exact g_iret F hlocks hr () rfl (Option.some.inj hf).symm dX4_faultOf_54
          · have hf := iteT hf c46
            refine g_iconst (v := 5) F dX4_faultOf_49 rfl ?_
            refine g_goto (tgt := 54) F dX4_faultOf_50 (by decide) ?_
            subst hQ
            exact g_iret F hlocks hr () rfl (Option.some.inj hf).symm dX4_faultOf_54
      · have hf := iteF hf c30
        refine g_iconst (v := 4) F dX4_faultOf_33 rfl ?_
        refine g_goto (tgt := 54) F dX4_faultOf_34 (by decide) ?_
        subst hQ
        exact g_iret F hlocks hr () rfl (Option.some.inj hf).symm dX4_faultOf_54
  · have hf := iteT hf c4
    refine g_iload_n F dX4_faultOf_7 rfl 2 rfl ?_
    refine g_if_eq (tgt := 22) F dX4_faultOf_8 (by decide) (fun c8 => ?_) (fun c8 => ?_)
    · have hf := iteT hf c8
      refine g_iload_n F dX4_faultOf_22 rfl 3 rfl ?_
      refine g_if_ne (tgt := 37) F dX4_faultOf_23 (by decide) (fun c23 => ?_) (fun c23 => ?_)
      · have hf := iteF hf c23
        refine g_iload_n F dX4_faultOf_37 rfl 3 rfl ?_
        refine g_iconst (v := 1) F dX4_faultOf_38 rfl ?_
        refine g_icmp_ne (tgt := 53) F dX4_faultOf_39 (by decide) (fun c39 => ?_) (fun c39 => ?_)
        · have hf := iteF hf c39
          refine g_iconst (v := 0) F dX4_faultOf_53 rfl ?_
          subst hQ
          exact g_iret F hlocks hr () rfl (Option.some.inj hf).symm dX4_faultOf_54
        · have hf := iteT hf c39
          refine g_iload_n F dX4_faultOf_42 rfl 2 rfl ?_
          obtain ⟨o5, ho5, hf⟩ := bnE hf
          refine g_callSi (n := 1) (As := [.int x2]) F (c_X4_isNumber l dC dI cI cJ cH x2 o5 ho5) ggX4_faultOf_X4_isNumber rfl rfl rfl (by decide +kernel) (by decide +kernel) (by decide +kernel) (by decide +kernel) ⟨Nat.le_of_ble_eq_true rfl, Nat.le_of_ble_eq_true rfl⟩ ⟨Nat.le_of_ble_eq_true rfl, Nat.le_of_ble_eq_true rfl⟩ hN [] rfl rfl (fun _ => rfl) rfl (Nat.le_of_ble_eq_true rfl) rfl dX4_faultOf_43 (cells' := 0) (slots' := 0) rfl rfl (fun r u hp => ?_)
          subst hp
          refine g_ws (ws' := wMd cI a_p a_bases_p a_tops_p a_words_p a_roots_p a_order_p a_numbers_p a_image_p a_other_p a_input_p a_fresh_p a_freshRoots_p a_heads_p a_kept_p a_thrown a_bases a_tops a_words a_roots a_reached a_order a_numbers a_size a_image a_otherSize a_other a_waiting a_input a_at a_ended a_told a_many a_fresh a_freshRoots a_heads a_count a_kept) rfl ?_
          refine g_if_ne (tgt := 53) F dX4_faultOf_46 (by decide) (fun c46 => ?_) (fun c46 => ?_)
          · have hf := iteF hf c46
            refine g_iconst (v := 0) F dX4_faultOf_53 rfl ?_
            subst hQ
            exact g_iret F hlocks hr () rfl (Option.some.inj hf).symm dX4_faultOf_54
          · have hf := iteT hf c46
            refine g_iconst (v := 5) F dX4_faultOf_49 rfl ?_
            refine g_goto (tgt := 54) F dX4_faultOf_50 (by decide) ?_
            subst hQ
            exact g_iret F hlocks hr () rfl (Option.some.inj hf).symm dX4_faultOf_54
      · have hf := iteT hf c23
        refine g_iload_n F dX4_faultOf_26 rfl 2 rfl ?_
        obtain ⟨o6, ho6, hf⟩ := bnE hf
        refine g_callSi (n := 1) (As := [.int x2]) F (c_X4_isNumber l dC dI cI cJ cH x2 o6 ho6) ggX4_faultOf_X4_isNumber rfl rfl rfl (by decide +kernel) (by decide +kernel) (by decide +kernel) (by decide +kernel) ⟨Nat.le_of_ble_eq_true rfl, Nat.le_of_ble_eq_true rfl⟩ ⟨Nat.le_of_ble_eq_true rfl, Nat.le_of_ble_eq_true rfl⟩ hN [] rfl rfl (fun _ => rfl) rfl (Nat.le_of_ble_eq_true rfl) rfl dX4_faultOf_27 (cells' := 0) (slots' := 0) rfl rfl (fun r u hp => ?_)
        subst hp
        refine g_ws (ws' := wMd cI a_p a_bases_p a_tops_p a_words_p a_roots_p a_order_p a_numbers_p a_image_p a_other_p a_input_p a_fresh_p a_freshRoots_p a_heads_p a_kept_p a_thrown a_bases a_tops a_words a_roots a_reached a_order a_numbers a_size a_image a_otherSize a_other a_waiting a_input a_at a_ended a_told a_many a_fresh a_freshRoots a_heads a_count a_kept) rfl ?_
        refine g_if_eq (tgt := 37) F dX4_faultOf_30 (by decide) (fun c30 => ?_) (fun c30 => ?_)
        · have hf := iteT hf c30
          refine g_iload_n F dX4_faultOf_37 rfl 3 rfl ?_
          refine g_iconst (v := 1) F dX4_faultOf_38 rfl ?_
          refine g_icmp_ne (tgt := 53) F dX4_faultOf_39 (by decide) (fun c39 => ?_) (fun c39 => ?_)
          · have hf := iteF hf c39
            refine g_iconst (v := 0) F dX4_faultOf_53 rfl ?_
            subst hQ
            exact g_iret F hlocks hr () rfl (Option.some.inj hf).symm dX4_faultOf_54
          · have hf := iteT hf c39
            refine g_iload_n F dX4_faultOf_42 rfl 2 rfl ?_
            obtain ⟨o7, ho7, hf⟩ := bnE hf
            refine g_callSi (n := 1) (As := [.int x2]) F (c_X4_isNumber l dC dI cI cJ cH x2 o7 ho7) ggX4_faultOf_X4_isNumber rfl rfl rfl (by decide +kernel) (by decide +kernel) (by decide +kernel) (by decide +kernel) ⟨Nat.le_of_ble_eq_true rfl, Nat.le_of_ble_eq_true rfl⟩ ⟨Nat.le_of_ble_eq_true rfl, Nat.le_of_ble_eq_true rfl⟩ hN [] rfl rfl (fun _ => rfl) rfl (Nat.le_of_ble_eq_true rfl) rfl dX4_faultOf_43 (cells' := 0) (slots' := 0) rfl rfl (fun r u hp => ?_)
            subst hp
            refine g_ws (ws' := wMd cI a_p a_bases_p a_tops_p a_words_p a_roots_p a_order_p a_numbers_p a_image_p a_other_p a_input_p a_fresh_p a_freshRoots_p a_heads_p a_kept_p a_thrown a_bases a_tops a_words a_roots a_reached a_order a_numbers a_size a_image a_otherSize a_other a_waiting a_input a_at a_ended a_told a_many a_fresh a_freshRoots a_heads a_count a_kept) rfl ?_
            refine g_if_ne (tgt := 53) F dX4_faultOf_46 (by decide) (fun c46 => ?_) (fun c46 => ?_)
            · have hf := iteF hf c46
              refine g_iconst (v := 0) F dX4_faultOf_53 rfl ?_
              subst hQ
              exact g_iret F hlocks hr () rfl (Option.some.inj hf).symm dX4_faultOf_54
            · have hf := iteT hf c46
              refine g_iconst (v := 5) F dX4_faultOf_49 rfl ?_
              refine g_goto (tgt := 54) F dX4_faultOf_50 (by decide) ?_
              subst hQ
              exact g_iret F hlocks hr () rfl (Option.some.inj hf).symm dX4_faultOf_54
        · have hf := iteF hf c30
          refine g_iconst (v := 4) F dX4_faultOf_33 rfl ?_
          refine g_goto (tgt := 54) F dX4_faultOf_34 (by decide) ?_
          subst hQ
          exact g_iret F hlocks hr () rfl (Option.some.inj hf).symm dX4_faultOf_54
    · have hf := iteF hf c8
      refine g_aload_n F dX4_faultOf_11 rfl 0 rfl ?_
      refine g_iload_n F dX4_faultOf_12 rfl 1 rfl ?_
      refine g_iload_n F dX4_faultOf_13 rfl 2 rfl ?_
      obtain ⟨o8, ho8, hf⟩ := bnE hf
      refine g_callPi (n := 2) (As := [.int x1, .int x2]) F (c_X4_isReference l dC dI cI cJ cH a_p a_bases_p a_tops_p a_words_p a_roots_p a_order_p a_numbers_p a_image_p a_other_p a_input_p a_fresh_p a_freshRoots_p a_heads_p a_kept_p a_thrown a_bases a_tops a_words a_roots a_reached a_order a_numbers a_size a_image a_otherSize a_other a_waiting a_input a_at a_ended a_told a_many a_fresh a_freshRoots a_heads a_count a_kept x1 x2 o8 ho8) ggX4_faultOf_X4_isReference rfl rfl rfl (by decide +kernel) (by decide +kernel) (by decide +kernel) (by decide +kernel) (by decide +kernel) ⟨Nat.le_of_ble_eq_true rfl, Nat.le_of_ble_eq_true rfl⟩ ⟨Nat.le_of_ble_eq_true rfl, Nat.le_of_ble_eq_true rfl⟩ hN 0 rfl rfl rfl ([]) ([]) rfl (fun _ => rfl) rfl (Nat.le_of_ble_eq_true rfl) rfl dX4_faultOf_14 (cells' := 0) (slots' := 0) rfl rfl (fun r u hp => ?_)
      subst hp
      refine g_ws (ws' := wMd cI a_p a_bases_p a_tops_p a_words_p a_roots_p a_order_p a_numbers_p a_image_p a_other_p a_input_p a_fresh_p a_freshRoots_p a_heads_p a_kept_p a_thrown a_bases a_tops a_words a_roots a_reached a_order a_numbers a_size a_image a_otherSize a_other a_waiting a_input a_at a_ended a_told a_many a_fresh a_freshRoots a_heads a_count a_kept) rfl ?_
      refine g_if_ne (tgt := 22) F dX4_faultOf_17 (by decide) (fun c17 => ?_) (fun c17 => ?_)
      · have hf := iteF hf c17
        refine g_iload_n F dX4_faultOf_22 rfl 3 rfl ?_
        refine g_if_ne (tgt := 37) F dX4_faultOf_23 (by decide) (fun c23 => ?_) (fun c23 => ?_)
        · have hf := iteF hf c23
          refine g_iload_n F dX4_faultOf_37 rfl 3 rfl ?_
          refine g_iconst (v := 1) F dX4_faultOf_38 rfl ?_
          refine g_icmp_ne (tgt := 53) F dX4_faultOf_39 (by decide) (fun c39 => ?_) (fun c39 => ?_)
          · have hf := iteF hf c39
            refine g_iconst (v := 0) F dX4_faultOf_53 rfl ?_
            subst hQ
            exact g_iret F hlocks hr () rfl (Option.some.inj hf).symm dX4_faultOf_54
          · have hf := iteT hf c39
            refine g_iload_n F dX4_faultOf_42 rfl 2 rfl ?_
            obtain ⟨o9, ho9, hf⟩ := bnE hf
            refine g_callSi (n := 1) (As := [.int x2]) F (c_X4_isNumber l dC dI cI cJ cH x2 o9 ho9) ggX4_faultOf_X4_isNumber rfl rfl rfl (by decide +kernel) (by decide +kernel) (by decide +kernel) (by decide +kernel) ⟨Nat.le_of_ble_eq_true rfl, Nat.le_of_ble_eq_true rfl⟩ ⟨Nat.le_of_ble_eq_true rfl, Nat.le_of_ble_eq_true rfl⟩ hN [] rfl rfl (fun _ => rfl) rfl (Nat.le_of_ble_eq_true rfl) rfl dX4_faultOf_43 (cells' := 0) (slots' := 0) rfl rfl (fun r u hp => ?_)
            subst hp
            refine g_ws (ws' := wMd cI a_p a_bases_p a_tops_p a_words_p a_roots_p a_order_p a_numbers_p a_image_p a_other_p a_input_p a_fresh_p a_freshRoots_p a_heads_p a_kept_p a_thrown a_bases a_tops a_words a_roots a_reached a_order a_numbers a_size a_image a_otherSize a_other a_waiting a_input a_at a_ended a_told a_many a_fresh a_freshRoots a_heads a_count a_kept) rfl ?_
            refine g_if_ne (tgt := 53) F dX4_faultOf_46 (by decide) (fun c46 => ?_) (fun c46 => ?_)
            · have hf := iteF hf c46
              refine g_iconst (v := 0) F dX4_faultOf_53 rfl ?_
              subst hQ
              exact g_iret F hlocks hr () rfl (Option.some.inj hf).symm dX4_faultOf_54
            · have hf := iteT hf c46
              refine g_iconst (v := 5) F dX4_faultOf_49 rfl ?_
              refine g_goto (tgt := 54) F dX4_faultOf_50 (by decide) ?_
              subst hQ
              exact g_iret F hlocks hr () rfl (Option.some.inj hf).symm dX4_faultOf_54
        · have hf := iteT hf c23
          refine g_iload_n F dX4_faultOf_26 rfl 2 rfl ?_
          obtain ⟨o10, ho10, hf⟩ := bnE hf
          refine g_callSi (n := 1) (As := [.int x2]) F (c_X4_isNumber l dC dI cI cJ cH x2 o10 ho10) ggX4_faultOf_X4_isNumber rfl rfl rfl (by decide +kernel) (by decide +kernel) (by decide +kernel) (by decide +kernel) ⟨Nat.le_of_ble_eq_true rfl, Nat.le_of_ble_eq_true rfl⟩ ⟨Nat.le_of_ble_eq_true rfl, Nat.le_of_ble_eq_true rfl⟩ hN [] rfl rfl (fun _ => rfl) rfl (Nat.le_of_ble_eq_true rfl) rfl dX4_faultOf_27 (cells' := 0) (slots' := 0) rfl rfl (fun r u hp => ?_)
          subst hp
          refine g_ws (ws' := wMd cI a_p a_bases_p a_tops_p a_words_p a_roots_p a_order_p a_numbers_p a_image_p a_other_p a_input_p a_fresh_p a_freshRoots_p a_heads_p a_kept_p a_thrown a_bases a_tops a_words a_roots a_reached a_order a_numbers a_size a_image a_otherSize a_other a_waiting a_input a_at a_ended a_told a_many a_fresh a_freshRoots a_heads a_count a_kept) rfl ?_
          refine g_if_eq (tgt := 37) F dX4_faultOf_30 (by decide) (fun c30 => ?_) (fun c30 => ?_)
          · have hf := iteT hf c30
            refine g_iload_n F dX4_faultOf_37 rfl 3 rfl ?_
            refine g_iconst (v := 1) F dX4_faultOf_38 rfl ?_
            refine g_icmp_ne (tgt := 53) F dX4_faultOf_39 (by decide) (fun c39 => ?_) (fun c39 => ?_)
            · have hf := iteF hf c39
              refine g_iconst (v := 0) F dX4_faultOf_53 rfl ?_
              subst hQ
              exact g_iret F hlocks hr () rfl (Option.some.inj hf).symm dX4_faultOf_54
            · have hf := iteT hf c39
              refine g_iload_n F dX4_faultOf_42 rfl 2 rfl ?_
              obtain ⟨o11, ho11, hf⟩ := bnE hf
              refine g_callSi (n := 1) (As := [.int x2]) F (c_X4_isNumber l dC dI cI cJ cH x2 o11 ho11) ggX4_faultOf_X4_isNumber rfl rfl rfl (by decide +kernel) (by decide +kernel) (by decide +kernel) (by decide +kernel) ⟨Nat.le_of_ble_eq_true rfl, Nat.le_of_ble_eq_true rfl⟩ ⟨Nat.le_of_ble_eq_true rfl, Nat.le_of_ble_eq_true rfl⟩ hN [] rfl rfl (fun _ => rfl) rfl (Nat.le_of_ble_eq_true rfl) rfl dX4_faultOf_43 (cells' := 0) (slots' := 0) rfl rfl (fun r u hp => ?_)
              subst hp
              refine g_ws (ws' := wMd cI a_p a_bases_p a_tops_p a_words_p a_roots_p a_order_p a_numbers_p a_image_p a_other_p a_input_p a_fresh_p a_freshRoots_p a_heads_p a_kept_p a_thrown a_bases a_tops a_words a_roots a_reached a_order a_numbers a_size a_image a_otherSize a_other a_waiting a_input a_at a_ended a_told a_many a_fresh a_freshRoots a_heads a_count a_kept) rfl ?_
              refine g_if_ne (tgt := 53) F dX4_faultOf_46 (by decide) (fun c46 => ?_) (fun c46 => ?_)
              · have hf := iteF hf c46
                refine g_iconst (v := 0) F dX4_faultOf_53 rfl ?_
                subst hQ
                exact g_iret F hlocks hr () rfl (Option.some.inj hf).symm dX4_faultOf_54
              · have hf := iteT hf c46
                refine g_iconst (v := 5) F dX4_faultOf_49 rfl ?_
                refine g_goto (tgt := 54) F dX4_faultOf_50 (by decide) ?_
                subst hQ
                exact g_iret F hlocks hr () rfl (Option.some.inj hf).symm dX4_faultOf_54
          · have hf := iteF hf c30
            refine g_iconst (v := 4) F dX4_faultOf_33 rfl ?_
            refine g_goto (tgt := 54) F dX4_faultOf_34 (by decide) ?_
            subst hQ
            exact g_iret F hlocks hr () rfl (Option.some.inj hf).symm dX4_faultOf_54
      · have hf := iteT hf c17
        refine g_iconst (v := 3) F dX4_faultOf_20 rfl ?_
        subst hQ
        exact g_iret F hlocks hr () rfl (Option.some.inj hf).symm dX4_faultOf_21

/-! HeapImagesModel.firstFault(I)I -/
def rm_X4_firstFault : Room := { frames := 6, cells := 0, slots := 0, locals := 134 }
theorem h_X4_firstFault_4 : ∀ w ∈ wsX40, w ∈ wsX4_firstFault := by decide +kernel
def f_X4_firstFault_L2_s (a_tops : (Nat → Int32)) (a_words : (Nat → Int32)) (y1 : Int32) (rc : Int32 → Option (Nat × Int32)) (z2 : Int32) : Option (Nat × Int32) :=
  ck (inR y1 2) (if (a_tops y1.toNatClampNeg) ≤ z2 then some (0, 0) else ck (inR (((256 : Int32) * y1) + z2) 512) (Option.bind (f_X4_isHead (a_words (((256 : Int32) * y1) + z2).toNatClampNeg)) fun o3 => if o3 = 0 then some (1, z2) else Option.bind (f_X4_behind a_tops a_words y1 z2) fun o4 => if 0 ≤ o4 then rc o4 else some (2, z2)))
def f_X4_firstFault_L2 (a_tops : (Nat → Int32)) (a_words : (Nat → Int32)) (y1 : Int32) : Nat → Int32 → Option (Nat × Int32)
  | 0, _ => none
  | n + 1, z2 => f_X4_firstFault_L2_s a_tops a_words y1 (f_X4_firstFault_L2 a_tops a_words y1 n) z2
set_option maxHeartbeats 4000000 in
theorem w_X4_firstFault_L2 {p : Program} {l : Launch} {e : Env} {s : State} {m : MethodId} {args : Array Value} {below : List Frame} {meth : Method} {c : Code} {A : Nat → Prop} {Q : State → Prop} {dC : Nat → ClassId} {dI : Nat → Nat → Nat} {cI cJ cH : ClassId} {a_p a_bases_p a_tops_p a_words_p a_roots_p a_order_p a_numbers_p a_image_p a_other_p a_input_p a_fresh_p a_freshRoots_p a_heads_p a_kept_p : Nat} {a_thrown : Int32} {a_bases : (Nat → Int32)} {a_tops : (Nat → Int32)} {a_words : (Nat → Int32)} {a_roots : (Nat → Int32)} {a_reached : Int32} {a_order : (Nat → Int32)} {a_numbers : (Nat → Int32)} {a_size : Int32} {a_image : (Nat → Int32)} {a_otherSize : Int32} {a_other : (Nat → Int32)} {a_waiting : Int32} {a_input : (Nat → Int32)} {a_at : Int32} {a_ended : Int32} {a_told : Int32} {a_many : Int32} {a_fresh : (Nat → Int32)} {a_freshRoots : (Nat → Int32)} {a_heads : (Nat → Int32)} {a_count : Int64} {a_kept : (Nat → Int32)} {y1 : Int32} (F : gF p m c cX4_firstFault 7 s args wsX4_firstFault yX4_firstFault.cls (dC, dI) vwCl (gT cI cJ cH) A) (hN : ∀ w ∈ gN, va_Nw w s) : ∀ (n : Nat) (z2 : Int32) (o : (Nat × Int32)), f_X4_firstFault_L2 a_tops a_words y1 n z2 = some o → (o.1 = 0 → gW p l e rm_X4_firstFault s m args below meth c 0 0 Q (dC, dI) vwCl A 7 (wMd cI a_p a_bases_p a_tops_p a_words_p a_roots_p a_order_p a_numbers_p a_image_p a_other_p a_input_p a_fresh_p a_freshRoots_p a_heads_p a_kept_p a_thrown a_bases a_tops a_words a_roots a_reached a_order a_numbers a_size a_image a_otherSize a_other a_waiting a_input a_at a_ended a_told a_many a_fresh a_freshRoots a_heads a_count a_kept) [(0, .ref a_p), (1, .int y1)] 58 []) → (o.1 = 1 → gW p l e rm_X4_firstFault s m args below meth c 0 0 Q (dC, dI) vwCl A 7 (wMd cI a_p a_bases_p a_tops_p a_words_p a_roots_p a_order_p a_numbers_p a_image_p a_other_p a_input_p a_fresh_p a_freshRoots_p a_heads_p a_kept_p a_thrown a_bases a_tops a_words a_roots a_reached a_order a_numbers a_size a_image a_otherSize a_other a_waiting a_input a_at a_ended a_told a_many a_fresh a_freshRoots a_heads a_count a_kept) [(2, .int o.2)] 30 []) → (o.1 = 2 → gW p l e rm_X4_firstFault s m args below meth c 0 0 Q (dC, dI) vwCl A 7 (wMd cI a_p a_bases_p a_tops_p a_words_p a_roots_p a_order_p a_numbers_p a_image_p a_other_p a_input_p a_fresh_p a_freshRoots_p a_heads_p a_kept_p a_thrown a_bases a_tops a_words a_roots a_reached a_order a_numbers a_size a_image a_otherSize a_other a_waiting a_input a_at a_ended a_told a_many a_fresh a_freshRoots a_heads a_count a_kept) [(2, .int o.2)] 47 []) → gW p l e rm_X4_firstFault s m args below meth c 0 0 Q (dC, dI) vwCl A 7 (wMd cI a_p a_bases_p a_tops_p a_words_p a_roots_p a_order_p a_numbers_p a_image_p a_other_p a_input_p a_fresh_p a_freshRoots_p a_heads_p a_kept_p a_thrown a_bases a_tops a_words a_roots a_reached a_order a_numbers a_size a_image a_otherSize a_other a_waiting a_input a_at a_ended a_told a_many a_fresh a_freshRoots a_heads a_count a_kept) [(0, .ref a_p), (1, .int y1), (2, .int z2)] 2 [] := by
  intro n
  induction n with
  | zero =>
    intro z2 o hf E0 E1 E2
    change none = some o at hf
    cases hf
  | succ n ih =>
    intro z2 o hf E0 E1 E2
    change f_X4_firstFault_L2_s a_tops a_words y1 (f_X4_firstFault_L2 a_tops a_words y1 n) z2 = some o at hf
    unfold f_X4_firstFault_L2_s at hf
    refine g_iload_n F dX4_firstFault_2 rfl 2 rfl ?_
    refine g_aload_n F dX4_firstFault_3 rfl 0 rfl ?_
    refine g_get F h_X4_firstFault_4 0 rfl rfl 2 (by decide) (by decide +kernel) rfl dX4_firstFault_4 ?_
    refine g_iload_n F dX4_firstFault_7 rfl 1 rfl ?_
    obtain ⟨h1, hf⟩ := ckE hf
    refine g_iald F 2 0 rfl rfl h1 dX4_firstFault_8 ?_
    refine g_icmp_ge (tgt := 58) F dX4_firstFault_9 (by decide) (fun c9 => ?_) (fun c9 => ?_)
    · have hf := iteT hf c9
      cases hf
      refine g_lv [0, 1] rfl ?_
      exact E0 rfl
    · have hf := iteF hf c9
      refine g_aload_n F dX4_firstFault_12 rfl 0 rfl ?_
      refine g_get F h_X4_firstFault_4 0 rfl rfl 3 (by decide) (by decide +kernel) rfl dX4_firstFault_13 ?_
      refine g_sipush (v := 256) F dX4_firstFault_16 rfl ?_
      refine g_iload_n F dX4_firstFault_19 rfl 1 rfl ?_
      refine g_imul F dX4_firstFault_20 ?_
      refine g_iload_n F dX4_firstFault_21 rfl 2 rfl ?_
      refine g_iadd F dX4_firstFault_22 ?_
      obtain ⟨h2, hf⟩ := ckE hf
      refine g_iald F 3 0 rfl rfl h2 dX4_firstFault_23 ?_
      obtain ⟨o3, ho3, hf⟩ := bnE hf
      refine g_callSi (n := 1) (As := [.int (a_words (((256 : Int32) * y1) + z2).toNatClampNeg)]) F (c_X4_isHead l dC dI cI cJ cH (a_words (((256 : Int32) * y1) + z2).toNatClampNeg) o3 ho3) ggX4_firstFault_X4_isHead rfl rfl rfl (by decide +kernel) (by decide +kernel) (by decide +kernel) (by decide +kernel) ⟨Nat.le_of_ble_eq_true rfl, Nat.le_of_ble_eq_true rfl⟩ ⟨Nat.le_of_ble_eq_true rfl, Nat.le_of_ble_eq_true rfl⟩ hN [] rfl rfl (fun _ => rfl) rfl (Nat.le_of_ble_eq_true rfl) rfl dX4_firstFault_24 (cells' := 0) (slots' := 0) rfl rfl (fun r u hp => ?_)
      subst hp
      refine g_ws (ws' := wMd cI a_p a_bases_p a_tops_p a_words_p a_roots_p a_order_p a_numbers_p a_image_p a_other_p a_input_p a_fresh_p a_freshRoots_p a_heads_p a_kept_p a_thrown a_bases a_tops a_words a_roots a_reached a_order a_numbers a_size a_image a_otherSize a_other a_waiting a_input a_at a_ended a_told a_many a_fresh a_freshRoots a_heads a_count a_kept) rfl ?_
      refine g_if_ne (tgt := 36) F dX4_firstFault_27 (by decide) (fun c27 => ?_) (fun c27 => ?_)
      · have hf := iteF hf c27
        refine g_aload_n F dX4_firstFault_36 rfl 0 rfl ?_
        refine g_iload_n F dX4_firstFault_37 rfl 1 rfl ?_
        refine g_iload_n F dX4_firstFault_38 rfl 2 rfl ?_
        obtain ⟨o4, ho4, hf⟩ := bnE hf
        refine g_callPi (n := 2) (As := [.int y1, .int z2]) F (c_X4_behind l dC dI cI cJ cH a_p a_bases_p a_tops_p a_words_p a_roots_p a_order_p a_numbers_p a_image_p a_other_p a_input_p a_fresh_p a_freshRoots_p a_heads_p a_kept_p a_thrown a_bases a_tops a_words a_roots a_reached a_order a_numbers a_size a_image a_otherSize a_other a_waiting a_input a_at a_ended a_told a_many a_fresh a_freshRoots a_heads a_count a_kept y1 z2 o4 ho4) ggX4_firstFault_X4_behind rfl rfl rfl (by decide +kernel) (by decide +kernel) (by decide +kernel) (by decide +kernel) (by decide +kernel) ⟨Nat.le_of_ble_eq_true rfl, Nat.le_of_ble_eq_true rfl⟩ ⟨Nat.le_of_ble_eq_true rfl, Nat.le_of_ble_eq_true rfl⟩ hN 0 rfl rfl rfl ([]) ([]) rfl (fun _ => rfl) rfl (Nat.le_of_ble_eq_true rfl) rfl dX4_firstFault_39 (cells' := 0) (slots' := 0) rfl rfl (fun r u hp => ?_)
        subst hp
        refine g_ws (ws' := wMd cI a_p a_bases_p a_tops_p a_words_p a_roots_p a_order_p a_numbers_p a_image_p a_other_p a_input_p a_fresh_p a_freshRoots_p a_heads_p a_kept_p a_thrown a_bases a_tops a_words a_roots a_reached a_order a_numbers a_size a_image a_otherSize a_other a_waiting a_input a_at a_ended a_told a_many a_fresh a_freshRoots a_heads a_count a_kept) rfl ?_
        refine g_istore_n (lv' := [(3, .int o4), (0, .ref a_p), (1, .int y1), (2, .int z2)]) F dX4_firstFault_42 rfl (by decide) rfl ?_
        refine g_iload_n F dX4_firstFault_43 rfl 0 rfl ?_
        refine g_if_ge (tgt := 53) F dX4_firstFault_44 (by decide) (fun c44 => ?_) (fun c44 => ?_)
        · have hf := iteT hf c44
          refine g_iload_n F dX4_firstFault_53 rfl 0 rfl ?_
          refine g_istore_n (lv' := [(2, .int o4), (3, .int o4), (0, .ref a_p), (1, .int y1)]) F dX4_firstFault_54 rfl (by decide) rfl ?_
          refine g_goto (tgt := 2) F dX4_firstFault_55 (by decide) ?_
          refine g_lv [2, 3, 0] rfl ?_
          exact ih _ o hf E0 E1 E2
        · have hf := iteF hf c44
          cases hf
          refine g_lv [3] rfl ?_
          exact E2 rfl
      · have hf := iteT hf c27
        cases hf
        refine g_lv [2] rfl ?_
        exact E1 rfl
def f_X4_firstFault_L88_s (a_bases : (Nat → Int32)) (a_tops : (Nat → Int32)) (a_words : (Nat → Int32)) (y1 : Int32) (y2 : Int32) (y3 : Int32) (y4 : Int32) (rc : Int32 → Option (Nat × Int32 × Int32)) (z5 : Int32) : Option (Nat × Int32 × Int32) :=
  if y3 ≤ z5 then some (0, 0, 0) else if y4 = (2 : Int32) then some (0, 0, 0) else ck (inR (((((256 : Int32) * y1) + y2) + (1 : Int32)) + z5) 512) (if y4 = (3 : Int32) then Option.bind (f_X4_faultOf a_bases a_tops a_words y1 (a_words (((((256 : Int32) * y1) + y2) + (1 : Int32)) + z5).toNatClampNeg) z5) fun o12 => if o12 ≤ 0 then nm (z5 + (1 : Int32)) fun v13 => rc v13 else some (1, z5, o12) else Option.bind (f_X4_faultOf a_bases a_tops a_words y1 (a_words (((((256 : Int32) * y1) + y2) + (1 : Int32)) + z5).toNatClampNeg) (-1 : Int32)) fun o10 => if o10 ≤ 0 then nm (z5 + (1 : Int32)) fun v11 => rc v11 else some (1, z5, o10))
def f_X4_firstFault_L88 (a_bases : (Nat → Int32)) (a_tops : (Nat → Int32)) (a_words : (Nat → Int32)) (y1 : Int32) (y2 : Int32) (y3 : Int32) (y4 : Int32) : Nat → Int32 → Option (Nat × Int32 × Int32)
  | 0, _ => none
  | n + 1, z5 => f_X4_firstFault_L88_s a_bases a_tops a_words y1 y2 y3 y4 (f_X4_firstFault_L88 a_bases a_tops a_words y1 y2 y3 y4 n) z5
set_option maxHeartbeats 4000000 in
theorem w_X4_firstFault_L88 {p : Program} {l : Launch} {e : Env} {s : State} {m : MethodId} {args : Array Value} {below : List Frame} {meth : Method} {c : Code} {A : Nat → Prop} {Q : State → Prop} {dC : Nat → ClassId} {dI : Nat → Nat → Nat} {cI cJ cH : ClassId} {a_p a_bases_p a_tops_p a_words_p a_roots_p a_order_p a_numbers_p a_image_p a_other_p a_input_p a_fresh_p a_freshRoots_p a_heads_p a_kept_p : Nat} {a_thrown : Int32} {a_bases : (Nat → Int32)} {a_tops : (Nat → Int32)} {a_words : (Nat → Int32)} {a_roots : (Nat → Int32)} {a_reached : Int32} {a_order : (Nat → Int32)} {a_numbers : (Nat → Int32)} {a_size : Int32} {a_image : (Nat → Int32)} {a_otherSize : Int32} {a_other : (Nat → Int32)} {a_waiting : Int32} {a_input : (Nat → Int32)} {a_at : Int32} {a_ended : Int32} {a_told : Int32} {a_many : Int32} {a_fresh : (Nat → Int32)} {a_freshRoots : (Nat → Int32)} {a_heads : (Nat → Int32)} {a_count : Int64} {a_kept : (Nat → Int32)} {y1 : Int32} {y2 : Int32} {y3 : Int32} {y4 : Int32} (F : gF p m c cX4_firstFault 7 s args wsX4_firstFault yX4_firstFault.cls (dC, dI) vwCl (gT cI cJ cH) A) (hN : ∀ w ∈ gN, va_Nw w s) : ∀ (n : Nat) (z5 : Int32) (o : (Nat × Int32 × Int32)), f_X4_firstFault_L88 a_bases a_tops a_words y1 y2 y3 y4 n z5 = some o → (o.1 = 0 → gW p l e rm_X4_firstFault s m args below meth c 0 0 Q (dC, dI) vwCl A 7 (wMd cI a_p a_bases_p a_tops_p a_words_p a_roots_p a_order_p a_numbers_p a_image_p a_other_p a_input_p a_fresh_p a_freshRoots_p a_heads_p a_kept_p a_thrown a_bases a_tops a_words a_roots a_reached a_order a_numbers a_size a_image a_otherSize a_other a_waiting a_input a_at a_ended a_told a_many a_fresh a_freshRoots a_heads a_count a_kept) [(0, .ref a_p), (1, .int y1), (2, .int y2), (3, .int y3)] 161 []) → (o.1 = 1 → gW p l e rm_X4_firstFault s m args below meth c 0 0 Q (dC, dI) vwCl A 7 (wMd cI a_p a_bases_p a_tops_p a_words_p a_roots_p a_order_p a_numbers_p a_image_p a_other_p a_input_p a_fresh_p a_freshRoots_p a_heads_p a_kept_p a_thrown a_bases a_tops a_words a_roots a_reached a_order a_numbers a_size a_image a_otherSize a_other a_waiting a_input a_at a_ended a_told a_many a_fresh a_freshRoots a_heads a_count a_kept) [(2, .int y2), (5, .int o.2.1), (6, .int o.2.2)] 141 []) → gW p l e rm_X4_firstFault s m args below meth c 0 0 Q (dC, dI) vwCl A 7 (wMd cI a_p a_bases_p a_tops_p a_words_p a_roots_p a_order_p a_numbers_p a_image_p a_other_p a_input_p a_fresh_p a_freshRoots_p a_heads_p a_kept_p a_thrown a_bases a_tops a_words a_roots a_reached a_order a_numbers a_size a_image a_otherSize a_other a_waiting a_input a_at a_ended a_told a_many a_fresh a_freshRoots a_heads a_count a_kept) [(0, .ref a_p), (1, .int y1), (2, .int y2), (3, .int y3), (4, .int y4), (5, .int z5)] 88 [] := by
  intro n
  induction n with
  | zero =>
    intro z5 o hf E0 E1
    change none = some o at hf
    cases hf
  | succ n ih =>
    intro z5 o hf E0 E1
    change f_X4_firstFault_L88_s a_bases a_tops a_words y1 y2 y3 y4 (f_X4_firstFault_L88 a_bases a_tops a_words y1 y2 y3 y4 n) z5 = some o at hf
    unfold f_X4_firstFault_L88_s at hf
    refine g_iload F dX4_firstFault_88 5 rfl ?_
    refine g_iload_n F dX4_firstFault_90 rfl 3 rfl ?_
    refine g_icmp_ge (tgt := 161) F dX4_firstFault_91 (by decide) (fun c91 => ?_) (fun c91 => ?_)
    · have hf := iteT hf c91
      cases hf
      refine g_lv [0, 1, 2, 3] rfl ?_
      exact E0 rfl
    · have hf := iteF hf c91
      refine g_iload F dX4_firstFault_94 4 rfl ?_
      refine g_iconst (v := 2) F dX4_firstFault_96 rfl ?_
      refine g_icmp_eq (tgt := 161) F dX4_firstFault_97 (by decide) (fun c97 => ?_) (fun c97 => ?_)
      · have hf := iteT hf c97
        cases hf
        refine g_lv [0, 1, 2, 3] rfl ?_
        exact E0 rfl
      · have hf := iteF hf c97
        refine g_aload_n F dX4_firstFault_100 rfl 0 rfl ?_
        refine g_iload_n F dX4_firstFault_101 rfl 1 rfl ?_
        refine g_aload_n F dX4_firstFault_102 rfl 0 rfl ?_
        refine g_get F h_X4_firstFault_4 0 rfl rfl 3 (by decide) (by decide +kernel) rfl dX4_firstFault_103 ?_
        refine g_sipush (v := 256) F dX4_firstFault_106 rfl ?_
        refine g_iload_n F dX4_firstFault_109 rfl 1 rfl ?_
        refine g_imul F dX4_firstFault_110 ?_
        refine g_iload_n F dX4_firstFault_111 rfl 2 rfl ?_
        refine g_iadd F dX4_firstFault_112 ?_
        refine g_iconst (v := 1) F dX4_firstFault_113 rfl ?_
        refine g_iadd F dX4_firstFault_114 ?_
        refine g_iload F dX4_firstFault_115 5 rfl ?_
        refine g_iadd F dX4_firstFault_117 ?_
        obtain ⟨h9, hf⟩ := ckE hf
        refine g_iald F 3 0 rfl rfl h9 dX4_firstFault_118 ?_
        refine g_iload F dX4_firstFault_119 4 rfl ?_
        refine g_iconst (v := 3) F dX4_firstFault_121 rfl ?_
        refine g_icmp_ne (tgt := 130) F dX4_firstFault_122 (by decide) (fun c122 => ?_) (fun c122 => ?_)
        · have hf := iteF hf c122
          refine g_iconst (v := -1) F dX4_firstFault_130 rfl ?_
          obtain ⟨o10, ho10, hf⟩ := bnE hf
          refine g_callPi (n := 3) (As := [.int y1, .int (a_words (((((256 : Int32) * y1) + y2) + (1 : Int32)) + z5).toNatClampNeg), .int (-1 : Int32)]) F (c_X4_faultOf l dC dI cI cJ cH a_p a_bases_p a_tops_p a_words_p a_roots_p a_order_p a_numbers_p a_image_p a_other_p a_input_p a_fresh_p a_freshRoots_p a_heads_p a_kept_p a_thrown a_bases a_tops a_words a_roots a_reached a_order a_numbers a_size a_image a_otherSize a_other a_waiting a_input a_at a_ended a_told a_many a_fresh a_freshRoots a_heads a_count a_kept y1 (a_words (((((256 : Int32) * y1) + y2) + (1 : Int32)) + z5).toNatClampNeg) (-1 : Int32) o10 ho10) ggX4_firstFault_X4_faultOf rfl rfl rfl (by decide +kernel) (by decide +kernel) (by decide +kernel) (by decide +kernel) (by decide +kernel) ⟨Nat.le_of_ble_eq_true rfl, Nat.le_of_ble_eq_true rfl⟩ ⟨Nat.le_of_ble_eq_true rfl, Nat.le_of_ble_eq_true rfl⟩ hN 0 rfl rfl rfl ([]) ([]) rfl (fun _ => rfl) rfl (Nat.le_of_ble_eq_true rfl) rfl dX4_firstFault_131 (cells' := 0) (slots' := 0) rfl rfl (fun r u hp => ?_)
          subst hp
          refine g_ws (ws' := wMd cI a_p a_bases_p a_tops_p a_words_p a_roots_p a_order_p a_numbers_p a_image_p a_other_p a_input_p a_fresh_p a_freshRoots_p a_heads_p a_kept_p a_thrown a_bases a_tops a_words a_roots a_reached a_order a_numbers a_size a_image a_otherSize a_other a_waiting a_input a_at a_ended a_told a_many a_fresh a_freshRoots a_heads a_count a_kept) rfl ?_
          refine g_istore (lv' := [(6, .int o10), (0, .ref a_p), (1, .int y1), (2, .int y2), (3, .int y3), (4, .int y4), (5, .int z5)]) F dX4_firstFault_134 (by decide) rfl ?_
          refine g_iload F dX4_firstFault_136 0 rfl ?_
          refine g_if_le (tgt := 155) F dX4_firstFault_138 (by decide) (fun c138 => ?_) (fun c138 => ?_)
          · have hf := iteT hf c138
            obtain ⟨v11, ev11, hf⟩ := nmE hf
            refine g_iinc (j := 6) (lv' := [(5, .int v11), (6, .int o10), (0, .ref a_p), (1, .int y1), (2, .int y2), (3, .int y3), (4, .int y4)]) F dX4_firstFault_155 rfl ev11.symm (by decide) rfl ?_
            refine g_goto (tgt := 88) F dX4_firstFault_158 (by decide) ?_
            refine g_lv [2, 3, 4, 5, 6, 0] rfl ?_
            exact ih _ o hf E0 E1
          · have hf := iteF hf c138
            cases hf
            refine g_lv [3, 6, 0] rfl ?_
            exact E1 rfl
        · have hf := iteT hf c122
          refine g_iload F dX4_firstFault_125 5 rfl ?_
          refine g_goto (tgt := 131) F dX4_firstFault_127 (by decide) ?_
          obtain ⟨o12, ho12, hf⟩ := bnE hf
          refine g_callPi (n := 3) (As := [.int y1, .int (a_words (((((256 : Int32) * y1) + y2) + (1 : Int32)) + z5).toNatClampNeg), .int z5]) F (c_X4_faultOf l dC dI cI cJ cH a_p a_bases_p a_tops_p a_words_p a_roots_p a_order_p a_numbers_p a_image_p a_other_p a_input_p a_fresh_p a_freshRoots_p a_heads_p a_kept_p a_thrown a_bases a_tops a_words a_roots a_reached a_order a_numbers a_size a_image a_otherSize a_other a_waiting a_input a_at a_ended a_told a_many a_fresh a_freshRoots a_heads a_count a_kept y1 (a_words (((((256 : Int32) * y1) + y2) + (1 : Int32)) + z5).toNatClampNeg) z5 o12 ho12) ggX4_firstFault_X4_faultOf rfl rfl rfl (by decide +kernel) (by decide +kernel) (by decide +kernel) (by decide +kernel) (by decide +kernel) ⟨Nat.le_of_ble_eq_true rfl, Nat.le_of_ble_eq_true rfl⟩ ⟨Nat.le_of_ble_eq_true rfl, Nat.le_of_ble_eq_true rfl⟩ hN 0 rfl rfl rfl ([]) ([]) rfl (fun _ => rfl) rfl (Nat.le_of_ble_eq_true rfl) rfl dX4_firstFault_131 (cells' := 0) (slots' := 0) rfl rfl (fun r u hp => ?_)
          subst hp
          refine g_ws (ws' := wMd cI a_p a_bases_p a_tops_p a_words_p a_roots_p a_order_p a_numbers_p a_image_p a_other_p a_input_p a_fresh_p a_freshRoots_p a_heads_p a_kept_p a_thrown a_bases a_tops a_words a_roots a_reached a_order a_numbers a_size a_image a_otherSize a_other a_waiting a_input a_at a_ended a_told a_many a_fresh a_freshRoots a_heads a_count a_kept) rfl ?_
          refine g_istore (lv' := [(6, .int o12), (0, .ref a_p), (1, .int y1), (2, .int y2), (3, .int y3), (4, .int y4), (5, .int z5)]) F dX4_firstFault_134 (by decide) rfl ?_
          refine g_iload F dX4_firstFault_136 0 rfl ?_
          refine g_if_le (tgt := 155) F dX4_firstFault_138 (by decide) (fun c138 => ?_) (fun c138 => ?_)
          · have hf := iteT hf c138
            obtain ⟨v13, ev13, hf⟩ := nmE hf
            refine g_iinc (j := 6) (lv' := [(5, .int v13), (6, .int o12), (0, .ref a_p), (1, .int y1), (2, .int y2), (3, .int y3), (4, .int y4)]) F dX4_firstFault_155 rfl ev13.symm (by decide) rfl ?_
            refine g_goto (tgt := 88) F dX4_firstFault_158 (by decide) ?_
            refine g_lv [2, 3, 4, 5, 6, 0] rfl ?_
            exact ih _ o hf E0 E1
          · have hf := iteF hf c138
            cases hf
            refine g_lv [3, 6, 0] rfl ?_
            exact E1 rfl
def f_X4_firstFault_L60_s (a_bases : (Nat → Int32)) (a_tops : (Nat → Int32)) (a_words : (Nat → Int32)) (y1 : Int32) (rc : Int32 → Option (Nat × Int32 × Int32 × Int32)) (z2 : Int32) : Option (Nat × Int32 × Int32 × Int32) :=
  ck (inR y1 2) (if (a_tops y1.toNatClampNeg) ≤ z2 then some (0, 0, 0, 0) else Option.bind (f_X4_slotsAt a_words y1 z2) fun o7 => Option.bind (f_X4_kindAt a_words y1 z2) fun o8 => Option.bind (f_X4_firstFault_L88 a_bases a_tops a_words y1 z2 o7 o8 FU (0 : Int32)) fun o14 => if o14.1 = 0 then nm ((z2 + (1 : Int32)) + o7) fun v15 => rc v15 else some (1, z2, o14.2.1, o14.2.2))
def f_X4_firstFault_L60 (a_bases : (Nat → Int32)) (a_tops : (Nat → Int32)) (a_words : (Nat → Int32)) (y1 : Int32) : Nat → Int32 → Option (Nat × Int32 × Int32 × Int32)
  | 0, _ => none
  | n + 1, z2 => f_X4_firstFault_L60_s a_bases a_tops a_words y1 (f_X4_firstFault_L60 a_bases a_tops a_words y1 n) z2
set_option maxHeartbeats 4000000 in
theorem w_X4_firstFault_L60 {p : Program} {l : Launch} {e : Env} {s : State} {m : MethodId} {args : Array Value} {below : List Frame} {meth : Method} {c : Code} {A : Nat → Prop} {Q : State → Prop} {dC : Nat → ClassId} {dI : Nat → Nat → Nat} {cI cJ cH : ClassId} {a_p a_bases_p a_tops_p a_words_p a_roots_p a_order_p a_numbers_p a_image_p a_other_p a_input_p a_fresh_p a_freshRoots_p a_heads_p a_kept_p : Nat} {a_thrown : Int32} {a_bases : (Nat → Int32)} {a_tops : (Nat → Int32)} {a_words : (Nat → Int32)} {a_roots : (Nat → Int32)} {a_reached : Int32} {a_order : (Nat → Int32)} {a_numbers : (Nat → Int32)} {a_size : Int32} {a_image : (Nat → Int32)} {a_otherSize : Int32} {a_other : (Nat → Int32)} {a_waiting : Int32} {a_input : (Nat → Int32)} {a_at : Int32} {a_ended : Int32} {a_told : Int32} {a_many : Int32} {a_fresh : (Nat → Int32)} {a_freshRoots : (Nat → Int32)} {a_heads : (Nat → Int32)} {a_count : Int64} {a_kept : (Nat → Int32)} {y1 : Int32} (F : gF p m c cX4_firstFault 7 s args wsX4_firstFault yX4_firstFault.cls (dC, dI) vwCl (gT cI cJ cH) A) (hN : ∀ w ∈ gN, va_Nw w s) : ∀ (n : Nat) (z2 : Int32) (o : (Nat × Int32 × Int32 × Int32)), f_X4_firstFault_L60 a_bases a_tops a_words y1 n z2 = some o → (o.1 = 0 → gW p l e rm_X4_firstFault s m args below meth c 0 0 Q (dC, dI) vwCl A 7 (wMd cI a_p a_bases_p a_tops_p a_words_p a_roots_p a_order_p a_numbers_p a_image_p a_other_p a_input_p a_fresh_p a_freshRoots_p a_heads_p a_kept_p a_thrown a_bases a_tops a_words a_roots a_reached a_order a_numbers a_size a_image a_otherSize a_other a_waiting a_input a_at a_ended a_told a_many a_fresh a_freshRoots a_heads a_count a_kept) [(0, .ref a_p), (1, .int y1)] 170 []) → (o.1 = 1 → gW p l e rm_X4_firstFault s m args below meth c 0 0 Q (dC, dI) vwCl A 7 (wMd cI a_p a_bases_p a_tops_p a_words_p a_roots_p a_order_p a_numbers_p a_image_p a_other_p a_input_p a_fresh_p a_freshRoots_p a_heads_p a_kept_p a_thrown a_bases a_tops a_words a_roots a_reached a_order a_numbers a_size a_image a_otherSize a_other a_waiting a_input a_at a_ended a_told a_many a_fresh a_freshRoots a_heads a_count a_kept) [(2, .int o.2.1), (5, .int o.2.2.1), (6, .int o.2.2.2)] 141 []) → gW p l e rm_X4_firstFault s m args below meth c 0 0 Q (dC, dI) vwCl A 7 (wMd cI a_p a_bases_p a_tops_p a_words_p a_roots_p a_order_p a_numbers_p a_image_p a_other_p a_input_p a_fresh_p a_freshRoots_p a_heads_p a_kept_p a_thrown a_bases a_tops a_words a_roots a_reached a_order a_numbers a_size a_image a_otherSize a_other a_waiting a_input a_at a_ended a_told a_many a_fresh a_freshRoots a_heads a_count a_kept) [(0, .ref a_p), (1, .int y1), (2, .int z2)] 60 [] := by
  intro n
  induction n with
  | zero =>
    intro z2 o hf E0 E1
    change none = some o at hf
    cases hf
  | succ n ih =>
    intro z2 o hf E0 E1
    change f_X4_firstFault_L60_s a_bases a_tops a_words y1 (f_X4_firstFault_L60 a_bases a_tops a_words y1 n) z2 = some o at hf
    unfold f_X4_firstFault_L60_s at hf
    refine g_iload_n F dX4_firstFault_60 rfl 2 rfl ?_
    refine g_aload_n F dX4_firstFault_61 rfl 0 rfl ?_
    refine g_get F h_X4_firstFault_4 0 rfl rfl 2 (by decide) (by decide +kernel) rfl dX4_firstFault_62 ?_
    refine g_iload_n F dX4_firstFault_65 rfl 1 rfl ?_
    obtain ⟨h6, hf⟩ := ckE hf
    refine g_iald F 2 0 rfl rfl h6 dX4_firstFault_66 ?_
    refine g_icmp_ge (tgt := 170) F dX4_firstFault_67 (by decide) (fun c67 => ?_) (fun c67 => ?_)
    · have hf := iteT hf c67
      cases hf
      refine g_lv [0, 1] rfl ?_
      exact E0 rfl
    · have hf := iteF hf c67
      refine g_aload_n F dX4_firstFault_70 rfl 0 rfl ?_
      refine g_iload_n F dX4_firstFault_71 rfl 1 rfl ?_
      refine g_iload_n F dX4_firstFault_72 rfl 2 rfl ?_
      obtain ⟨o7, ho7, hf⟩ := bnE hf
      refine g_callPi (n := 2) (As := [.int y1, .int z2]) F (c_X4_slotsAt l dC dI cI cJ cH a_p a_bases_p a_tops_p a_words_p a_roots_p a_order_p a_numbers_p a_image_p a_other_p a_input_p a_fresh_p a_freshRoots_p a_heads_p a_kept_p a_thrown a_bases a_tops a_words a_roots a_reached a_order a_numbers a_size a_image a_otherSize a_other a_waiting a_input a_at a_ended a_told a_many a_fresh a_freshRoots a_heads a_count a_kept y1 z2 o7 ho7) ggX4_firstFault_X4_slotsAt rfl rfl rfl (by decide +kernel) (by decide +kernel) (by decide +kernel) (by decide +kernel) (by decide +kernel) ⟨Nat.le_of_ble_eq_true rfl, Nat.le_of_ble_eq_true rfl⟩ ⟨Nat.le_of_ble_eq_true rfl, Nat.le_of_ble_eq_true rfl⟩ hN 0 rfl rfl rfl ([]) ([]) rfl (fun _ => rfl) rfl (Nat.le_of_ble_eq_true rfl) rfl dX4_firstFault_73 (cells' := 0) (slots' := 0) rfl rfl (fun r u hp => ?_)
      subst hp
      refine g_ws (ws' := wMd cI a_p a_bases_p a_tops_p a_words_p a_roots_p a_order_p a_numbers_p a_image_p a_other_p a_input_p a_fresh_p a_freshRoots_p a_heads_p a_kept_p a_thrown a_bases a_tops a_words a_roots a_reached a_order a_numbers a_size a_image a_otherSize a_other a_waiting a_input a_at a_ended a_told a_many a_fresh a_freshRoots a_heads a_count a_kept) rfl ?_
      refine g_istore_n (lv' := [(3, .int o7), (0, .ref a_p), (1, .int y1), (2, .int z2)]) F dX4_firstFault_76 rfl (by decide) rfl ?_
      refine g_aload_n F dX4_firstFault_77 rfl 1 rfl ?_
      refine g_iload_n F dX4_firstFault_78 rfl 2 rfl ?_
      refine g_iload_n F dX4_firstFault_79 rfl 3 rfl ?_
      obtain ⟨o8, ho8, hf⟩ := bnE hf
      refine g_callPi (n := 2) (As := [.int y1, .int z2]) F (c_X4_kindAt l dC dI cI cJ cH a_p a_bases_p a_tops_p a_words_p a_roots_p a_order_p a_numbers_p a_image_p a_other_p a_input_p a_fresh_p a_freshRoots_p a_heads_p a_kept_p a_thrown a_bases a_tops a_words a_roots a_reached a_order a_numbers a_size a_image a_otherSize a_other a_waiting a_input a_at a_ended a_told a_many a_fresh a_freshRoots a_heads a_count a_kept y1 z2 o8 ho8) ggX4_firstFault_X4_kindAt rfl rfl rfl (by decide +kernel) (by decide +kernel) (by decide +kernel) (by decide +kernel) (by decide +kernel) ⟨Nat.le_of_ble_eq_true rfl, Nat.le_of_ble_eq_true rfl⟩ ⟨Nat.le_of_ble_eq_true rfl, Nat.le_of_ble_eq_true rfl⟩ hN 0 rfl rfl rfl ([]) ([]) rfl (fun _ => rfl) rfl (Nat.le_of_ble_eq_true rfl) rfl dX4_firstFault_80 (cells' := 0) (slots' := 0) rfl rfl (fun r u hp => ?_)
      subst hp
      refine g_ws (ws' := wMd cI a_p a_bases_p a_tops_p a_words_p a_roots_p a_order_p a_numbers_p a_image_p a_other_p a_input_p a_fresh_p a_freshRoots_p a_heads_p a_kept_p a_thrown a_bases a_tops a_words a_roots a_reached a_order a_numbers a_size a_image a_otherSize a_other a_waiting a_input a_at a_ended a_told a_many a_fresh a_freshRoots a_heads a_count a_kept) rfl ?_
      refine g_istore (lv' := [(4, .int o8), (3, .int o7), (0, .ref a_p), (1, .int y1), (2, .int z2)]) F dX4_firstFault_83 (by decide) rfl ?_
      refine g_iconst (v := 0) F dX4_firstFault_85 rfl ?_
      refine g_istore (lv' := [(5, .int (0 : Int32)), (4, .int o8), (3, .int o7), (0, .ref a_p), (1, .int y1), (2, .int z2)]) F dX4_firstFault_86 (by decide) rfl ?_
      obtain ⟨o14, ho14, hf⟩ := bnE hf
      refine g_lv [3, 4, 5, 2, 1, 0] rfl ?_
      refine w_X4_firstFault_L88 F hN FU _ o14 ho14 ?_ ?_
      · intro hk
        have hf := iteT hf hk
        refine g_iload_n F dX4_firstFault_161 rfl 2 rfl ?_
        refine g_iconst (v := 1) F dX4_firstFault_162 rfl ?_
        refine g_iadd F dX4_firstFault_163 ?_
        refine g_iload_n F dX4_firstFault_164 rfl 3 rfl ?_
        refine g_iadd F dX4_firstFault_165 ?_
        obtain ⟨v15, ev15, hf⟩ := nmE hf
        refine g_nmi ev15 ?_
        refine g_istore_n (lv' := [(2, .int v15), (0, .ref a_p), (1, .int y1), (3, .int o7)]) F dX4_firstFault_166 rfl (by decide) rfl ?_
        refine g_goto (tgt := 60) F dX4_firstFault_167 (by decide) ?_
        refine g_lv [1, 2, 0] rfl ?_
        exact ih _ o hf E0 E1
      · intro hk
        have hf := iteF hf (by rw [hk]; decide)
        cases hf
        refine g_lv [0, 1, 2] rfl ?_
        exact E1 rfl
def f_X4_firstFault_L172_s (a_bases : (Nat → Int32)) (a_tops : (Nat → Int32)) (a_words : (Nat → Int32)) (a_roots : (Nat → Int32)) (y1 : Int32) (rc : Int32 → Option (Nat × Int32)) (z3 : Int32) : Option (Nat × Int32) :=
  if (4 : Int32) ≤ z3 then some (0, 0) else ck (inR (((4 : Int32) * y1) + z3) 8) (nm (a_roots (((4 : Int32) * y1) + z3).toNatClampNeg) fun v18 => Option.bind (f_X4_isNumber v18) fun o19 => if o19 = 0 then if v18 = 0 then nm (z3 + (1 : Int32)) fun v21 => rc v21 else Option.bind (f_X4_isReference a_bases a_tops a_words y1 v18) fun o22 => if o22 = 0 then some (1, z3) else nm (z3 + (1 : Int32)) fun v23 => rc v23 else nm (z3 + (1 : Int32)) fun v20 => rc v20)
def f_X4_firstFault_L172 (a_bases : (Nat → Int32)) (a_tops : (Nat → Int32)) (a_words : (Nat → Int32)) (a_roots : (Nat → Int32)) (y1 : Int32) : Nat → Int32 → Option (Nat × Int32)
  | 0, _ => none
  | n + 1, z3 => f_X4_firstFault_L172_s a_bases a_tops a_words a_roots y1 (f_X4_firstFault_L172 a_bases a_tops a_words a_roots y1 n) z3
set_option maxHeartbeats 4000000 in
theorem w_X4_firstFault_L172 {p : Program} {l : Launch} {e : Env} {s : State} {m : MethodId} {args : Array Value} {below : List Frame} {meth : Method} {c : Code} {A : Nat → Prop} {Q : State → Prop} {dC : Nat → ClassId} {dI : Nat → Nat → Nat} {cI cJ cH : ClassId} {a_p a_bases_p a_tops_p a_words_p a_roots_p a_order_p a_numbers_p a_image_p a_other_p a_input_p a_fresh_p a_freshRoots_p a_heads_p a_kept_p : Nat} {a_thrown : Int32} {a_bases : (Nat → Int32)} {a_tops : (Nat → Int32)} {a_words : (Nat → Int32)} {a_roots : (Nat → Int32)} {a_reached : Int32} {a_order : (Nat → Int32)} {a_numbers : (Nat → Int32)} {a_size : Int32} {a_image : (Nat → Int32)} {a_otherSize : Int32} {a_other : (Nat → Int32)} {a_waiting : Int32} {a_input : (Nat → Int32)} {a_at : Int32} {a_ended : Int32} {a_told : Int32} {a_many : Int32} {a_fresh : (Nat → Int32)} {a_freshRoots : (Nat → Int32)} {a_heads : (Nat → Int32)} {a_count : Int64} {a_kept : (Nat → Int32)} {y1 : Int32} (F : gF p m c cX4_firstFault 7 s args wsX4_firstFault yX4_firstFault.cls (dC, dI) vwCl (gT cI cJ cH) A) (hN : ∀ w ∈ gN, va_Nw w s) : ∀ (n : Nat) (z3 : Int32) (o : (Nat × Int32)), f_X4_firstFault_L172 a_bases a_tops a_words a_roots y1 n z3 = some o → (o.1 = 0 → gW p l e rm_X4_firstFault s m args below meth c 0 0 Q (dC, dI) vwCl A 7 (wMd cI a_p a_bases_p a_tops_p a_words_p a_roots_p a_order_p a_numbers_p a_image_p a_other_p a_input_p a_fresh_p a_freshRoots_p a_heads_p a_kept_p a_thrown a_bases a_tops a_words a_roots a_reached a_order a_numbers a_size a_image a_otherSize a_other a_waiting a_input a_at a_ended a_told a_many a_fresh a_freshRoots a_heads a_count a_kept) [] 224 []) → (o.1 = 1 → gW p l e rm_X4_firstFault s m args below meth c 0 0 Q (dC, dI) vwCl A 7 (wMd cI a_p a_bases_p a_tops_p a_words_p a_roots_p a_order_p a_numbers_p a_image_p a_other_p a_input_p a_fresh_p a_freshRoots_p a_heads_p a_kept_p a_thrown a_bases a_tops a_words a_roots a_reached a_order a_numbers a_size a_image a_otherSize a_other a_waiting a_input a_at a_ended a_told a_many a_fresh a_freshRoots a_heads a_count a_kept) [(3, .int o.2)] 212 []) → gW p l e rm_X4_firstFault s m args below meth c 0 0 Q (dC, dI) vwCl A 7 (wMd cI a_p a_bases_p a_tops_p a_words_p a_roots_p a_order_p a_numbers_p a_image_p a_other_p a_input_p a_fresh_p a_freshRoots_p a_heads_p a_kept_p a_thrown a_bases a_tops a_words a_roots a_reached a_order a_numbers a_size a_image a_otherSize a_other a_waiting a_input a_at a_ended a_told a_many a_fresh a_freshRoots a_heads a_count a_kept) [(0, .ref a_p), (1, .int y1), (3, .int z3)] 172 [] := by
  intro n
  induction n with
  | zero =>
    intro z3 o hf E0 E1
    change none = some o at hf
    cases hf
  | succ n ih =>
    intro z3 o hf E0 E1
    change f_X4_firstFault_L172_s a_bases a_tops a_words a_roots y1 (f_X4_firstFault_L172 a_bases a_tops a_words a_roots y1 n) z3 = some o at hf
    unfold f_X4_firstFault_L172_s at hf
    refine g_iload_n F dX4_firstFault_172 rfl 2 rfl ?_
    refine g_iconst (v := 4) F dX4_firstFault_173 rfl ?_
    refine g_icmp_ge (tgt := 224) F dX4_firstFault_174 (by decide) (fun c174 => ?_) (fun c174 => ?_)
    · have hf := iteT hf c174
      cases hf
      refine g_lv [] rfl ?_
      exact E0 rfl
    · have hf := iteF hf c174
      refine g_aload_n F dX4_firstFault_177 rfl 0 rfl ?_
      refine g_get F h_X4_firstFault_4 0 rfl rfl 4 (by decide) (by decide +kernel) rfl dX4_firstFault_178 ?_
      refine g_iconst (v := 4) F dX4_firstFault_181 rfl ?_
      refine g_iload_n F dX4_firstFault_182 rfl 1 rfl ?_
      refine g_imul F dX4_firstFault_183 ?_
      refine g_iload_n F dX4_firstFault_184 rfl 2 rfl ?_
      refine g_iadd F dX4_firstFault_185 ?_
      obtain ⟨h17, hf⟩ := ckE hf
      refine g_iald F 4 0 rfl rfl h17 dX4_firstFault_186 ?_
      obtain ⟨v18, ev18, hf⟩ := nmE hf
      refine g_nmi ev18 ?_
      refine g_istore (lv' := [(4, .int v18), (0, .ref a_p), (1, .int y1), (3, .int z3)]) F dX4_firstFault_187 (by decide) rfl ?_
      refine g_iload F dX4_firstFault_189 0 rfl ?_
      obtain ⟨o19, ho19, hf⟩ := bnE hf
      refine g_callSi (n := 1) (As := [.int v18]) F (c_X4_isNumber l dC dI cI cJ cH v18 o19 ho19) ggX4_firstFault_X4_isNumber rfl rfl rfl (by decide +kernel) (by decide +kernel) (by decide +kernel) (by decide +kernel) ⟨Nat.le_of_ble_eq_true rfl, Nat.le_of_ble_eq_true rfl⟩ ⟨Nat.le_of_ble_eq_true rfl, Nat.le_of_ble_eq_true rfl⟩ hN [] rfl rfl (fun _ => rfl) rfl (Nat.le_of_ble_eq_true rfl) rfl dX4_firstFault_191 (cells' := 0) (slots' := 0) rfl rfl (fun r u hp => ?_)
      subst hp
      refine g_ws (ws' := wMd cI a_p a_bases_p a_tops_p a_words_p a_roots_p a_order_p a_numbers_p a_image_p a_other_p a_input_p a_fresh_p a_freshRoots_p a_heads_p a_kept_p a_thrown a_bases a_tops a_words a_roots a_reached a_order a_numbers a_size a_image a_otherSize a_other a_waiting a_input a_at a_ended a_told a_many a_fresh a_freshRoots a_heads a_count a_kept) rfl ?_
      refine g_if_ne (tgt := 218) F dX4_firstFault_194 (by decide) (fun c194 => ?_) (fun c194 => ?_)
      · have hf := iteF hf c194
        obtain ⟨v20, ev20, hf⟩ := nmE hf
        refine g_iinc (j := 3) (lv' := [(3, .int v20), (4, .int v18), (0, .ref a_p), (1, .int y1)]) F dX4_firstFault_218 rfl ev20.symm (by decide) rfl ?_
        refine g_goto (tgt := 172) F dX4_firstFault_221 (by decide) ?_
        refine g_lv [2, 3, 0] rfl ?_
        exact ih _ o hf E0 E1
      · have hf := iteT hf c194
        refine g_iload F dX4_firstFault_197 0 rfl ?_
        refine g_if_eq (tgt := 218) F dX4_firstFault_199 (by decide) (fun c199 => ?_) (fun c199 => ?_)
        · have hf := iteT hf c199
          obtain ⟨v21, ev21, hf⟩ := nmE hf
          refine g_iinc (j := 3) (lv' := [(3, .int v21), (4, .int v18), (0, .ref a_p), (1, .int y1)]) F dX4_firstFault_218 rfl ev21.symm (by decide) rfl ?_
          refine g_goto (tgt := 172) F dX4_firstFault_221 (by decide) ?_
          refine g_lv [2, 3, 0] rfl ?_
          exact ih _ o hf E0 E1
        · have hf := iteF hf c199
          refine g_aload_n F dX4_firstFault_202 rfl 1 rfl ?_
          refine g_iload_n F dX4_firstFault_203 rfl 2 rfl ?_
          refine g_iload F dX4_firstFault_204 0 rfl ?_
          obtain ⟨o22, ho22, hf⟩ := bnE hf
          refine g_callPi (n := 2) (As := [.int y1, .int v18]) F (c_X4_isReference l dC dI cI cJ cH a_p a_bases_p a_tops_p a_words_p a_roots_p a_order_p a_numbers_p a_image_p a_other_p a_input_p a_fresh_p a_freshRoots_p a_heads_p a_kept_p a_thrown a_bases a_tops a_words a_roots a_reached a_order a_numbers a_size a_image a_otherSize a_other a_waiting a_input a_at a_ended a_told a_many a_fresh a_freshRoots a_heads a_count a_kept y1 v18 o22 ho22) ggX4_firstFault_X4_isReference rfl rfl rfl (by decide +kernel) (by decide +kernel) (by decide +kernel) (by decide +kernel) (by decide +kernel) ⟨Nat.le_of_ble_eq_true rfl, Nat.le_of_ble_eq_true rfl⟩ ⟨Nat.le_of_ble_eq_true rfl, Nat.le_of_ble_eq_true rfl⟩ hN 0 rfl rfl rfl ([]) ([]) rfl (fun _ => rfl) rfl (Nat.le_of_ble_eq_true rfl) rfl dX4_firstFault_206 (cells' := 0) (slots' := 0) rfl rfl (fun r u hp => ?_)
          subst hp
          refine g_ws (ws' := wMd cI a_p a_bases_p a_tops_p a_words_p a_roots_p a_order_p a_numbers_p a_image_p a_other_p a_input_p a_fresh_p a_freshRoots_p a_heads_p a_kept_p a_thrown a_bases a_tops a_words a_roots a_reached a_order a_numbers a_size a_image a_otherSize a_other a_waiting a_input a_at a_ended a_told a_many a_fresh a_freshRoots a_heads a_count a_kept) rfl ?_
          refine g_if_ne (tgt := 218) F dX4_firstFault_209 (by decide) (fun c209 => ?_) (fun c209 => ?_)
          · have hf := iteF hf c209
            obtain ⟨v23, ev23, hf⟩ := nmE hf
            refine g_iinc (j := 3) (lv' := [(3, .int v23), (4, .int v18), (0, .ref a_p), (1, .int y1)]) F dX4_firstFault_218 rfl ev23.symm (by decide) rfl ?_
            refine g_goto (tgt := 172) F dX4_firstFault_221 (by decide) ?_
            refine g_lv [2, 3, 0] rfl ?_
            exact ih _ o hf E0 E1
          · have hf := iteT hf c209
            cases hf
            refine g_lv [3] rfl ?_
            exact E1 rfl
def f_X4_firstFault (a_bases : (Nat → Int32)) (a_tops : (Nat → Int32)) (a_words : (Nat → Int32)) (a_roots : (Nat → Int32)) (x1 : Int32) : Option Int32 :=
  Option.bind (f_X4_firstFault_L2 a_tops a_words x1 FU (0 : Int32)) fun o5 => if o5.1 = 0 then Option.bind (f_X4_firstFault_L60 a_bases a_tops a_words x1 FU (0 : Int32)) fun o16 => if o16.1 = 0 then Option.bind (f_X4_firstFault_L172 a_bases a_tops a_words a_roots x1 FU (0 : Int32)) fun o24 => if o24.1 = 0 then some (0 : Int32) else some ((6000 : Int32) + o24.2) else some (((((1000 : Int32) * o16.2.2.2) + o16.2.1) + (1 : Int32)) + o16.2.2.1) else if o5.1 = 1 then some ((1000 : Int32) + o5.2) else some ((2000 : Int32) + o5.2)
set_option maxHeartbeats 4000000 in
set_option maxRecDepth 100000 in
theorem c_X4_firstFault (l : Launch) (dC : Nat → ClassId) (dI : Nat → Nat → Nat) (cI cJ cH : ClassId) (a_p a_bases_p a_tops_p a_words_p a_roots_p a_order_p a_numbers_p a_image_p a_other_p a_input_p a_fresh_p a_freshRoots_p a_heads_p a_kept_p : Nat)  (a_thrown : Int32) (a_bases : (Nat → Int32)) (a_tops : (Nat → Int32)) (a_words : (Nat → Int32)) (a_roots : (Nat → Int32)) (a_reached : Int32) (a_order : (Nat → Int32)) (a_numbers : (Nat → Int32)) (a_size : Int32) (a_image : (Nat → Int32)) (a_otherSize : Int32) (a_other : (Nat → Int32)) (a_waiting : Int32) (a_input : (Nat → Int32)) (a_at : Int32) (a_ended : Int32) (a_told : Int32) (a_many : Int32) (a_fresh : (Nat → Int32)) (a_freshRoots : (Nat → Int32)) (a_heads : (Nat → Int32)) (a_count : Int64) (a_kept : (Nat → Int32)) (x1 : Int32) (o : Int32) (hf : f_X4_firstFault a_bases a_tops a_words a_roots x1 = some o) : ∀ sz : Nat, Met l yX4_firstFault wsX4_firstFault rm_X4_firstFault (gPre [.ref a_p, .int x1] (dC, dI) vwCl (gT cI cJ cH) (wMd cI a_p a_bases_p a_tops_p a_words_p a_roots_p a_order_p a_numbers_p a_image_p a_other_p a_input_p a_fresh_p a_freshRoots_p a_heads_p a_kept_p a_thrown a_bases a_tops a_words a_roots a_reached a_order a_numbers a_size a_image a_otherSize a_other a_waiting a_input a_at a_ended a_told a_many a_fresh a_freshRoots a_heads a_count a_kept) sz) (va_Qi (fun (r : Int32) (u : Unit) => o = r) (gB (dC, dI) vwCl (gT cI cJ cH) (fun (u : Unit) => wMd cI a_p a_bases_p a_tops_p a_words_p a_roots_p a_order_p a_numbers_p a_image_p a_other_p a_input_p a_fresh_p a_freshRoots_p a_heads_p a_kept_p a_thrown a_bases a_tops a_words a_roots a_reached a_order a_numbers a_size a_image a_otherSize a_other a_waiting a_input a_at a_ended a_told a_many a_fresh a_freshRoots a_heads a_count a_kept) (va_A (wMd cI a_p a_bases_p a_tops_p a_words_p a_roots_p a_order_p a_numbers_p a_image_p a_other_p a_input_p a_fresh_p a_freshRoots_p a_heads_p a_kept_p a_thrown a_bases a_tops a_words a_roots a_reached a_order a_numbers a_size a_image a_otherSize a_other a_waiting a_input a_at a_ended a_told a_many a_fresh a_freshRoots a_heads a_count a_kept) sz)) (va_A (wMd cI a_p a_bases_p a_tops_p a_words_p a_roots_p a_order_p a_numbers_p a_image_p a_other_p a_input_p a_fresh_p a_freshRoots_p a_heads_p a_kept_p a_thrown a_bases a_tops a_words a_roots a_reached a_order a_numbers a_size a_image a_otherSize a_other a_waiting a_input a_at a_ended a_told a_many a_fresh a_freshRoots a_heads a_count a_kept) sz)) 0 0 (va_A (wMd cI a_p a_bases_p a_tops_p a_words_p a_roots_p a_order_p a_numbers_p a_image_p a_other_p a_input_p a_fresh_p a_freshRoots_p a_heads_p a_kept_p a_thrown a_bases a_tops a_words a_roots a_reached a_order a_numbers a_size a_image a_otherSize a_other a_waiting a_input a_at a_ended a_told a_many a_fresh a_freshRoots a_heads a_count a_kept) sz) := by
  refine g_met (fun A => va_Qi (fun (r : Int32) (u : Unit) => o = r) (gB (dC, dI) vwCl (gT cI cJ cH) (fun (u : Unit) => wMd cI a_p a_bases_p a_tops_p a_words_p a_roots_p a_order_p a_numbers_p a_image_p a_other_p a_input_p a_fresh_p a_freshRoots_p a_heads_p a_kept_p a_thrown a_bases a_tops a_words a_roots a_reached a_order a_numbers a_size a_image a_otherSize a_other a_waiting a_input a_at a_ended a_told a_many a_fresh a_freshRoots a_heads a_count a_kept) A) A) (by decide) rfl (Nat.le_of_ble_eq_true rfl) ?_
  intro p e s m args below meth c A Q F hlocks hr hname hN hQ
  unfold f_X4_firstFault at hf
  refine g_lvE (lv' := [(0, .ref a_p), (1, .int x1)]) rfl ?_
  refine g_iconst (v := 0) F dX4_firstFault_0 rfl ?_
  refine g_istore_n (lv' := [(2, .int (0 : Int32)), (0, .ref a_p), (1, .int x1)]) F dX4_firstFault_1 rfl (by decide) rfl ?_
  obtain ⟨o5, ho5, hf⟩ := bnE hf
  refine g_lv [1, 2, 0] rfl ?_
  refine w_X4_firstFault_L2 F hN FU _ o5 ho5 ?_ ?_ ?_
  · intro hk
    have hf := iteT hf hk
    refine g_iconst (v := 0) F dX4_firstFault_58 rfl ?_
    refine g_istore_n (lv' := [(2, .int (0 : Int32)), (0, .ref a_p), (1, .int x1)]) F dX4_firstFault_59 rfl (by decide) rfl ?_
    obtain ⟨o16, ho16, hf⟩ := bnE hf
    refine g_lv [1, 2, 0] rfl ?_
    refine w_X4_firstFault_L60 F hN FU _ o16 ho16 ?_ ?_
    · intro hk
      have hf := iteT hf hk
      refine g_iconst (v := 0) F dX4_firstFault_170 rfl ?_
      refine g_istore_n (lv' := [(3, .int (0 : Int32)), (0, .ref a_p), (1, .int x1)]) F dX4_firstFault_171 rfl (by decide) rfl ?_
      obtain ⟨o24, ho24, hf⟩ := bnE hf
      refine g_lv [1, 2, 0] rfl ?_
      refine w_X4_firstFault_L172 F hN FU _ o24 ho24 ?_ ?_
      · intro hk
        have hf := iteT hf hk
        refine g_iconst (v := 0) F dX4_firstFault_224 rfl ?_
        subst hQ
        exact g_iret F hlocks hr () rfl (Option.some.inj hf).symm dX4_firstFault_225
      · intro hk
        have hf := iteF hf (by rw [hk]; decide)
        refine g_sipush (v := 6000) F dX4_firstFault_212 rfl ?_
        refine g_iload_n F dX4_firstFault_215 rfl 0 rfl ?_
        refine g_iadd F dX4_firstFault_216 ?_
        subst hQ
        exact g_iret F hlocks hr () rfl (Option.some.inj hf).symm dX4_firstFault_217
    · intro hk
      have hf := iteF hf (by rw [hk]; decide)
      refine g_sipush (v := 1000) F dX4_firstFault_141 rfl ?_
      refine g_iload F dX4_firstFault_144 2 rfl ?_
      refine g_imul F dX4_firstFault_146 ?_
      refine g_iload_n F dX4_firstFault_147 rfl 0 rfl ?_
      refine g_iadd F dX4_firstFault_148 ?_
      refine g_iconst (v := 1) F dX4_firstFault_149 rfl ?_
      refine g_iadd F dX4_firstFault_150 ?_
      refine g_iload F dX4_firstFault_151 1 rfl ?_
      refine g_iadd F dX4_firstFault_153 ?_
      subst hQ
      exact g_iret F hlocks hr () rfl (Option.some.inj hf).symm dX4_firstFault_154
  · intro hk
    have hf := iteF hf (by rw [hk]; decide)
    have hf := iteT hf hk
    refine g_sipush (v := 1000) F dX4_firstFault_30 rfl ?_
    refine g_iload_n F dX4_firstFault_33 rfl 0 rfl ?_
    refine g_iadd F dX4_firstFault_34 ?_
    subst hQ
    exact g_iret F hlocks hr () rfl (Option.some.inj hf).symm dX4_firstFault_35
  · intro hk
    have hf := iteF hf (by rw [hk]; decide)
    have hf := iteF hf (by rw [hk]; decide)
    refine g_sipush (v := 2000) F dX4_firstFault_47 rfl ?_
    refine g_iload_n F dX4_firstFault_50 rfl 0 rfl ?_
    refine g_iadd F dX4_firstFault_51 ?_
    subst hQ
    exact g_iret F hlocks hr () rfl (Option.some.inj hf).symm dX4_firstFault_52

/-! HeapImagesModel.check(I)I -/
def rm_X4_check : Room := { frames := 7, cells := 0, slots := 0, locals := 160 }
theorem h_X4_check_4 : ∀ w ∈ wsX40, w ∈ wsX4_check := by decide +kernel
def f_X4_check (a_thrown : Int32) (a_bases : (Nat → Int32)) (a_tops : (Nat → Int32)) (a_words : (Nat → Int32)) (a_roots : (Nat → Int32)) (x1 : Int32) : Option (Int32 × Int32) :=
  Option.bind (f_X4_isHeap x1) fun o1 => Option.bind (α := Int32) (if o1 = 0 then some (1 : Int32) else some (0 : Int32)) fun j2 => if j2 = (1 : Int32) then some ((0 : Int32), j2) else Option.bind (f_X4_firstFault a_bases a_tops a_words a_roots x1) fun o3 => some (o3, j2)
set_option maxHeartbeats 4000000 in
set_option maxRecDepth 100000 in
theorem c_X4_check (l : Launch) (dC : Nat → ClassId) (dI : Nat → Nat → Nat) (cI cJ cH : ClassId) (a_p a_bases_p a_tops_p a_words_p a_roots_p a_order_p a_numbers_p a_image_p a_other_p a_input_p a_fresh_p a_freshRoots_p a_heads_p a_kept_p : Nat)  (a_thrown : Int32) (a_bases : (Nat → Int32)) (a_tops : (Nat → Int32)) (a_words : (Nat → Int32)) (a_roots : (Nat → Int32)) (a_reached : Int32) (a_order : (Nat → Int32)) (a_numbers : (Nat → Int32)) (a_size : Int32) (a_image : (Nat → Int32)) (a_otherSize : Int32) (a_other : (Nat → Int32)) (a_waiting : Int32) (a_input : (Nat → Int32)) (a_at : Int32) (a_ended : Int32) (a_told : Int32) (a_many : Int32) (a_fresh : (Nat → Int32)) (a_freshRoots : (Nat → Int32)) (a_heads : (Nat → Int32)) (a_count : Int64) (a_kept : (Nat → Int32)) (x1 : Int32) (o : (Int32 × Int32)) (hf : f_X4_check a_thrown a_bases a_tops a_words a_roots x1 = some o) : ∀ sz : Nat, Met l yX4_check wsX4_check rm_X4_check (gPre [.ref a_p, .int x1] (dC, dI) vwCl (gT cI cJ cH) (wMd cI a_p a_bases_p a_tops_p a_words_p a_roots_p a_order_p a_numbers_p a_image_p a_other_p a_input_p a_fresh_p a_freshRoots_p a_heads_p a_kept_p a_thrown a_bases a_tops a_words a_roots a_reached a_order a_numbers a_size a_image a_otherSize a_other a_waiting a_input a_at a_ended a_told a_many a_fresh a_freshRoots a_heads a_count a_kept) sz) (va_Qi (fun (r : Int32) (u : Int32) => o.1 = r ∧ o.2 = u) (gB (dC, dI) vwCl (gT cI cJ cH) (fun (u : Int32) => wMd cI a_p a_bases_p a_tops_p a_words_p a_roots_p a_order_p a_numbers_p a_image_p a_other_p a_input_p a_fresh_p a_freshRoots_p a_heads_p a_kept_p u a_bases a_tops a_words a_roots a_reached a_order a_numbers a_size a_image a_otherSize a_other a_waiting a_input a_at a_ended a_told a_many a_fresh a_freshRoots a_heads a_count a_kept) (va_A (wMd cI a_p a_bases_p a_tops_p a_words_p a_roots_p a_order_p a_numbers_p a_image_p a_other_p a_input_p a_fresh_p a_freshRoots_p a_heads_p a_kept_p a_thrown a_bases a_tops a_words a_roots a_reached a_order a_numbers a_size a_image a_otherSize a_other a_waiting a_input a_at a_ended a_told a_many a_fresh a_freshRoots a_heads a_count a_kept) sz)) (va_A (wMd cI a_p a_bases_p a_tops_p a_words_p a_roots_p a_order_p a_numbers_p a_image_p a_other_p a_input_p a_fresh_p a_freshRoots_p a_heads_p a_kept_p a_thrown a_bases a_tops a_words a_roots a_reached a_order a_numbers a_size a_image a_otherSize a_other a_waiting a_input a_at a_ended a_told a_many a_fresh a_freshRoots a_heads a_count a_kept) sz)) 0 0 (va_A (wMd cI a_p a_bases_p a_tops_p a_words_p a_roots_p a_order_p a_numbers_p a_image_p a_other_p a_input_p a_fresh_p a_freshRoots_p a_heads_p a_kept_p a_thrown a_bases a_tops a_words a_roots a_reached a_order a_numbers a_size a_image a_otherSize a_other a_waiting a_input a_at a_ended a_told a_many a_fresh a_freshRoots a_heads a_count a_kept) sz) := by
  refine g_met (fun A => va_Qi (fun (r : Int32) (u : Int32) => o.1 = r ∧ o.2 = u) (gB (dC, dI) vwCl (gT cI cJ cH) (fun (u : Int32) => wMd cI a_p a_bases_p a_tops_p a_words_p a_roots_p a_order_p a_numbers_p a_image_p a_other_p a_input_p a_fresh_p a_freshRoots_p a_heads_p a_kept_p u a_bases a_tops a_words a_roots a_reached a_order a_numbers a_size a_image a_otherSize a_other a_waiting a_input a_at a_ended a_told a_many a_fresh a_freshRoots a_heads a_count a_kept) A) A) (by decide) rfl (Nat.le_of_ble_eq_true rfl) ?_
  intro p e s m args below meth c A Q F hlocks hr hname hN hQ
  unfold f_X4_check at hf
  refine g_lvE (lv' := [(0, .ref a_p), (1, .int x1)]) rfl ?_
  refine g_aload_n F dX4_check_0 rfl 0 rfl ?_
  refine g_iload_n F dX4_check_1 rfl 1 rfl ?_
  obtain ⟨o1, ho1, hf⟩ := bnE hf
  refine g_callSi (n := 1) (As := [.int x1]) F (c_X4_isHeap l dC dI cI cJ cH x1 o1 ho1) ggX4_check_X4_isHeap rfl rfl rfl (by decide +kernel) (by decide +kernel) (by decide +kernel) (by decide +kernel) ⟨Nat.le_of_ble_eq_true rfl, Nat.le_of_ble_eq_true rfl⟩ ⟨Nat.le_of_ble_eq_true rfl, Nat.le_of_ble_eq_true rfl⟩ hN [] rfl rfl (fun _ => rfl) rfl (Nat.le_of_ble_eq_true rfl) rfl dX4_check_2 (cells' := 0) (slots' := 0) rfl rfl (fun r u hp => ?_)
  subst hp
  refine g_ws (ws' := wMd cI a_p a_bases_p a_tops_p a_words_p a_roots_p a_order_p a_numbers_p a_image_p a_other_p a_input_p a_fresh_p a_freshRoots_p a_heads_p a_kept_p a_thrown a_bases a_tops a_words a_roots a_reached a_order a_numbers a_size a_image a_otherSize a_other a_waiting a_input a_at a_ended a_told a_many a_fresh a_freshRoots a_heads a_count a_kept) rfl ?_
  obtain ⟨j2, hj2, hf⟩ := bnE hf
  have Kj2 : gW p l e rm_X4_check s m args below meth c 0 0 Q (dC, dI) vwCl A 2 (wMd cI a_p a_bases_p a_tops_p a_words_p a_roots_p a_order_p a_numbers_p a_image_p a_other_p a_input_p a_fresh_p a_freshRoots_p a_heads_p a_kept_p a_thrown a_bases a_tops a_words a_roots a_reached a_order a_numbers a_size a_image a_otherSize a_other a_waiting a_input a_at a_ended a_told a_many a_fresh a_freshRoots a_heads a_count a_kept) [(0, .ref a_p), (1, .int x1)] 13 [.int j2, .ref a_p] := by
    refine g_put F h_X4_check_4 tyX4 tyX4_ok nmX4 0 rfl rfl 0 (by decide) (by decide +kernel) rfl rfl rfl (Nat.le_of_ble_eq_true rfl) dX4_check_13 (ws' := wMd cI a_p a_bases_p a_tops_p a_words_p a_roots_p a_order_p a_numbers_p a_image_p a_other_p a_input_p a_fresh_p a_freshRoots_p a_heads_p a_kept_p j2 a_bases a_tops a_words a_roots a_reached a_order a_numbers a_size a_image a_otherSize a_other a_waiting a_input a_at a_ended a_told a_many a_fresh a_freshRoots a_heads a_count a_kept) rfl ?_
    refine g_aload_n F dX4_check_16 rfl 0 rfl ?_
    refine g_get F h_X4_check_4 0 rfl rfl 0 (by decide) (by decide +kernel) rfl dX4_check_17 ?_
    refine g_iconst (v := 1) F dX4_check_20 rfl ?_
    refine g_icmp_ne (tgt := 28) F dX4_check_21 (by decide) (fun c21 => ?_) (fun c21 => ?_)
    · have hf := iteF hf c21
      refine g_aload_n F dX4_check_28 rfl 0 rfl ?_
      refine g_iload_n F dX4_check_29 rfl 1 rfl ?_
      obtain ⟨o3, ho3, hf⟩ := bnE hf
      refine g_callPi (n := 1) (As := [.int x1]) F (c_X4_firstFault l dC dI cI cJ cH a_p a_bases_p a_tops_p a_words_p a_roots_p a_order_p a_numbers_p a_image_p a_other_p a_input_p a_fresh_p a_freshRoots_p a_heads_p a_kept_p j2 a_bases a_tops a_words a_roots a_reached a_order a_numbers a_size a_image a_otherSize a_other a_waiting a_input a_at a_ended a_told a_many a_fresh a_freshRoots a_heads a_count a_kept x1 o3 ho3) ggX4_check_X4_firstFault rfl rfl rfl (by decide +kernel) (by decide +kernel) (by decide +kernel) (by decide +kernel) (by decide +kernel) ⟨Nat.le_of_ble_eq_true rfl, Nat.le_of_ble_eq_true rfl⟩ ⟨Nat.le_of_ble_eq_true rfl, Nat.le_of_ble_eq_true rfl⟩ hN 0 rfl rfl rfl ([]) ([]) rfl (fun _ => rfl) rfl (Nat.le_of_ble_eq_true rfl) rfl dX4_check_30 (cells' := 0) (slots' := 0) rfl rfl (fun r u hp => ?_)
      subst hp
      refine g_ws (ws' := wMd cI a_p a_bases_p a_tops_p a_words_p a_roots_p a_order_p a_numbers_p a_image_p a_other_p a_input_p a_fresh_p a_freshRoots_p a_heads_p a_kept_p j2 a_bases a_tops a_words a_roots a_reached a_order a_numbers a_size a_image a_otherSize a_other a_waiting a_input a_at a_ended a_told a_many a_fresh a_freshRoots a_heads a_count a_kept) rfl ?_
      subst hQ
      exact g_iret F hlocks hr j2 rfl (pr2 (Option.some.inj hf)) dX4_check_33
    · have hf := iteT hf c21
      refine g_iconst (v := 0) F dX4_check_24 rfl ?_
      refine g_goto (tgt := 33) F dX4_check_25 (by decide) ?_
      subst hQ
      exact g_iret F hlocks hr j2 rfl (pr2 (Option.some.inj hf)) dX4_check_33
  clear hf
  have hf := hj2
  refine g_if_eq (tgt := 12) F dX4_check_5 (by decide) (fun c5 => ?_) (fun c5 => ?_)
  · have hf := iteT hf c5
    refine g_iconst (v := 1) F dX4_check_12 rfl ?_
    cases hf
    refine g_lv [0, 1] rfl ?_
    exact Kj2
  · have hf := iteF hf c5
    refine g_iconst (v := 0) F dX4_check_8 rfl ?_
    refine g_goto (tgt := 13) F dX4_check_9 (by decide) ?_
    cases hf
    refine g_lv [0, 1] rfl ?_
    exact Kj2
