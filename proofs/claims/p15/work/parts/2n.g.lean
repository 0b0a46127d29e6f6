/-! HeapImagesModel.makeImage(I)V -/
def rm_X4_makeImage : Room := { frames := 3, cells := 0, slots := 0, locals := 69 }
theorem h_X4_makeImage_4 : ∀ w ∈ wsX40, w ∈ wsX4_makeImage := by decide +kernel
def f_X4_makeImage_L38_s (a_bases : (Nat → Int32)) (a_roots : (Nat → Int32)) (a_numbers : (Nat → Int32)) (y1 : Int32) (rc : Int32 → Int32 → (Nat → Int32) → Option (Int32 × (Nat → Int32))) (z2 : Int32) (a_size : Int32) (a_image : (Nat → Int32)) : Option (Int32 × (Nat → Int32)) :=
  if (4 : Int32) ≤ z2 then some (a_size, a_image) else ck (inR (((4 : Int32) * y1) + z2) 8) (Option.bind (f_X4_putValue a_bases a_numbers a_size a_image y1 (a_roots (((4 : Int32) * y1) + z2).toNatClampNeg)) fun o7 => nm (z2 + (1 : Int32)) fun v8 => rc v8 o7.1 o7.2)
def f_X4_makeImage_L38 (a_bases : (Nat → Int32)) (a_roots : (Nat → Int32)) (a_numbers : (Nat → Int32)) (y1 : Int32) : Nat → Int32 → Int32 → (Nat → Int32) → Option (Int32 × (Nat → Int32))
  | 0, _, _, _ => none
  | n + 1, z2, a_size, a_image => f_X4_makeImage_L38_s a_bases a_roots a_numbers y1 (f_X4_makeImage_L38 a_bases a_roots a_numbers y1 n) z2 a_size a_image
set_option maxHeartbeats 4000000 in
theorem w_X4_makeImage_L38 {p : Program} {l : Launch} {e : Env} {s : State} {m : MethodId} {args : Array Value} {below : List Frame} {meth : Method} {c : Code} {A : Nat → Prop} {Q : State → Prop} {dC : Nat → ClassId} {dI : Nat → Nat → Nat} {cI cJ cH : ClassId} {a_p a_bases_p a_tops_p a_words_p a_roots_p a_order_p a_numbers_p a_image_p a_other_p a_input_p a_fresh_p a_freshRoots_p a_heads_p a_kept_p : Nat} {a_thrown : Int32} {a_bases : (Nat → Int32)} {a_tops : (Nat → Int32)} {a_words : (Nat → Int32)} {a_roots : (Nat → Int32)} {a_reached : Int32} {a_order : (Nat → Int32)} {a_numbers : (Nat → Int32)} {a_otherSize : Int32} {a_other : (Nat → Int32)} {a_waiting : Int32} {a_input : (Nat → Int32)} {a_at : Int32} {a_ended : Int32} {a_told : Int32} {a_many : Int32} {a_fresh : (Nat → Int32)} {a_freshRoots : (Nat → Int32)} {a_heads : (Nat → Int32)} {a_count : Int64} {a_kept : (Nat → Int32)} {y1 : Int32} (F : gF p m c cX4_makeImage 6 s args wsX4_makeImage yX4_makeImage.cls (dC, dI) vwCl (gT cI cJ cH) A) (hN : ∀ w ∈ gN, va_Nw w s) : ∀ (n : Nat) (z2 : Int32) (a_size : Int32) (a_image : (Nat → Int32)) (o : (Int32 × (Nat → Int32))), f_X4_makeImage_L38 a_bases a_roots a_numbers y1 n z2 a_size a_image = some o → (gW p l e rm_X4_makeImage s m args below meth c 0 0 Q (dC, dI) vwCl A 6 (wMd cI a_p a_bases_p a_tops_p a_words_p a_roots_p a_order_p a_numbers_p a_image_p a_other_p a_input_p a_fresh_p a_freshRoots_p a_heads_p a_kept_p a_thrown a_bases a_tops a_words a_roots a_reached a_order a_numbers o.1 o.2 a_otherSize a_other a_waiting a_input a_at a_ended a_told a_many a_fresh a_freshRoots a_heads a_count a_kept) [(0, .ref a_p), (1, .int y1)] 64 []) → gW p l e rm_X4_makeImage s m args below meth c 0 0 Q (dC, dI) vwCl A 6 (wMd cI a_p a_bases_p a_tops_p a_words_p a_roots_p a_order_p a_numbers_p a_image_p a_other_p a_input_p a_fresh_p a_freshRoots_p a_heads_p a_kept_p a_thrown a_bases a_tops a_words a_roots a_reached a_order a_numbers a_size a_image a_otherSize a_other a_waiting a_input a_at a_ended a_told a_many a_fresh a_freshRoots a_heads a_count a_kept) [(0, .ref a_p), (1, .int y1), (2, .int z2)] 38 [] := by
  intro n
  induction n with
  | zero =>
    intro z2 a_size a_image o hf E0
    change none = some o at hf
    cases hf
  | succ n ih =>
    intro z2 a_size a_image o hf E0
    change f_X4_makeImage_L38_s a_bases a_roots a_numbers y1 (f_X4_makeImage_L38 a_bases a_roots a_numbers y1 n) z2 a_size a_image = some o at hf
    unfold f_X4_makeImage_L38_s at hf
    refine g_iload_n F dX4_makeImage_38 rfl 2 rfl ?_
    refine g_iconst (v := 4) F dX4_makeImage_39 rfl ?_
    refine g_icmp_ge (tgt := 64) F dX4_makeImage_40 (by decide) (fun c40 => ?_) (fun c40 => ?_)
    · have hf := iteT hf c40
      cases hf
      refine g_lv [0, 1] rfl ?_
      exact E0
    · have hf := iteF hf c40
      refine g_aload_n F dX4_makeImage_43 rfl 0 rfl ?_
      refine g_iload_n F dX4_makeImage_44 rfl 1 rfl ?_
      refine g_aload_n F dX4_makeImage_45 rfl 0 rfl ?_
      refine g_get F h_X4_makeImage_4 0 rfl rfl 4 (by decide) (by decide +kernel) rfl dX4_makeImage_46 ?_
      refine g_iconst (v := 4) F dX4_makeImage_49 rfl ?_
      refine g_iload_n F dX4_makeImage_50 rfl 1 rfl ?_
      refine g_imul F dX4_makeImage_51 ?_
      refine g_iload_n F dX4_makeImage_52 rfl 2 rfl ?_
      refine g_iadd F dX4_makeImage_53 ?_
      obtain ⟨h6, hf⟩ := ckE hf
      refine g_iald F 4 0 rfl rfl h6 dX4_makeImage_54 ?_
      obtain ⟨o7, ho7, hf⟩ := bnE hf
      refine g_callPv (n := 2) (As := [.int y1, .int (a_roots (((4 : Int32) * y1) + z2).toNatClampNeg)]) F (c_X4_putValue l dC dI cI cJ cH a_p a_bases_p a_tops_p a_words_p a_roots_p a_order_p a_numbers_p a_image_p a_other_p a_input_p a_fresh_p a_freshRoots_p a_heads_p a_kept_p a_thrown a_bases a_tops a_words a_roots a_reached a_order a_numbers a_size a_image a_otherSize a_other a_waiting a_input a_at a_ended a_told a_many a_fresh a_freshRoots a_heads a_count a_kept y1 (a_roots (((4 : Int32) * y1) + z2).toNatClampNeg) o7 ho7) ggX4_makeImage_X4_putValue rfl rfl rfl (by decide +kernel) (by decide +kernel) (by decide +kernel) (by decide +kernel) (by decide +kernel) ⟨Nat.le_of_ble_eq_true rfl, Nat.le_of_ble_eq_true rfl⟩ ⟨Nat.le_of_ble_eq_true rfl, Nat.le_of_ble_eq_true rfl⟩ hN 0 rfl rfl rfl ([]) ([]) rfl (fun _ => rfl) rfl (Nat.le_of_ble_eq_true rfl) rfl dX4_makeImage_55 (cells' := 0) (slots' := 0) rfl rfl (fun u hp => ?_)
      subst hp
      refine g_ws (ws' := wMd cI a_p a_bases_p a_tops_p a_words_p a_roots_p a_order_p a_numbers_p a_image_p a_other_p a_input_p a_fresh_p a_freshRoots_p a_heads_p a_kept_p a_thrown a_bases a_tops a_words a_roots a_reached a_order a_numbers o7.1 o7.2 a_otherSize a_other a_waiting a_input a_at a_ended a_told a_many a_fresh a_freshRoots a_heads a_count a_kept) rfl ?_
      obtain ⟨v8, ev8, hf⟩ := nmE hf
      refine g_iinc (j := 2) (lv' := [(2, .int v8), (0, .ref a_p), (1, .int y1)]) F dX4_makeImage_58 rfl ev8.symm (by decide) rfl ?_
      refine g_goto (tgt := 38) F dX4_makeImage_61 (by decide) ?_
      refine g_lv [1, 2, 0] rfl ?_
      exact ih _ _ _ o hf E0
def f_X4_makeImage_L104_s (a_bases : (Nat → Int32)) (a_words : (Nat → Int32)) (a_numbers : (Nat → Int32)) (y1 : Int32) (y2 : Int32) (y3 : Int32) (rc : Int32 → Int32 → (Nat → Int32) → Option (Int32 × (Nat → Int32))) (z4 : Int32) (a_size : Int32) (a_image : (Nat → Int32)) : Option (Int32 × (Nat → Int32)) :=
  Option.bind (f_X4_slotsAt a_words y1 y3) fun o16 => if o16 ≤ z4 then some (a_size, a_image) else ck (inR (((((256 : Int32) * y1) + y3) + (1 : Int32)) + z4) 512) (nm (a_words (((((256 : Int32) * y1) + y3) + (1 : Int32)) + z4).toNatClampNeg) fun v18 => Option.bind (f_X4_kindAt a_words y1 y3) fun o19 => if o19 = (2 : Int32) then Option.bind (f_X4_put a_size a_image (v18 &&& (255 : Int32))) fun o22 => Option.bind (f_X4_put o22.1 o22.2 ((v18 >>> ((8 : Int32) &&& 31)) &&& (255 : Int32))) fun o23 => Option.bind (f_X4_put o23.1 o23.2 ((v18 >>> ((16 : Int32) &&& 31)) &&& (255 : Int32))) fun o24 => Option.bind (f_X4_put o24.1 o24.2 ((v18 >>> ((24 : Int32) &&& 31)) &&& (255 : Int32))) fun o25 => nm (z4 + (1 : Int32)) fun v26 => rc v26 o25.1 o25.2 else Option.bind (f_X4_putValue a_bases a_numbers a_size a_image y1 v18) fun o20 => nm (z4 + (1 : Int32)) fun v21 => rc v21 o20.1 o20.2)
def f_X4_makeImage_L104 (a_bases : (Nat → Int32)) (a_words : (Nat → Int32)) (a_numbers : (Nat → Int32)) (y1 : Int32) (y2 : Int32) (y3 : Int32) : Nat → Int32 → Int32 → (Nat → Int32) → Option (Int32 × (Nat → Int32))
  | 0, _, _, _ => none
  | n + 1, z4, a_size, a_image => f_X4_makeImage_L104_s a_bases a_words a_numbers y1 y2 y3 (f_X4_makeImage_L104 a_bases a_words a_numbers y1 y2 y3 n) z4 a_size a_image
set_option maxHeartbeats 4000000 in
theorem w_X4_makeImage_L104 {p : Program} {l : Launch} {e : Env} {s : State} {m : MethodId} {args : Array Value} {below : List Frame} {meth : Method} {c : Code} {A : Nat → Prop} {Q : State → Prop} {dC : Nat → ClassId} {dI : Nat → Nat → Nat} {cI cJ cH : ClassId} {a_p a_bases_p a_tops_p a_words_p a_roots_p a_order_p a_numbers_p a_image_p a_other_p a_input_p a_fresh_p a_freshRoots_p a_heads_p a_kept_p : Nat} {a_thrown : Int32} {a_bases : (Nat → Int32)} {a_tops : (Nat → Int32)} {a_words : (Nat → Int32)} {a_roots : (Nat → Int32)} {a_reached : Int32} {a_order : (Nat → Int32)} {a_numbers : (Nat → Int32)} {a_otherSize : Int32} {a_other : (Nat → Int32)} {a_waiting : Int32} {a_input : (Nat → Int32)} {a_at : Int32} {a_ended : Int32} {a_told : Int32} {a_many : Int32} {a_fresh : (Nat → Int32)} {a_freshRoots : (Nat → Int32)} {a_heads : (Nat → Int32)} {a_count : Int64} {a_kept : (Nat → Int32)} {y1 : Int32} {y2 : Int32} {y3 : Int32} (F : gF p m c cX4_makeImage 6 s args wsX4_makeImage yX4_makeImage.cls (dC, dI) vwCl (gT cI cJ cH) A) (hN : ∀ w ∈ gN, va_Nw w s) : ∀ (n : Nat) (z4 : Int32) (a_size : Int32) (a_image : (Nat → Int32)) (o : (Int32 × (Nat → Int32))), f_X4_makeImage_L104 a_bases a_words a_numbers y1 y2 y3 n z4 a_size a_image = some o → (gW p l e rm_X4_makeImage s m args below meth c 0 0 Q (dC, dI) vwCl A 6 (wMd cI a_p a_bases_p a_tops_p a_words_p a_roots_p a_order_p a_numbers_p a_image_p a_other_p a_input_p a_fresh_p a_freshRoots_p a_heads_p a_kept_p a_thrown a_bases a_tops a_words a_roots a_reached a_order a_numbers o.1 o.2 a_otherSize a_other a_waiting a_input a_at a_ended a_told a_many a_fresh a_freshRoots a_heads a_count a_kept) [(0, .ref a_p), (1, .int y1), (2, .int y2)] 209 []) → gW p l e rm_X4_makeImage s m args below meth c 0 0 Q (dC, dI) vwCl A 6 (wMd cI a_p a_bases_p a_tops_p a_words_p a_roots_p a_order_p a_numbers_p a_image_p a_other_p a_input_p a_fresh_p a_freshRoots_p a_heads_p a_kept_p a_thrown a_bases a_tops a_words a_roots a_reached a_order a_numbers a_size a_image a_otherSize a_other a_waiting a_input a_at a_ended a_told a_many a_fresh a_freshRoots a_heads a_count a_kept) [(0, .ref a_p), (1, .int y1), (2, .int y2), (3, .int y3), (4, .int z4)] 104 [] := by
  intro n
  induction n with
  | zero =>
    intro z4 a_size a_image o hf E0
    change none = some o at hf
    cases hf
  | succ n ih =>
    intro z4 a_size a_image o hf E0
    change f_X4_makeImage_L104_s a_bases a_words a_numbers y1 y2 y3 (f_X4_makeImage_L104 a_bases a_words a_numbers y1 y2 y3 n) z4 a_size a_image = some o at hf
    unfold f_X4_makeImage_L104_s at hf
    refine g_iload F dX4_makeImage_104 4 rfl ?_
    refine g_aload_n F dX4_makeImage_106 rfl 0 rfl ?_
    refine g_iload_n F dX4_makeImage_107 rfl 1 rfl ?_
    refine g_iload_n F dX4_makeImage_108 rfl 3 rfl ?_
    obtain ⟨o16, ho16, hf⟩ := bnE hf
    refine g_callPi (n := 2) (As := [.int y1, .int y3]) F (c_X4_slotsAt l dC dI cI cJ cH a_p a_bases_p a_tops_p a_words_p a_roots_p a_order_p a_numbers_p a_image_p a_other_p a_input_p a_fresh_p a_freshRoots_p a_heads_p a_kept_p a_thrown a_bases a_tops a_words a_roots a_reached a_order a_numbers a_size a_image a_otherSize a_other a_waiting a_input a_at a_ended a_told a_many a_fresh a_freshRoots a_heads a_count a_kept y1 y3 o16 ho16) ggX4_makeImage_X4_slotsAt rfl rfl rfl (by decide +kernel) (by decide +kernel) (by decide +kernel) (by decide +kernel) (by decide +kernel) ⟨Nat.le_of_ble_eq_true rfl, Nat.le_of_ble_eq_true rfl⟩ ⟨Nat.le_of_ble_eq_true rfl, Nat.le_of_ble_eq_true rfl⟩ hN 0 rfl rfl rfl ([]) ([]) rfl (fun _ => rfl) rfl (Nat.le_of_ble_eq_true rfl) rfl dX4_makeImage_109 (cells' := 0) (slots' := 0) rfl rfl (fun r u hp => ?_)
    subst hp
    refine g_ws (ws' := wMd cI a_p a_bases_p a_tops_p a_words_p a_roots_p a_order_p a_numbers_p a_image_p a_other_p a_input_p a_fresh_p a_freshRoots_p a_heads_p a_kept_p a_thrown a_bases a_tops a_words a_roots a_reached a_order a_numbers a_size a_image a_otherSize a_other a_waiting a_input a_at a_ended a_told a_many a_fresh a_freshRoots a_heads a_count a_kept) rfl ?_
    refine g_icmp_ge (tgt := 209) F dX4_makeImage_112 (by decide) (fun c112 => ?_) (fun c112 => ?_)
    · have hf := iteT hf c112
      cases hf
      refine g_lv [0, 1, 2] rfl ?_
      exact E0
    · have hf := iteF hf c112
      refine g_aload_n F dX4_makeImage_115 rfl 0 rfl ?_
      refine g_get F h_X4_makeImage_4 0 rfl rfl 3 (by decide) (by decide +kernel) rfl dX4_makeImage_116 ?_
      refine g_sipush (v := 256) F dX4_makeImage_119 rfl ?_
      refine g_iload_n F dX4_makeImage_122 rfl 1 rfl ?_
      refine g_imul F dX4_makeImage_123 ?_
      refine g_iload_n F dX4_makeImage_124 rfl 3 rfl ?_
      refine g_iadd F dX4_makeImage_125 ?_
      refine g_iconst (v := 1) F dX4_makeImage_126 rfl ?_
      refine g_iadd F dX4_makeImage_127 ?_
      refine g_iload F dX4_makeImage_128 4 rfl ?_
      refine g_iadd F dX4_makeImage_130 ?_
      obtain ⟨h17, hf⟩ := ckE hf
      refine g_iald F 3 0 rfl rfl h17 dX4_makeImage_131 ?_
      obtain ⟨v18, ev18, hf⟩ := nmE hf
      refine g_nmi ev18 ?_
      refine g_istore (lv' := [(5, .int v18), (0, .ref a_p), (1, .int y1), (2, .int y2), (3, .int y3), (4, .int z4)]) F dX4_makeImage_132 (by decide) rfl ?_
      refine g_aload_n F dX4_makeImage_134 rfl 1 rfl ?_
      refine g_iload_n F dX4_makeImage_135 rfl 2 rfl ?_
      refine g_iload_n F dX4_makeImage_136 rfl 4 rfl ?_
      obtain ⟨o19, ho19, hf⟩ := bnE hf
      refine g_callPi (n := 2) (As := [.int y1, .int y3]) F (c_X4_kindAt l dC dI cI cJ cH a_p a_bases_p a_tops_p a_words_p a_roots_p a_order_p a_numbers_p a_image_p a_other_p a_input_p a_fresh_p a_freshRoots_p a_heads_p a_kept_p a_thrown a_bases a_tops a_words a_roots a_reached a_order a_numbers a_size a_image a_otherSize a_other a_waiting a_input a_at a_ended a_told a_many a_fresh a_freshRoots a_heads a_count a_kept y1 y3 o19 ho19) ggX4_makeImage_X4_kindAt rfl rfl rfl (by decide +kernel) (by decide +kernel) (by decide +kernel) (by decide +kernel) (by decide +kernel) ⟨Nat.le_of_ble_eq_true rfl, Nat.le_of_ble_eq_true rfl⟩ ⟨Nat.le_of_ble_eq_true rfl, Nat.le_of_ble_eq_true rfl⟩ hN 0 rfl rfl rfl ([]) ([]) rfl (fun _ => rfl) rfl (Nat.le_of_ble_eq_true rfl) rfl dX4_makeImage_137 (cells' := 0) (slots' := 0) rfl rfl (fun r u hp => ?_)
      subst hp
      refine g_ws (ws' := wMd cI a_p a_bases_p a_tops_p a_words_p a_roots_p a_order_p a_numbers_p a_image_p a_other_p a_input_p a_fresh_p a_freshRoots_p a_heads_p a_kept_p a_thrown a_bases a_tops a_words a_roots a_reached a_order a_numbers a_size a_image a_otherSize a_other a_waiting a_input a_at a_ended a_told a_many a_fresh a_freshRoots a_heads a_count a_kept) rfl ?_
      refine g_iconst (v := 2) F dX4_makeImage_140 rfl ?_
      refine g_icmp_ne (tgt := 196) F dX4_makeImage_141 (by decide) (fun c141 => ?_) (fun c141 => ?_)
      · have hf := iteF hf c141
        refine g_aload_n F dX4_makeImage_196 rfl 1 rfl ?_
        refine g_iload_n F dX4_makeImage_197 rfl 2 rfl ?_
        refine g_iload F dX4_makeImage_198 0 rfl ?_
        obtain ⟨o20, ho20, hf⟩ := bnE hf
        refine g_callPv (n := 2) (As := [.int y1, .int v18]) F (c_X4_putValue l dC dI cI cJ cH a_p a_bases_p a_tops_p a_words_p a_roots_p a_order_p a_numbers_p a_image_p a_other_p a_input_p a_fresh_p a_freshRoots_p a_heads_p a_kept_p a_thrown a_bases a_tops a_words a_roots a_reached a_order a_numbers a_size a_image a_otherSize a_other a_waiting a_input a_at a_ended a_told a_many a_fresh a_freshRoots a_heads a_count a_kept y1 v18 o20 ho20) ggX4_makeImage_X4_putValue rfl rfl rfl (by decide +kernel) (by decide +kernel) (by decide +kernel) (by decide +kernel) (by decide +kernel) ⟨Nat.le_of_ble_eq_true rfl, Nat.le_of_ble_eq_true rfl⟩ ⟨Nat.le_of_ble_eq_true rfl, Nat.le_of_ble_eq_true rfl⟩ hN 0 rfl rfl rfl ([]) ([]) rfl (fun _ => rfl) rfl (Nat.le_of_ble_eq_true rfl) rfl dX4_makeImage_200 (cells' := 0) (slots' := 0) rfl rfl (fun u hp => ?_)
        subst hp
        refine g_ws (ws' := wMd cI a_p a_bases_p a_tops_p a_words_p a_roots_p a_order_p a_numbers_p a_image_p a_other_p a_input_p a_fresh_p a_freshRoots_p a_heads_p a_kept_p a_thrown a_bases a_tops a_words a_roots a_reached a_order a_numbers o20.1 o20.2 a_otherSize a_other a_waiting a_input a_at a_ended a_told a_many a_fresh a_freshRoots a_heads a_count a_kept) rfl ?_
        obtain ⟨v21, ev21, hf⟩ := nmE hf
        refine g_iinc (j := 5) (lv' := [(4, .int v21), (5, .int v18), (0, .ref a_p), (1, .int y1), (2, .int y2), (3, .int y3)]) F dX4_makeImage_203 rfl ev21.symm (by decide) rfl ?_
        refine g_goto (tgt := 104) F dX4_makeImage_206 (by decide) ?_
        refine g_lv [2, 3, 4, 5, 0] rfl ?_
        exact ih _ _ _ o hf E0
      · have hf := iteT hf c141
        refine g_aload_n F dX4_makeImage_144 rfl 1 rfl ?_
        refine g_iload F dX4_makeImage_145 0 rfl ?_
        refine g_sipush (v := 255) F dX4_makeImage_147 rfl ?_
        refine g_iand F dX4_makeImage_150 ?_
        obtain ⟨o22, ho22, hf⟩ := bnE hf
        refine g_callPv (n := 1) (As := [.int (v18 &&& (255 : Int32))]) F (c_X4_put l dC dI cI cJ cH a_p a_bases_p a_tops_p a_words_p a_roots_p a_order_p a_numbers_p a_image_p a_other_p a_input_p a_fresh_p a_freshRoots_p a_heads_p a_kept_p a_thrown a_bases a_tops a_words a_roots a_reached a_order a_numbers a_size a_image a_otherSize a_other a_waiting a_input a_at a_ended a_told a_many a_fresh a_freshRoots a_heads a_count a_kept (v18 &&& (255 : Int32)) o22 ho22) ggX4_makeImage_X4_put rfl rfl rfl (by decide +kernel) (by decide +kernel) (by decide +kernel) (by decide +kernel) (by decide +kernel) ⟨Nat.le_of_ble_eq_true rfl, Nat.le_of_ble_eq_true rfl⟩ ⟨Nat.le_of_ble_eq_true rfl, Nat.le_of_ble_eq_true rfl⟩ hN 0 rfl rfl rfl ([]) ([]) rfl (fun _ => rfl) rfl (Nat.le_of_ble_eq_true rfl) rfl dX4_makeImage_151 (cells' := 0) (slots' := 0) rfl rfl (fun u hp => ?_)
        subst hp
        refine g_ws (ws' := wMd cI a_p a_bases_p a_tops_p a_words_p a_roots_p a_order_p a_numbers_p a_image_p a_other_p a_input_p a_fresh_p a_freshRoots_p a_heads_p a_kept_p a_thrown a_bases a_tops a_words a_roots a_reached a_order a_numbers o22.1 o22.2 a_otherSize a_other a_waiting a_input a_at a_ended a_told a_many a_fresh a_freshRoots a_heads a_count a_kept) rfl ?_
        refine g_aload_n F dX4_makeImage_154 rfl 1 rfl ?_
        refine g_iload F dX4_makeImage_155 0 rfl ?_
        refine g_bipush (v := 8) F dX4_makeImage_157 rfl ?_
        refine g_ishr F dX4_makeImage_159 ?_
        refine g_sipush (v := 255) F dX4_makeImage_160 rfl ?_
        refine g_iand F dX4_makeImage_163 ?_
        obtain ⟨o23, ho23, hf⟩ := bnE hf
        refine g_callPv (n := 1) (As := [.int ((v18 >>> ((8 : Int32) &&& 31)) &&& (255 : Int32))]) F (c_X4_put l dC dI cI cJ cH a_p a_bases_p a_tops_p a_words_p a_roots_p a_order_p a_numbers_p a_image_p a_other_p a_input_p a_fresh_p a_freshRoots_p a_heads_p a_kept_p a_thrown a_bases a_tops a_words a_roots a_reached a_order a_numbers o22.1 o22.2 a_otherSize a_other a_waiting a_input a_at a_ended a_told a_many a_fresh a_freshRoots a_heads a_count a_kept ((v18 >>> ((8 : Int32) &&& 31)) &&& (255 : Int32)) o23 ho23) ggX4_makeImage_X4_put rfl rfl rfl (by decide +kernel) (by decide +kernel) (by decide +kernel) (by decide +kernel) (by decide +kernel) ⟨Nat.le_of_ble_eq_true rfl, Nat.le_of_ble_eq_true rfl⟩ ⟨Nat.le_of_ble_eq_true rfl, Nat.le_of_ble_eq_true rfl⟩ hN 0 rfl rfl rfl ([]) ([]) rfl (fun _ => rfl) rfl (Nat.le_of_ble_eq_true rfl) rfl dX4_makeImage_164 (cells' := 0) (slots' := 0) rfl rfl (fun u hp => ?_)
        subst hp
        refine g_ws (ws' := wMd cI a_p a_bases_p a_tops_p a_words_p a_roots_p a_order_p a_numbers_p a_image_p a_other_p a_input_p a_fresh_p a_freshRoots_p a_heads_p a_kept_p a_thrown a_bases a_tops a_words a_roots a_reached a_order a_numbers o23.1 o23.2 a_otherSize a_other a_waiting a_input a_at a_ended a_told a_many a_fresh a_freshRoots a_heads a_count a_kept) rfl ?_
        refine g_aload_n F dX4_makeImage_167 rfl 1 rfl ?_
        refine g_iload F dX4_makeImage_168 0 rfl ?_
        refine g_bipush (v := 16) F dX4_makeImage_170 rfl ?_
        refine g_ishr F dX4_makeImage_172 ?_
        refine g_sipush (v := 255) F dX4_makeImage_173 rfl ?_
        refine g_iand F dX4_makeImage_176 ?_
        obtain ⟨o24, ho24, hf⟩ := bnE hf
        refine g_callPv (n := 1) (As := [.int ((v18 >>> ((16 : Int32) &&& 31)) &&& (255 : Int32))]) F (c_X4_put l dC dI cI cJ cH a_p a_bases_p a_tops_p a_words_p a_roots_p a_order_p a_numbers_p a_image_p a_other_p a_input_p a_fresh_p a_freshRoots_p a_heads_p a_kept_p a_thrown a_bases a_tops a_words a_roots a_reached a_order a_numbers o23.1 o23.2 a_otherSize a_other a_waiting a_input a_at a_ended a_told a_many a_fresh a_freshRoots a_heads a_count a_kept ((v18 >>> ((16 : Int32) &&& 31)) &&& (255 : Int32)) o24 ho24) ggX4_makeImage_X4_put rfl rfl rfl (by decide +kernel) (by decide +kernel) (by decide +kernel) (by decide +kernel) (by decide +kernel) ⟨Nat.le_of_ble_eq_true rfl, Nat.le_of_ble_eq_true rfl⟩ ⟨Nat.le_of_ble_eq_true rfl, Nat.le_of_ble_eq_true rfl⟩ hN 0 rfl rfl rfl ([]) ([]) rfl (fun _ => rfl) rfl (Nat.le_of_ble_eq_true rfl) rfl dX4_makeImage_177 (cells' := 0) (slots' := 0) rfl rfl (fun u hp => ?_)
        subst hp
        refine g_ws (ws' := wMd cI a_p a_bases_p a_tops_p a_words_p a_roots_p a_order_p a_numbers_p a_image_p a_other_p a_input_p a_fresh_p a_freshRoots_p a_heads_p a_kept_p a_thrown a_bases a_tops a_words a_roots a_reached a_order a_numbers o24.1 o24.2 a_otherSize a_other a_waiting a_input a_at a_ended a_told a_many a_fresh a_freshRoots a_heads a_count a_kept) rfl ?_
        refine g_aload_n F dX4_makeImage_180 rfl 1 rfl ?_
        refine g_iload F dX4_makeImage_181 0 rfl ?_
        refine g_bipush (v := 24) F dX4_makeImage_183 rfl ?_
        refine g_ishr F dX4_makeImage_185 ?_
        refine g_sipush (v := 255) F dX4_makeImage_186 rfl ?_
        refine g_iand F dX4_makeImage_189 ?_
        obtain ⟨o25, ho25, hf⟩ := bnE hf
        refine g_callPv (n := 1) (As := [.int ((v18 >>> ((24 : Int32) &&& 31)) &&& (255 : Int32))]) F (c_X4_put l dC dI cI cJ cH a_p a_bases_p a_tops_p a_words_p a_roots_p a_order_p a_numbers_p a_image_p a_other_p a_input_p a_fresh_p a_freshRoots_p a_heads_p a_kept_p a_thrown a_bases a_tops a_words a_roots a_reached a_order a_numbers o24.1 o24.2 a_otherSize a_other a_waiting a_input a_at a_ended a_told a_many a_fresh a_freshRoots a_heads a_count a_kept ((v18 >>> ((24 : Int32) &&& 31)) &&& (255 : Int32)) o25 ho25) ggX4_makeImage_X4_put rfl rfl rfl (by decide +kernel) (by decide +kernel) (by decide +kernel) (by decide +kernel) (by decide +kernel) ⟨Nat.le_of_ble_eq_true rfl, Nat.le_of_ble_eq_true rfl⟩ ⟨Nat.le_of_ble_eq_true rfl, Nat.le_of_ble_eq_true rfl⟩ hN 0 rfl rfl rfl ([]) ([]) rfl (fun _ => rfl) rfl (Nat.le_of_ble_eq_true rfl) rfl dX4_makeImage_190 (cells' := 0) (slots' := 0) rfl rfl (fun u hp => ?_)
        subst hp
        refine g_ws (ws' := wMd cI a_p a_bases_p a_tops_p a_words_p a_roots_p a_order_p a_numbers_p a_image_p a_other_p a_input_p a_fresh_p a_freshRoots_p a_heads_p a_kept_p a_thrown a_bases a_tops a_words a_roots a_reached a_order a_numbers o25.1 o25.2 a_otherSize a_other a_waiting a_input a_at a_ended a_told a_many a_fresh a_freshRoots a_heads a_count a_kept) rfl ?_
        refine g_goto (tgt := 203) F dX4_makeImage_193 (by decide) ?_
        obtain ⟨v26, ev26, hf⟩ := nmE hf
        refine g_iinc (j := 5) (lv' := [(4, .int v26), (5, .int v18), (0, .ref a_p), (1, .int y1), (2, .int y2), (3, .int y3)]) F dX4_makeImage_203 rfl ev26.symm (by decide) rfl ?_
        refine g_goto (tgt := 104) F dX4_makeImage_206 (by decide) ?_
        refine g_lv [2, 3, 4, 5, 0] rfl ?_
        exact ih _ _ _ o hf E0
def f_X4_makeImage_L66_s (a_bases : (Nat → Int32)) (a_words : (Nat → Int32)) (a_reached : Int32) (a_order : (Nat → Int32)) (a_numbers : (Nat → Int32)) (y1 : Int32) (rc : Int32 → Int32 → (Nat → Int32) → Option (Int32 × (Nat → Int32))) (z2 : Int32) (a_size : Int32) (a_image : (Nat → Int32)) : Option (Int32 × (Nat → Int32)) :=
  if a_reached ≤ z2 then some (a_size, a_image) else ck (inR z2 256) (nm (a_order z2.toNatClampNeg) fun v11 => Option.bind (f_X4_kindAt a_words y1 v11) fun o12 => Option.bind (f_X4_put a_size a_image o12) fun o13 => Option.bind (f_X4_slotsAt a_words y1 v11) fun o14 => Option.bind (f_X4_put o13.1 o13.2 o14) fun o15 => Option.bind (f_X4_makeImage_L104 a_bases a_words a_numbers y1 z2 v11 FU (0 : Int32) o15.1 o15.2) fun o27 => nm (z2 + (1 : Int32)) fun v28 => rc v28 o27.1 o27.2)
def f_X4_makeImage_L66 (a_bases : (Nat → Int32)) (a_words : (Nat → Int32)) (a_reached : Int32) (a_order : (Nat → Int32)) (a_numbers : (Nat → Int32)) (y1 : Int32) : Nat → Int32 → Int32 → (Nat → Int32) → Option (Int32 × (Nat → Int32))
  | 0, _, _, _ => none
  | n + 1, z2, a_size, a_image => f_X4_makeImage_L66_s a_bases a_words a_reached a_order a_numbers y1 (f_X4_makeImage_L66 a_bases a_words a_reached a_order a_numbers y1 n) z2 a_size a_image
set_option maxHeartbeats 4000000 in
theorem w_X4_makeImage_L66 {p : Program} {l : Launch} {e : Env} {s : State} {m : MethodId} {args : Array Value} {below : List Frame} {meth : Method} {c : Code} {A : Nat → Prop} {Q : State → Prop} {dC : Nat → ClassId} {dI : Nat → Nat → Nat} {cI cJ cH : ClassId} {a_p a_bases_p a_tops_p a_words_p a_roots_p a_order_p a_numbers_p a_image_p a_other_p a_input_p a_fresh_p a_freshRoots_p a_heads_p a_kept_p : Nat} {a_thrown : Int32} {a_bases : (Nat → Int32)} {a_tops : (Nat → Int32)} {a_words : (Nat → Int32)} {a_roots : (Nat → Int32)} {a_reached : Int32} {a_order : (Nat → Int32)} {a_numbers : (Nat → Int32)} {a_otherSize : Int32} {a_other : (Nat → Int32)} {a_waiting : Int32} {a_input : (Nat → Int32)} {a_at : Int32} {a_ended : Int32} {a_told : Int32} {a_many : Int32} {a_fresh : (Nat → Int32)} {a_freshRoots : (Nat → Int32)} {a_heads : (Nat → Int32)} {a_count : Int64} {a_kept : (Nat → Int32)} {y1 : Int32} (F : gF p m c cX4_makeImage 6 s args wsX4_makeImage yX4_makeImage.cls (dC, dI) vwCl (gT cI cJ cH) A) (hN : ∀ w ∈ gN, va_Nw w s) : ∀ (n : Nat) (z2 : Int32) (a_size : Int32) (a_image : (Nat → Int32)) (o : (Int32 × (Nat → Int32))), f_X4_makeImage_L66 a_bases a_words a_reached a_order a_numbers y1 n z2 a_size a_image = some o → (gW p l e rm_X4_makeImage s m args below meth c 0 0 Q (dC, dI) vwCl A 6 (wMd cI a_p a_bases_p a_tops_p a_words_p a_roots_p a_order_p a_numbers_p a_image_p a_other_p a_input_p a_fresh_p a_freshRoots_p a_heads_p a_kept_p a_thrown a_bases a_tops a_words a_roots a_reached a_order a_numbers o.1 o.2 a_otherSize a_other a_waiting a_input a_at a_ended a_told a_many a_fresh a_freshRoots a_heads a_count a_kept) [(0, .ref a_p)] 215 []) → gW p l e rm_X4_makeImage s m args below meth c 0 0 Q (dC, dI) vwCl A 6 (wMd cI a_p a_bases_p a_tops_p a_words_p a_roots_p a_order_p a_numbers_p a_image_p a_other_p a_input_p a_fresh_p a_freshRoots_p a_heads_p a_kept_p a_thrown a_bases a_tops a_words a_roots a_reached a_order a_numbers a_size a_image a_otherSize a_other a_waiting a_input a_at a_ended a_told a_many a_fresh a_freshRoots a_heads a_count a_kept) [(0, .ref a_p), (1, .int y1), (2, .int z2)] 66 [] := by
  intro n
  induction n with
  | zero =>
    intro z2 a_size a_image o hf E0
    change none = some o at hf
    cases hf
  | succ n ih =>
    intro z2 a_size a_image o hf E0
    change f_X4_makeImage_L66_s a_bases a_words a_reached a_order a_numbers y1 (f_X4_makeImage_L66 a_bases a_words a_reached a_order a_numbers y1 n) z2 a_size a_image = some o at hf
    unfold f_X4_makeImage_L66_s at hf
    refine g_iload_n F dX4_makeImage_66 rfl 2 rfl ?_
    refine g_aload_n F dX4_makeImage_67 rfl 0 rfl ?_
    refine g_get F h_X4_makeImage_4 0 rfl rfl 5 (by decide) (by decide +kernel) rfl dX4_makeImage_68 ?_
    refine g_icmp_ge (tgt := 215) F dX4_makeImage_71 (by decide) (fun c71 => ?_) (fun c71 => ?_)
    · have hf := iteT hf c71
      cases hf
      refine g_lv [0] rfl ?_
      exact E0
    · have hf := iteF hf c71
      refine g_aload_n F dX4_makeImage_74 rfl 0 rfl ?_
      refine g_get F h_X4_makeImage_4 0 rfl rfl 6 (by decide) (by decide +kernel) rfl dX4_makeImage_75 ?_
      refine g_iload_n F dX4_makeImage_78 rfl 2 rfl ?_
      obtain ⟨h10, hf⟩ := ckE hf
      refine g_iald F 5 0 rfl rfl h10 dX4_makeImage_79 ?_
      obtain ⟨v11, ev11, hf⟩ := nmE hf
      refine g_nmi ev11 ?_
      refine g_istore_n (lv' := [(3, .int v11), (0, .ref a_p), (1, .int y1), (2, .int z2)]) F dX4_makeImage_80 rfl (by decide) rfl ?_
      refine g_aload_n F dX4_makeImage_81 rfl 1 rfl ?_
      refine g_aload_n F dX4_makeImage_82 rfl 1 rfl ?_
      refine g_iload_n F dX4_makeImage_83 rfl 2 rfl ?_
      refine g_iload_n F dX4_makeImage_84 rfl 0 rfl ?_
      obtain ⟨o12, ho12, hf⟩ := bnE hf
      refine g_callPi (n := 2) (As := [.int y1, .int v11]) F (c_X4_kindAt l dC dI cI cJ cH a_p a_bases_p a_tops_p a_words_p a_roots_p a_order_p a_numbers_p a_image_p a_other_p a_input_p a_fresh_p a_freshRoots_p a_heads_p a_kept_p a_thrown a_bases a_tops a_words a_roots a_reached a_order a_numbers a_size a_image a_otherSize a_other a_waiting a_input a_at a_ended a_told a_many a_fresh a_freshRoots a_heads a_count a_kept y1 v11 o12 ho12) ggX4_makeImage_X4_kindAt rfl rfl rfl (by decide +kernel) (by decide +kernel) (by decide +kernel) (by decide +kernel) (by decide +kernel) ⟨Nat.le_of_ble_eq_true rfl, Nat.le_of_ble_eq_true rfl⟩ ⟨Nat.le_of_ble_eq_true rfl, Nat.le_of_ble_eq_true rfl⟩ hN 0 rfl rfl rfl ([]) ([]) rfl (fun _ => rfl) rfl (Nat.le_of_ble_eq_true rfl) rfl dX4_makeImage_85 (cells' := 0) (slots' := 0) rfl rfl (fun r u hp => ?_)
      subst hp
      refine g_ws (ws' := wMd cI a_p a_bases_p a_tops_p a_words_p a_roots_p a_order_p a_numbers_p a_image_p a_other_p a_input_p a_fresh_p a_freshRoots_p a_heads_p a_kept_p a_thrown a_bases a_tops a_words a_roots a_reached a_order a_numbers a_size a_image a_otherSize a_other a_waiting a_input a_at a_ended a_told a_many a_fresh a_freshRoots a_heads a_count a_kept) rfl ?_
      obtain ⟨o13, ho13, hf⟩ := bnE hf
      refine g_callPv (n := 1) (As := [.int o12]) F (c_X4_put l dC dI cI cJ cH a_p a_bases_p a_tops_p a_words_p a_roots_p a_order_p a_numbers_p a_image_p a_other_p a_input_p a_fresh_p a_freshRoots_p a_heads_p a_kept_p a_thrown a_bases a_tops a_words a_roots a_reached a_order a_numbers a_size a_image a_otherSize a_other a_waiting a_input a_at a_ended a_told a_many a_fresh a_freshRoots a_heads a_count a_kept o12 o13 ho13) ggX4_makeImage_X4_put rfl rfl rfl (by decide +kernel) (by decide +kernel) (by decide +kernel) (by decide +kernel) (by decide +kernel) ⟨Nat.le_of_ble_eq_true rfl, Nat.le_of_ble_eq_true rfl⟩ ⟨Nat.le_of_ble_eq_true rfl, Nat.le_of_ble_eq_true rfl⟩ hN 0 rfl rfl rfl ([]) ([]) rfl (fun _ => rfl) rfl (Nat.le_of_ble_eq_true rfl) rfl dX4_makeImage_88 (cells' := 0) (slots' := 0) rfl rfl (fun u hp => ?_)
      subst hp
      refine g_ws (ws' := wMd cI a_p a_bases_p a_tops_p a_words_p a_roots_p a_order_p a_numbers_p a_image_p a_other_p a_input_p a_fresh_p a_freshRoots_p a_heads_p a_kept_p a_thrown a_bases a_tops a_words a_roots a_reached a_order a_numbers o13.1 o13.2 a_otherSize a_other a_waiting a_input a_at a_ended a_told a_many a_fresh a_freshRoots a_heads a_count a_kept) rfl ?_
      refine g_aload_n F dX4_makeImage_91 rfl 1 rfl ?_
      refine g_aload_n F dX4_makeImage_92 rfl 1 rfl ?_
      refine g_iload_n F dX4_makeImage_93 rfl 2 rfl ?_
      refine g_iload_n F dX4_makeImage_94 rfl 0 rfl ?_
      obtain ⟨o14, ho14, hf⟩ := bnE hf
      refine g_callPi (n := 2) (As := [.int y1, .int v11]) F (c_X4_slotsAt l dC dI cI cJ cH a_p a_bases_p a_tops_p a_words_p a_roots_p a_order_p a_numbers_p a_image_p a_other_p a_input_p a_fresh_p a_freshRoots_p a_heads_p a_kept_p a_thrown a_bases a_tops a_words a_roots a_reached a_order a_numbers o13.1 o13.2 a_otherSize a_other a_waiting a_input a_at a_ended a_told a_many a_fresh a_freshRoots a_heads a_count a_kept y1 v11 o14 ho14) ggX4_makeImage_X4_slotsAt rfl rfl rfl (by decide +kernel) (by decide +kernel) (by decide +kernel) (by decide +kernel) (by decide +kernel) ⟨Nat.le_of_ble_eq_true rfl, Nat.le_of_ble_eq_true rfl⟩ ⟨Nat.le_of_ble_eq_true rfl, Nat.le_of_ble_eq_true rfl⟩ hN 0 rfl rfl rfl ([]) ([]) rfl (fun _ => rfl) rfl (Nat.le_of_ble_eq_true rfl) rfl dX4_makeImage_95 (cells' := 0) (slots' := 0) rfl rfl (fun r u hp => ?_)
      subst hp
      refine g_ws (ws' := wMd cI a_p a_bases_p a_tops_p a_words_p a_roots_p a_order_p a_numbers_p a_image_p a_other_p a_input_p a_fresh_p a_freshRoots_p a_heads_p a_kept_p a_thrown a_bases a_tops a_words a_roots a_reached a_order a_numbers o13.1 o13.2 a_otherSize a_other a_waiting a_input a_at a_ended a_told a_many a_fresh a_freshRoots a_heads a_count a_kept) rfl ?_
      obtain ⟨o15, ho15, hf⟩ := bnE hf
      refine g_callPv (n := 1) (As := [.int o14]) F (c_X4_put l dC dI cI cJ cH a_p a_bases_p a_tops_p a_words_p a_roots_p a_order_p a_numbers_p a_image_p a_other_p a_input_p a_fresh_p a_freshRoots_p a_heads_p a_kept_p a_thrown a_bases a_tops a_words a_roots a_reached a_order a_numbers o13.1 o13.2 a_otherSize a_other a_waiting a_input a_at a_ended a_told a_many a_fresh a_freshRoots a_heads a_count a_kept o14 o15 ho15) ggX4_makeImage_X4_put rfl rfl rfl (by decide +kernel) (by decide +kernel) (by decide +kernel) (by decide +kernel) (by decide +kernel) ⟨Nat.le_of_ble_eq_true rfl, Nat.le_of_ble_eq_true rfl⟩ ⟨Nat.le_of_ble_eq_true rfl, Nat.le_of_ble_eq_true rfl⟩ hN 0 rfl rfl rfl ([]) ([]) rfl (fun _ => rfl) rfl (Nat.le_of_ble_eq_true rfl) rfl dX4_makeImage_98 (cells' := 0) (slots' := 0) rfl rfl (fun u hp => ?_)
      subst hp
      refine g_ws (ws' := wMd cI a_p a_bases_p a_tops_p a_words_p a_roots_p a_order_p a_numbers_p a_image_p a_other_p a_input_p a_fresh_p a_freshRoots_p a_heads_p a_kept_p a_thrown a_bases a_tops a_words a_roots a_reached a_order a_numbers o15.1 o15.2 a_otherSize a_other a_waiting a_input a_at a_ended a_told a_many a_fresh a_freshRoots a_heads a_count a_kept) rfl ?_
      refine g_iconst (v := 0) F dX4_makeImage_101 rfl ?_
      refine g_istore (lv' := [(4, .int (0 : Int32)), (3, .int v11), (0, .ref a_p), (1, .int y1), (2, .int z2)]) F dX4_makeImage_102 (by decide) rfl ?_
      obtain ⟨o27, ho27, hf⟩ := bnE hf
      refine g_lv [2, 3, 4, 1, 0] rfl ?_
      refine w_X4_makeImage_L104 F hN FU _ _ _ o27 ho27 ?_
      obtain ⟨v28, ev28, hf⟩ := nmE hf
      refine g_iinc (j := 2) (lv' := [(2, .int v28), (0, .ref a_p), (1, .int y1)]) F dX4_makeImage_209 rfl ev28.symm (by decide) rfl ?_
      refine g_goto (tgt := 66) F dX4_makeImage_212 (by decide) ?_
      refine g_lv [1, 2, 0] rfl ?_
      exact ih _ _ _ o hf E0
def f_X4_makeImage (a_bases : (Nat → Int32)) (a_words : (Nat → Int32)) (a_roots : (Nat → Int32)) (a_reached : Int32) (a_order : (Nat → Int32)) (a_numbers : (Nat → Int32)) (a_size : Int32) (a_image : (Nat → Int32)) (x1 : Int32) : Option (Int32 × (Nat → Int32) × (Nat → Int32) × Int32 × (Nat → Int32)) :=
  Option.bind (f_X4_reach a_bases a_words a_roots a_reached a_order a_numbers x1) fun o1 => Option.bind (f_X4_put (0 : Int32) a_image (72 : Int32)) fun o2 => Option.bind (f_X4_put o2.1 o2.2 (73 : Int32)) fun o3 => Option.bind (f_X4_put o3.1 o3.2 (1 : Int32)) fun o4 => Option.bind (f_X4_putCount o4.1 o4.2 o1.1.toInt64) fun o5 => Option.bind (f_X4_makeImage_L38 a_bases a_roots o1.2.2 x1 FU (0 : Int32) o5.1 o5.2) fun o9 => Option.bind (f_X4_makeImage_L66 a_bases a_words o1.1 o1.2.1 o1.2.2 x1 FU (0 : Int32) o9.1 o9.2) fun o29 => Option.bind (f_X4_sumOf 3000 o29.2 o29.1) fun o30 => Option.bind (f_X4_put o29.1 o29.2 (o30 - o30 / (256 : Int32) * (256 : Int32))) fun o31 => Option.bind (f_X4_put o31.1 o31.2 (o30 / (256 : Int32))) fun o32 => some (o1.1, o1.2.1, o1.2.2, o32.1, o32.2)
set_option maxHeartbeats 4000000 in
set_option maxRecDepth 100000 in
theorem c_X4_makeImage (l : Launch) (dC : Nat → ClassId) (dI : Nat → Nat → Nat) (cI cJ cH : ClassId) (a_p a_bases_p a_tops_p a_words_p a_roots_p a_order_p a_numbers_p a_image_p a_other_p a_input_p a_fresh_p a_freshRoots_p a_heads_p a_kept_p : Nat)  (a_thrown : Int32) (a_bases : (Nat → Int32)) (a_tops : (Nat → Int32)) (a_words : (Nat → Int32)) (a_roots : (Nat → Int32)) (a_reached : Int32) (a_order : (Nat → Int32)) (a_numbers : (Nat → Int32)) (a_size : Int32) (a_image : (Nat → Int32)) (a_otherSize : Int32) (a_other : (Nat → Int32)) (a_waiting : Int32) (a_input : (Nat → Int32)) (a_at : Int32) (a_ended : Int32) (a_told : Int32) (a_many : Int32) (a_fresh : (Nat → Int32)) (a_freshRoots : (Nat → Int32)) (a_heads : (Nat → Int32)) (a_count : Int64) (a_kept : (Nat → Int32)) (x1 : Int32) (o : (Int32 × (Nat → Int32) × (Nat → Int32) × Int32 × (Nat → Int32))) (hf : f_X4_makeImage a_bases a_words a_roots a_reached a_order a_numbers a_size a_image x1 = some o) : ∀ sz : Nat, Met l yX4_makeImage wsX4_makeImage rm_X4_makeImage (gPre [.ref a_p, .int x1] (dC, dI) vwCl (gT cI cJ cH) (wMd cI a_p a_bases_p a_tops_p a_words_p a_roots_p a_order_p a_numbers_p a_image_p a_other_p a_input_p a_fresh_p a_freshRoots_p a_heads_p a_kept_p a_thrown a_bases a_tops a_words a_roots a_reached a_order a_numbers a_size a_image a_otherSize a_other a_waiting a_input a_at a_ended a_told a_many a_fresh a_freshRoots a_heads a_count a_kept) sz) (va_Qv (fun (u : (Int32 × (Nat → Int32) × (Nat → Int32) × Int32 × (Nat → Int32))) => o = u) (gB (dC, dI) vwCl (gT cI cJ cH) (fun (u : (Int32 × (Nat → Int32) × (Nat → Int32) × Int32 × (Nat → Int32))) => wMd cI a_p a_bases_p a_tops_p a_words_p a_roots_p a_order_p a_numbers_p a_image_p a_other_p a_input_p a_fresh_p a_freshRoots_p a_heads_p a_kept_p a_thrown a_bases a_tops a_words a_roots u.1 u.2.1 u.2.2.1 u.2.2.2.1 u.2.2.2.2 a_otherSize a_other a_waiting a_input a_at a_ended a_told a_many a_fresh a_freshRoots a_heads a_count a_kept) (va_A (wMd cI a_p a_bases_p a_tops_p a_words_p a_roots_p a_order_p a_numbers_p a_image_p a_other_p a_input_p a_fresh_p a_freshRoots_p a_heads_p a_kept_p a_thrown a_bases a_tops a_words a_roots a_reached a_order a_numbers a_size a_image a_otherSize a_other a_waiting a_input a_at a_ended a_told a_many a_fresh a_freshRoots a_heads a_count a_kept) sz)) (va_A (wMd cI a_p a_bases_p a_tops_p a_words_p a_roots_p a_order_p a_numbers_p a_image_p a_other_p a_input_p a_fresh_p a_freshRoots_p a_heads_p a_kept_p a_thrown a_bases a_tops a_words a_roots a_reached a_order a_numbers a_size a_image a_otherSize a_other a_waiting a_input a_at a_ended a_told a_many a_fresh a_freshRoots a_heads a_count a_kept) sz)) 0 0 (va_A (wMd cI a_p a_bases_p a_tops_p a_words_p a_roots_p a_order_p a_numbers_p a_image_p a_other_p a_input_p a_fresh_p a_freshRoots_p a_heads_p a_kept_p a_thrown a_bases a_tops a_words a_roots a_reached a_order a_numbers a_size a_image a_otherSize a_other a_waiting a_input a_at a_ended a_told a_many a_fresh a_freshRoots a_heads a_count a_kept) sz) := by
  refine g_met (fun A => va_Qv (fun (u : (Int32 × (Nat → Int32) × (Nat → Int32) × Int32 × (Nat → Int32))) => o = u) (gB (dC, dI) vwCl (gT cI cJ cH) (fun (u : (Int32 × (Nat → Int32) × (Nat → Int32) × Int32 × (Nat → Int32))) => wMd cI a_p a_bases_p a_tops_p a_words_p a_roots_p a_order_p a_numbers_p a_image_p a_other_p a_input_p a_fresh_p a_freshRoots_p a_heads_p a_kept_p a_thrown a_bases a_tops a_words a_roots u.1 u.2.1 u.2.2.1 u.2.2.2.1 u.2.2.2.2 a_otherSize a_other a_waiting a_input a_at a_ended a_told a_many a_fresh a_freshRoots a_heads a_count a_kept) A) A) (by decide) rfl (Nat.le_of_ble_eq_true rfl) ?_
  intro p e s m args below meth c A Q F hlocks hr hname hN hQ
  unfold f_X4_makeImage at hf
  refine g_lvE (lv' := [(0, .ref a_p), (1, .int x1)]) rfl ?_
  refine g_aload_n F dX4_makeImage_0 rfl 0 rfl ?_
  refine g_iload_n F dX4_makeImage_1 rfl 1 rfl ?_
  obtain ⟨o1, ho1, hf⟩ := bnE hf
  refine g_callPv (n := 1) (As := [.int x1]) F (c_X4_reach l dC dI cI cJ cH a_p a_bases_p a_tops_p a_words_p a_roots_p a_order_p a_numbers_p a_image_p a_other_p a_input_p a_fresh_p a_freshRoots_p a_heads_p a_kept_p a_thrown a_bases a_tops a_words a_roots a_reached a_order a_numbers a_size a_image a_otherSize a_other a_waiting a_input a_at a_ended a_told a_many a_fresh a_freshRoots a_heads a_count a_kept x1 o1 ho1) ggX4_makeImage_X4_reach rfl rfl rfl (by decide +kernel) (by decide +kernel) (by decide +kernel) (by decide +kernel) (by decide +kernel) ⟨Nat.le_of_ble_eq_true rfl, Nat.le_of_ble_eq_true rfl⟩ ⟨Nat.le_of_ble_eq_true rfl, Nat.le_of_ble_eq_true rfl⟩ hN 0 rfl rfl rfl ([]) ([]) rfl (fun _ => rfl) rfl (Nat.le_of_ble_eq_true rfl) rfl dX4_makeImage_2 (cells' := 0) (slots' := 0) rfl rfl (fun u hp => ?_)
  subst hp
  refine g_ws (ws' := wMd cI a_p a_bases_p a_tops_p a_words_p a_roots_p a_order_p a_numbers_p a_image_p a_other_p a_input_p a_fresh_p a_freshRoots_p a_heads_p a_kept_p a_thrown a_bases a_tops a_words a_roots o1.1 o1.2.1 o1.2.2 a_size a_image a_otherSize a_other a_waiting a_input a_at a_ended a_told a_many a_fresh a_freshRoots a_heads a_count a_kept) rfl ?_
  refine g_aload_n F dX4_makeImage_5 rfl 0 rfl ?_
  refine g_iconst (v := 0) F dX4_makeImage_6 rfl ?_
  refine g_put F h_X4_makeImage_4 tyX4 tyX4_ok nmX4 0 rfl rfl 8 (by decide) (by decide +kernel) rfl rfl rfl (Nat.le_of_ble_eq_true rfl) dX4_makeImage_7 (ws' := wMd cI a_p a_bases_p a_tops_p a_words_p a_roots_p a_order_p a_numbers_p a_image_p a_other_p a_input_p a_fresh_p a_freshRoots_p a_heads_p a_kept_p a_thrown a_bases a_tops a_words a_roots o1.1 o1.2.1 o1.2.2 (0 : Int32) a_image a_otherSize a_other a_waiting a_input a_at a_ended a_told a_many a_fresh a_freshRoots a_heads a_count a_kept) rfl ?_
  refine g_aload_n F dX4_makeImage_10 rfl 0 rfl ?_
  refine g_bipush (v := 72) F dX4_makeImage_11 rfl ?_
  obtain ⟨o2, ho2, hf⟩ := bnE hf
  refine g_callPv (n := 1) (As := [.int (72 : Int32)]) F (c_X4_put l dC dI cI cJ cH a_p a_bases_p a_tops_p a_words_p a_roots_p a_order_p a_numbers_p a_image_p a_other_p a_input_p a_fresh_p a_freshRoots_p a_heads_p a_kept_p a_thrown a_bases a_tops a_words a_roots o1.1 o1.2.1 o1.2.2 (0 : Int32) a_image a_otherSize a_other a_waiting a_input a_at a_ended a_told a_many a_fresh a_freshRoots a_heads a_count a_kept (72 : Int32) o2 ho2) ggX4_makeImage_X4_put rfl rfl rfl (by decide +kernel) (by decide +kernel) (by decide +kernel) (by decide +kernel) (by decide +kernel) ⟨Nat.le_of_ble_eq_true rfl, Nat.le_of_ble_eq_true rfl⟩ ⟨Nat.le_of_ble_eq_true rfl, Nat.le_of_ble_eq_true rfl⟩ hN 0 rfl rfl rfl ([]) ([]) rfl (fun _ => rfl) rfl (Nat.le_of_ble_eq_true rfl) rfl dX4_makeImage_13 (cells' := 0) (slots' := 0) rfl rfl (fun u hp => ?_)
  subst hp
  refine g_ws (ws' := wMd cI a_p a_bases_p a_tops_p a_words_p a_roots_p a_order_p a_numbers_p a_image_p a_other_p a_input_p a_fresh_p a_freshRoots_p a_heads_p a_kept_p a_thrown a_bases a_tops a_words a_roots o1.1 o1.2.1 o1.2.2 o2.1 o2.2 a_otherSize a_other a_waiting a_input a_at a_ended a_told a_many a_fresh a_freshRoots a_heads a_count a_kept) rfl ?_
  refine g_aload_n F dX4_makeImage_16 rfl 0 rfl ?_
  refine g_bipush (v := 73) F dX4_makeImage_17 rfl ?_
  obtain ⟨o3, ho3, hf⟩ := bnE hf
  refine g_callPv (n := 1) (As := [.int (73 : Int32)]) F (c_X4_put l dC dI cI cJ cH a_p a_bases_p a_tops_p a_words_p a_roots_p a_order_p a_numbers_p a_image_p a_other_p a_input_p a_fresh_p a_freshRoots_p a_heads_p a_kept_p a_thrown a_bases a_tops a_words a_roots o1.1 o1.2.1 o1.2.2 o2.1 o2.2 a_otherSize a_other a_waiting a_input a_at a_ended a_told a_many a_fresh a_freshRoots a_heads a_count a_kept (73 : Int32) o3 ho3) ggX4_makeImage_X4_put rfl rfl rfl (by decide +kernel) (by decide +kernel) (by decide +kernel) (by decide +kernel) (by decide +kernel) ⟨Nat.le_of_ble_eq_true rfl, Nat.le_of_ble_eq_true rfl⟩ ⟨Nat.le_of_ble_eq_true rfl, Nat.le_of_ble_eq_true rfl⟩ hN 0 rfl rfl rfl ([]) ([]) rfl (fun _ => rfl) rfl (Nat.le_of_ble_eq_true rfl) rfl dX4_makeImage_19 (cells' := 0) (slots' := 0) rfl rfl (fun u hp => ?_)
  subst hp
  refine g_ws (ws' := wMd cI a_p a_bases_p a_tops_p a_words_p a_roots_p a_order_p a_numbers_p a_image_p a_other_p a_input_p a_fresh_p a_freshRoots_p a_heads_p a_kept_p a_thrown a_bases a_tops a_words a_roots o1.1 o1.2.1 o1.2.2 o3.1 o3.2 a_otherSize a_other a_waiting a_input a_at a_ended a_told a_many a_fresh a_freshRoots a_heads a_count a_kept) rfl ?_
  refine g_aload_n F dX4_makeImage_22 rfl 0 rfl ?_
  refine g_iconst (v := 1) F dX4_makeImage_23 rfl ?_
  obtain ⟨o4, ho4, hf⟩ := bnE hf
  refine g_callPv (n := 1) (As := [.int (1 : Int32)]) F (c_X4_put l dC dI cI cJ cH a_p a_bases_p a_tops_p a_words_p a_roots_p a_order_p a_numbers_p a_image_p a_other_p a_input_p a_fresh_p a_freshRoots_p a_heads_p a_kept_p a_thrown a_bases a_tops a_words a_roots o1.1 o1.2.1 o1.2.2 o3.1 o3.2 a_otherSize a_other a_waiting a_input a_at a_ended a_told a_many a_fresh a_freshRoots a_heads a_count a_kept (1 : Int32) o4 ho4) ggX4_makeImage_X4_put rfl rfl rfl (by decide +kernel) (by decide +kernel) (by decide +kernel) (by decide +kernel) (by decide +kernel) ⟨Nat.le_of_ble_eq_true rfl, Nat.le_of_ble_eq_true rfl⟩ ⟨Nat.le_of_ble_eq_true rfl, Nat.le_of_ble_eq_true rfl⟩ hN 0 rfl rfl rfl ([]) ([]) rfl (fun _ => rfl) rfl (Nat.le_of_ble_eq_true rfl) rfl dX4_makeImage_24 (cells' := 0) (slots' := 0) rfl rfl (fun u hp => ?_)
  subst hp
  refine g_ws (ws' := wMd cI a_p a_bases_p a_tops_p a_words_p a_roots_p a_order_p a_numbers_p a_image_p a_other_p a_input_p a_fresh_p a_freshRoots_p a_heads_p a_kept_p a_thrown a_bases a_tops a_words a_roots o1.1 o1.2.1 o1.2.2 o4.1 o4.2 a_otherSize a_other a_waiting a_input a_at a_ended a_told a_many a_fresh a_freshRoots a_heads a_count a_kept) rfl ?_
  refine g_aload_n F dX4_makeImage_27 rfl 0 rfl ?_
  refine g_aload_n F dX4_makeImage_28 rfl 0 rfl ?_
  refine g_get F h_X4_makeImage_4 0 rfl rfl 5 (by decide) (by decide +kernel) rfl dX4_makeImage_29 ?_
  refine g_i2l F dX4_makeImage_32 ?_
  obtain ⟨o5, ho5, hf⟩ := bnE hf
  refine g_callPv (n := 1) (As := [.long o1.1.toInt64]) F (c_X4_putCount l dC dI cI cJ cH a_p a_bases_p a_tops_p a_words_p a_roots_p a_order_p a_numbers_p a_image_p a_other_p a_input_p a_fresh_p a_freshRoots_p a_heads_p a_kept_p a_thrown a_bases a_tops a_words a_roots o1.1 o1.2.1 o1.2.2 o4.1 o4.2 a_otherSize a_other a_waiting a_input a_at a_ended a_told a_many a_fresh a_freshRoots a_heads a_count a_kept o1.1.toInt64 o5 ho5) ggX4_makeImage_X4_putCount rfl rfl rfl (by decide +kernel) (by decide +kernel) (by decide +kernel) (by decide +kernel) (by decide +kernel) ⟨Nat.le_of_ble_eq_true rfl, Nat.le_of_ble_eq_true rfl⟩ ⟨Nat.le_of_ble_eq_true rfl, Nat.le_of_ble_eq_true rfl⟩ hN 0 rfl rfl rfl ([]) ([]) rfl (fun _ => rfl) rfl (Nat.le_of_ble_eq_true rfl) rfl dX4_makeImage_33 (cells' := 0) (slots' := 0) rfl rfl (fun u hp => ?_)
  subst hp
  refine g_ws (ws' := wMd cI a_p a_bases_p a_tops_p a_words_p a_roots_p a_order_p a_numbers_p a_image_p a_other_p a_input_p a_fresh_p a_freshRoots_p a_heads_p a_kept_p a_thrown a_bases a_tops a_words a_roots o1.1 o1.2.1 o1.2.2 o5.1 o5.2 a_otherSize a_other a_waiting a_input a_at a_ended a_told a_many a_fresh a_freshRoots a_heads a_count a_kept) rfl ?_
  refine g_iconst (v := 0) F dX4_makeImage_36 rfl ?_
  refine g_istore_n (lv' := [(2, .int (0 : Int32)), (0, .ref a_p), (1, .int x1)]) F dX4_makeImage_37 rfl (by decide) rfl ?_
  obtain ⟨o9, ho9, hf⟩ := bnE hf
  refine g_lv [1, 2, 0] rfl ?_
  refine w_X4_makeImage_L38 F hN FU _ _ _ o9 ho9 ?_
  refine g_iconst (v := 0) F dX4_makeImage_64 rfl ?_
  refine g_istore_n (lv' := [(2, .int (0 : Int32)), (0, .ref a_p), (1, .int x1)]) F dX4_makeImage_65 rfl (by decide) rfl ?_
  obtain ⟨o29, ho29, hf⟩ := bnE hf
  refine g_lv [1, 2, 0] rfl ?_
  refine w_X4_makeImage_L66 F hN FU _ _ _ o29 ho29 ?_
  refine g_aload_n F dX4_makeImage_215 rfl 0 rfl ?_
  refine g_get F h_X4_makeImage_4 0 rfl rfl 9 (by decide) (by decide +kernel) rfl dX4_makeImage_216 ?_
  refine g_aload_n F dX4_makeImage_219 rfl 0 rfl ?_
  refine g_get F h_X4_makeImage_4 0 rfl rfl 8 (by decide) (by decide +kernel) rfl dX4_makeImage_220 ?_
  obtain ⟨o30, ho30, hf⟩ := bnE hf
  refine g_callSi (n := 2) (As := [.ref a_image_p, .int o29.1]) F (c_X4_sumOf l dC dI cI cJ cH a_image_p 3000 o29.2 o29.1 o30 ho30) ggX4_makeImage_X4_sumOf rfl rfl rfl (by decide +kernel) (by decide +kernel) (by decide +kernel) (by decide +kernel) ⟨Nat.le_of_ble_eq_true rfl, Nat.le_of_ble_eq_true rfl⟩ ⟨Nat.le_of_ble_eq_true rfl, Nat.le_of_ble_eq_true rfl⟩ hN [7] rfl rfl (fun _ => rfl) rfl (Nat.le_of_ble_eq_true rfl) rfl dX4_makeImage_223 (cells' := 0) (slots' := 0) rfl rfl (fun r u hp => ?_)
  subst hp
  refine g_ws (ws' := wMd cI a_p a_bases_p a_tops_p a_words_p a_roots_p a_order_p a_numbers_p a_image_p a_other_p a_input_p a_fresh_p a_freshRoots_p a_heads_p a_kept_p a_thrown a_bases a_tops a_words a_roots o1.1 o1.2.1 o1.2.2 o29.1 o29.2 a_otherSize a_other a_waiting a_input a_at a_ended a_told a_many a_fresh a_freshRoots a_heads a_count a_kept) rfl ?_
  refine g_istore_n (lv' := [(2, .int o30), (0, .ref a_p)]) F dX4_makeImage_226 rfl (by decide) rfl ?_
  refine g_aload_n F dX4_makeImage_227 rfl 1 rfl ?_
  refine g_iload_n F dX4_makeImage_228 rfl 0 rfl ?_
  refine g_sipush (v := 256) F dX4_makeImage_229 rfl ?_
  refine g_irem F dX4_makeImage_232 (by decide) ?_
  obtain ⟨o31, ho31, hf⟩ := bnE hf
  refine g_callPv (n := 1) (As := [.int (o30 - o30 / (256 : Int32) * (256 : Int32))]) F (c_X4_put l dC dI cI cJ cH a_p a_bases_p a_tops_p a_words_p a_roots_p a_order_p a_numbers_p a_image_p a_other_p a_input_p a_fresh_p a_freshRoots_p a_heads_p a_kept_p a_thrown a_bases a_tops a_words a_roots o1.1 o1.2.1 o1.2.2 o29.1 o29.2 a_otherSize a_other a_waiting a_input a_at a_ended a_told a_many a_fresh a_freshRoots a_heads a_count a_kept (o30 - o30 / (256 : Int32) * (256 : Int32)) o31 ho31) ggX4_makeImage_X4_put rfl rfl rfl (by decide +kernel) (by decide +kernel) (by decide +kernel) (by decide +kernel) (by decide +kernel) ⟨Nat.le_of_ble_eq_true rfl, Nat.le_of_ble_eq_true rfl⟩ ⟨Nat.le_of_ble_eq_true rfl, Nat.le_of_ble_eq_true rfl⟩ hN 0 rfl rfl rfl ([]) ([]) rfl (fun _ => rfl) rfl (Nat.le_of_ble_eq_true rfl) rfl dX4_makeImage_233 (cells' := 0) (slots' := 0) rfl rfl (fun u hp => ?_)
  subst hp
  refine g_ws (ws' := wMd cI a_p a_bases_p a_tops_p a_words_p a_roots_p a_order_p a_numbers_p a_image_p a_other_p a_input_p a_fresh_p a_freshRoots_p a_heads_p a_kept_p a_thrown a_bases a_tops a_words a_roots o1.1 o1.2.1 o1.2.2 o31.1 o31.2 a_otherSize a_other a_waiting a_input a_at a_ended a_told a_many a_fresh a_freshRoots a_heads a_count a_kept) rfl ?_
  refine g_aload_n F dX4_makeImage_236 rfl 1 rfl ?_
  refine g_iload_n F dX4_makeImage_237 rfl 0 rfl ?_
  refine g_sipush (v := 256) F dX4_makeImage_238 rfl ?_
  refine g_idiv F dX4_makeImage_241 (by decide) ?_
  obtain ⟨o32, ho32, hf⟩ := bnE hf
  refine g_callPv (n := 1) (As := [.int (o30 / (256 : Int32))]) F (c_X4_put l dC dI cI cJ cH a_p a_bases_p a_tops_p a_words_p a_roots_p a_order_p a_numbers_p a_image_p a_other_p a_input_p a_fresh_p a_freshRoots_p a_heads_p a_kept_p a_thrown a_bases a_tops a_words a_roots o1.1 o1.2.1 o1.2.2 o31.1 o31.2 a_otherSize a_other a_waiting a_input a_at a_ended a_told a_many a_fresh a_freshRoots a_heads a_count a_kept (o30 / (256 : Int32)) o32 ho32) ggX4_makeImage_X4_put rfl rfl rfl (by decide +kernel) (by decide +kernel) (by decide +kernel) (by decide +kernel) (by decide +kernel) ⟨Nat.le_of_ble_eq_true rfl, Nat.le_of_ble_eq_true rfl⟩ ⟨Nat.le_of_ble_eq_true rfl, Nat.le_of_ble_eq_true rfl⟩ hN 0 rfl rfl rfl ([]) ([]) rfl (fun _ => rfl) rfl (Nat.le_of_ble_eq_true rfl) rfl dX4_makeImage_242 (cells' := 0) (slots' := 0) rfl rfl (fun u hp => ?_)
  subst hp
  refine g_ws (ws' := wMd cI a_p a_bases_p a_tops_p a_words_p a_roots_p a_order_p a_numbers_p a_image_p a_other_p a_input_p a_fresh_p a_freshRoots_p a_heads_p a_kept_p a_thrown a_bases a_tops a_words a_roots o1.1 o1.2.1 o1.2.2 o32.1 o32.2 a_otherSize a_other a_waiting a_input a_at a_ended a_told a_many a_fresh a_freshRoots a_heads a_count a_kept) rfl ?_
  subst hQ
  exact g_vret F hlocks hr (o1.1, o1.2.1, o1.2.2, o32.1, o32.2) rfl (Option.some.inj hf).symm dX4_makeImage_245

/-! HeapImagesModel.dump(I)I -/
def rm_X4_dump : Room := { frames := 7, cells := 0, slots := 0, locals := 160 }
theorem h_X4_dump_4 : ∀ w ∈ wsX40, w ∈ wsX4_dump := by decide +kernel
def f_X4_dump (a_thrown : Int32) (a_bases : (Nat → Int32)) (a_tops : (Nat → Int32)) (a_words : (Nat → Int32)) (a_roots : (Nat → Int32)) (a_reached : Int32) (a_order : (Nat → Int32)) (a_numbers : (Nat → Int32)) (a_size : Int32) (a_image : (Nat → Int32)) (x1 : Int32) : Option (Int32 × Int32 × Int32 × (Nat → Int32) × (Nat → Int32) × Int32 × (Nat → Int32)) :=
  Option.bind (f_X4_isHeap x1) fun o1 => Option.bind (α := Int32) (if o1 = 0 then some (1 : Int32) else Option.bind (f_X4_firstFault a_bases a_tops a_words a_roots x1) fun o4 => if o4 ≤ 0 then some (0 : Int32) else some (2 : Int32)) fun j2 => if j2 ≤ 0 then Option.bind (f_X4_makeImage a_bases a_words a_roots a_reached a_order a_numbers a_size a_image x1) fun o3 => some (o3.2.2.2.1, j2, o3.1, o3.2.1, o3.2.2.1, o3.2.2.2.1, o3.2.2.2.2) else some ((0 : Int32), j2, a_reached, a_order, a_numbers, a_size, a_image)
set_option maxHeartbeats 4000000 in
set_option maxRecDepth 100000 in
theorem c_X4_dump (l : Launch) (dC : Nat → ClassId) (dI : Nat → Nat → Nat) (cI cJ cH : ClassId) (a_p a_bases_p a_tops_p a_words_p a_roots_p a_order_p a_numbers_p a_image_p a_other_p a_input_p a_fresh_p a_freshRoots_p a_heads_p a_kept_p : Nat)  (a_thrown : Int32) (a_bases : (Nat → Int32)) (a_tops : (Nat → Int32)) (a_words : (Nat → Int32)) (a_roots : (Nat → Int32)) (a_reached : Int32) (a_order : (Nat → Int32)) (a_numbers : (Nat → Int32)) (a_size : Int32) (a_image : (Nat → Int32)) (a_otherSize : Int32) (a_other : (Nat → Int32)) (a_waiting : Int32) (a_input : (Nat → Int32)) (a_at : Int32) (a_ended : Int32) (a_told : Int32) (a_many : Int32) (a_fresh : (Nat → Int32)) (a_freshRoots : (Nat → Int32)) (a_heads : (Nat → Int32)) (a_count : Int64) (a_kept : (Nat → Int32)) (x1 : Int32) (o : (Int32 × Int32 × Int32 × (Nat → Int32) × (Nat → Int32) × Int32 × (Nat → Int32))) (hf : f_X4_dump a_thrown a_bases a_tops a_words a_roots a_reached a_order a_numbers a_size a_image x1 = some o) : ∀ sz : Nat, Met l yX4_dump wsX4_dump rm_X4_dump (gPre [.ref a_p, .int x1] (dC, dI) vwCl (gT cI cJ cH) (wMd cI a_p a_bases_p a_tops_p a_words_p a_roots_p a_order_p a_numbers_p a_image_p a_other_p a_input_p a_fresh_p a_freshRoots_p a_heads_p a_kept_p a_thrown a_bases a_tops a_words a_roots a_reached a_order a_numbers a_size a_image a_otherSize a_other a_waiting a_input a_at a_ended a_told a_many a_fresh a_freshRoots a_heads a_count a_kept) sz) (va_Qi (fun (r : Int32) (u : (Int32 × Int32 × (Nat → Int32) × (Nat → Int32) × Int32 × (Nat → Int32))) => o.1 = r ∧ o.2 = u) (gB (dC, dI) vwCl (gT cI cJ cH) (fun (u : (Int32 × Int32 × (Nat → Int32) × (Nat → Int32) × Int32 × (Nat → Int32))) => wMd cI a_p a_bases_p a_tops_p a_words_p a_roots_p a_order_p a_numbers_p a_image_p a_other_p a_input_p a_fresh_p a_freshRoots_p a_heads_p a_kept_p u.1 a_bases a_tops a_words a_roots u.2.1 u.2.2.1 u.2.2.2.1 u.2.2.2.2.1 u.2.2.2.2.2 a_otherSize a_other a_waiting a_input a_at a_ended a_told a_many a_fresh a_freshRoots a_heads a_count a_kept) (va_A (wMd cI a_p a_bases_p a_tops_p a_words_p a_roots_p a_order_p a_numbers_p a_image_p a_other_p a_input_p a_fresh_p a_freshRoots_p a_heads_p a_kept_p a_thrown a_bases a_tops a_words a_roots a_reached a_order a_numbers a_size a_image a_otherSize a_other a_waiting a_input a_at a_ended a_told a_many a_fresh a_freshRoots a_heads a_count a_kept) sz)) (va_A (wMd cI a_p a_bases_p a_tops_p a_words_p a_roots_p a_order_p a_numbers_p a_image_p a_other_p a_input_p a_fresh_p a_freshRoots_p a_heads_p a_kept_p a_thrown a_bases a_tops a_words a_roots a_reached a_order a_numbers a_size a_image a_otherSize a_other a_waiting a_input a_at a_ended a_told a_many a_fresh a_freshRoots a_heads a_count a_kept) sz)) 0 0 (va_A (wMd cI a_p a_bases_p a_tops_p a_words_p a_roots_p a_order_p a_numbers_p a_image_p a_other_p a_input_p a_fresh_p a_freshRoots_p a_heads_p a_kept_p a_thrown a_bases a_tops a_words a_roots a_reached a_order a_numbers a_size a_image a_otherSize a_other a_waiting a_input a_at a_ended a_told a_many a_fresh a_freshRoots a_heads a_count a_kept) sz) := by
  refine g_met (fun A => va_Qi (fun (r : Int32) (u : (Int32 × Int32 × (Nat → Int32) × (Nat → Int32) × Int32 × (Nat → Int32))) => o.1 = r ∧ o.2 = u) (gB (dC, dI) vwCl (gT cI cJ cH) (fun (u : (Int32 × Int32 × (Nat → Int32) × (Nat → Int32) × Int32 × (Nat → Int32))) => wMd cI a_p a_bases_p a_tops_p a_words_p a_roots_p a_order_p a_numbers_p a_image_p a_other_p a_input_p a_fresh_p a_freshRoots_p a_heads_p a_kept_p u.1 a_bases a_tops a_words a_roots u.2.1 u.2.2.1 u.2.2.2.1 u.2.2.2.2.1 u.2.2.2.2.2 a_otherSize a_other a_waiting a_input a_at a_ended a_told a_many a_fresh a_freshRoots a_heads a_count a_kept) A) A) (by decide) rfl (Nat.le_of_ble_eq_true rfl) ?_
  intro p e s m args below meth c A Q F hlocks hr hname hN hQ
  unfold f_X4_dump at hf
  refine g_lvE (lv' := [(0, .ref a_p), (1, .int x1)]) rfl ?_
  refine g_aload_n F dX4_dump_0 rfl 0 rfl ?_
  refine g_iload_n F dX4_dump_1 rfl 1 rfl ?_
  obtain ⟨o1, ho1, hf⟩ := bnE hf
  refine g_callSi (n := 1) (As := [.int x1]) F (c_X4_isHeap l dC dI cI cJ cH x1 o1 ho1) ggX4_dump_X4_isHeap rfl rfl rfl (by decide +kernel) (by decide +kernel) (by decide +kernel) (by decide +kernel) ⟨Nat.le_of_ble_eq_true rfl, Nat.le_of_ble_eq_true rfl⟩ ⟨Nat.le_of_ble_eq_true rfl, Nat.le_of_ble_eq_true rfl⟩ hN [] rfl rfl (fun _ => rfl) rfl (Nat.le_of_ble_eq_true rfl) rfl dX4_dump_2 (cells' := 0) (slots' := 0) rfl rfl (fun r u hp => ?_)
  subst hp
  refine g_ws (ws' := wMd cI a_p a_bases_p a_tops_p a_words_p a_roots_p a_order_p a_numbers_p a_image_p a_other_p a_input_p a_fresh_p a_freshRoots_p a_heads_p a_kept_p a_thrown a_bases a_tops a_words a_roots a_reached a_order a_numbers a_size a_image a_otherSize a_other a_waiting a_input a_at a_ended a_told a_many a_fresh a_freshRoots a_heads a_count a_kept) rfl ?_
  obtain ⟨j2, hj2, hf⟩ := bnE hf
  have Kj2 : gW p l e rm_X4_dump s m args below meth c 0 0 Q (dC, dI) vwCl A 2 (wMd cI a_p a_bases_p a_tops_p a_words_p a_roots_p a_order_p a_numbers_p a_image_p a_other_p a_input_p a_fresh_p a_freshRoots_p a_heads_p a_kept_p a_thrown a_bases a_tops a_words a_roots a_reached a_order a_numbers a_size a_image a_otherSize a_other a_waiting a_input a_at a_ended a_told a_many a_fresh a_freshRoots a_heads a_count a_kept) [(0, .ref a_p), (1, .int x1)] 25 [.int j2, .ref a_p] := by
    refine g_put F h_X4_dump_4 tyX4 tyX4_ok nmX4 0 rfl rfl 0 (by decide) (by decide +kernel) rfl rfl rfl (Nat.le_of_ble_eq_true rfl) dX4_dump_25 (ws' := wMd cI a_p a_bases_p a_tops_p a_words_p a_roots_p a_order_p a_numbers_p a_image_p a_other_p a_input_p a_fresh_p a_freshRoots_p a_heads_p a_kept_p j2 a_bases a_tops a_words a_roots a_reached a_order a_numbers a_size a_image a_otherSize a_other a_waiting a_input a_at a_ended a_told a_many a_fresh a_freshRoots a_heads a_count a_kept) rfl ?_
    refine g_aload_n F dX4_dump_28 rfl 0 rfl ?_
    refine g_get F h_X4_dump_4 0 rfl rfl 0 (by decide) (by decide +kernel) rfl dX4_dump_29 ?_
    refine g_if_le (tgt := 37) F dX4_dump_32 (by decide) (fun c32 => ?_) (fun c32 => ?_)
    · have hf := iteT hf c32
      refine g_aload_n F dX4_dump_37 rfl 0 rfl ?_
      refine g_iload_n F dX4_dump_38 rfl 1 rfl ?_
      obtain ⟨o3, ho3, hf⟩ := bnE hf
      refine g_callPv (n := 1) (As := [.int x1]) F (c_X4_makeImage l dC dI cI cJ cH a_p a_bases_p a_tops_p a_words_p a_roots_p a_order_p a_numbers_p a_image_p a_other_p a_input_p a_fresh_p a_freshRoots_p a_heads_p a_kept_p j2 a_bases a_tops a_words a_roots a_reached a_order a_numbers a_size a_image a_otherSize a_other a_waiting a_input a_at a_ended a_told a_many a_fresh a_freshRoots a_heads a_count a_kept x1 o3 ho3) ggX4_dump_X4_makeImage rfl rfl rfl (by decide +kernel) (by decide +kernel) (by decide +kernel) (by decide +kernel) (by decide +kernel) ⟨Nat.le_of_ble_eq_true rfl, Nat.le_of_ble_eq_true rfl⟩ ⟨Nat.le_of_ble_eq_true rfl, Nat.le_of_ble_eq_true rfl⟩ hN 0 rfl rfl rfl ([]) ([]) rfl (fun _ => rfl) rfl (Nat.le_of_ble_eq_true rfl) rfl dX4_dump_39 (cells' := 0) (slots' := 0) rfl rfl (fun u hp => ?_)
      subst hp
      refine g_ws (ws' := wMd cI a_p a_bases_p a_tops_p a_words_p a_roots_p a_order_p a_numbers_p a_image_p a_other_p a_input_p a_fresh_p a_freshRoots_p a_heads_p a_kept_p j2 a_bases a_tops a_words a_roots o3.1 o3.2.1 o3.2.2.1 o3.2.2.2.1 o3.2.2.2.2 a_otherSize a_other a_waiting a_input a_at a_ended a_told a_many a_fresh a_freshRoots a_heads a_count a_kept) rfl ?_
      refine g_aload_n F dX4_dump_42 rfl 0 rfl ?_
      refine g_get F h_X4_dump_4 0 rfl rfl 8 (by decide) (by decide +kernel) rfl dX4_dump_43 ?_
      subst hQ
      exact g_iret F hlocks hr (j2, o3.1, o3.2.1, o3.2.2.1, o3.2.2.2.1, o3.2.2.2.2) rfl (pr2 (Option.some.inj hf)) dX4_dump_46
    · have hf := iteF hf c32
      refine g_iconst (v := 0) F dX4_dump_35 rfl ?_
      subst hQ
      exact g_iret F hlocks hr (j2, a_reached, a_order, a_numbers, a_size, a_image) rfl (pr2 (Option.some.inj hf)) dX4_dump_36
  clear hf
  have hf := hj2
  refine g_if_ne (tgt := 12) F dX4_dump_5 (by decide) (fun c5 => ?_) (fun c5 => ?_)
  · have hf := iteF hf c5
    refine g_aload_n F dX4_dump_12 rfl 0 rfl ?_
    refine g_iload_n F dX4_dump_13 rfl 1 rfl ?_
    obtain ⟨o4, ho4, hf⟩ := bnE hf
    refine g_callPi (n := 1) (As := [.int x1]) F (c_X4_firstFault l dC dI cI cJ cH a_p a_bases_p a_tops_p a_words_p a_roots_p a_order_p a_numbers_p a_image_p a_other_p a_input_p a_fresh_p a_freshRoots_p a_heads_p a_kept_p a_thrown a_bases a_tops a_words a_roots a_reached a_order a_numbers a_size a_image a_otherSize a_other a_waiting a_input a_at a_ended a_told a_many a_fresh a_freshRoots a_heads a_count a_kept x1 o4 ho4) ggX4_dump_X4_firstFault rfl rfl rfl (by decide +kernel) (by decide +kernel) (by decide +kernel) (by decide +kernel) (by decide +kernel) ⟨Nat.le_of_ble_eq_true rfl, Nat.le_of_ble_eq_true rfl⟩ ⟨Nat.le_of_ble_eq_true rfl, Nat.le_of_ble_eq_true rfl⟩ hN 0 rfl rfl rfl ([]) ([]) rfl (fun _ => rfl) rfl (Nat.le_of_ble_eq_true rfl) rfl dX4_dump_14 (cells' := 0) (slots' := 0) rfl rfl (fun r u hp => ?_)
    subst hp
    refine g_ws (ws' := wMd cI a_p a_bases_p a_tops_p a_words_p a_roots_p a_order_p a_numbers_p a_image_p a_other_p a_input_p a_fresh_p a_freshRoots_p a_heads_p a_kept_p a_thrown a_bases a_tops a_words a_roots a_reached a_order a_numbers a_size a_image a_otherSize a_other a_waiting a_input a_at a_ended a_told a_many a_fresh a_freshRoots a_heads a_count a_kept) rfl ?_
    refine g_if_le (tgt := 24) F dX4_dump_17 (by decide) (fun c17 => ?_) (fun c17 => ?_)
    · have hf := iteT hf c17
      refine g_iconst (v := 0) F dX4_dump_24 rfl ?_
      cases hf
      refine g_lv [0, 1] rfl ?_
      exact Kj2
    · have hf := iteF hf c17
      refine g_iconst (v := 2) F dX4_dump_20 rfl ?_
      refine g_goto (tgt := 25) F dX4_dump_21 (by decide) ?_
      cases hf
      refine g_lv [0, 1] rfl ?_
      exact Kj2
  · have hf := iteT hf c5
    refine g_iconst (v := 1) F dX4_dump_8 rfl ?_
    refine g_goto (tgt := 25) F dX4_dump_9 (by decide) ?_
    cases hf
    refine g_lv [0, 1] rfl ?_
    exact Kj2

/-! HeapImagesModel.byteAt(I)I -/
def rm_X4_byteAt : Room := { frames := 0, cells := 0, slots := 0, locals := 0 }
theorem h_X4_byteAt_4 : ∀ w ∈ wsX40, w ∈ wsX4_byteAt := by decide +kernel
def f_X4_byteAt (a_thrown : Int32) (a_size : Int32) (a_image : (Nat → Int32)) (x1 : Int32) : Option (Int32 × Int32) :=
  Option.bind (α := Int32) (if x1 < 0 then some (1 : Int32) else if x1 < a_size then some (0 : Int32) else some (1 : Int32)) fun j1 => if j1 = (1 : Int32) then some ((0 : Int32), j1) else ck (inR x1 3000) (some (a_image x1.toNatClampNeg, j1))
set_option maxHeartbeats 4000000 in
set_option maxRecDepth 100000 in
theorem c_X4_byteAt (l : Launch) (dC : Nat → ClassId) (dI : Nat → Nat → Nat) (cI cJ cH : ClassId) (a_p a_bases_p a_tops_p a_words_p a_roots_p a_order_p a_numbers_p a_image_p a_other_p a_input_p a_fresh_p a_freshRoots_p a_heads_p a_kept_p : Nat)  (a_thrown : Int32) (a_bases : (Nat → Int32)) (a_tops : (Nat → Int32)) (a_words : (Nat → Int32)) (a_roots : (Nat → Int32)) (a_reached : Int32) (a_order : (Nat → Int32)) (a_numbers : (Nat → Int32)) (a_size : Int32) (a_image : (Nat → Int32)) (a_otherSize : Int32) (a_other : (Nat → Int32)) (a_waiting : Int32) (a_input : (Nat → Int32)) (a_at : Int32) (a_ended : Int32) (a_told : Int32) (a_many : Int32) (a_fresh : (Nat → Int32)) (a_freshRoots : (Nat → Int32)) (a_heads : (Nat → Int32)) (a_count : Int64) (a_kept : (Nat → Int32)) (x1 : Int32) (o : (Int32 × Int32)) (hf : f_X4_byteAt a_thrown a_size a_image x1 = some o) : ∀ sz : Nat, Met l yX4_byteAt wsX4_byteAt rm_X4_byteAt (gPre [.ref a_p, .int x1] (dC, dI) vwCl (gT cI cJ cH) (wMd cI a_p a_bases_p a_tops_p a_words_p a_roots_p a_order_p a_numbers_p a_image_p a_other_p a_input_p a_fresh_p a_freshRoots_p a_heads_p a_kept_p a_thrown a_bases a_tops a_words a_roots a_reached a_order a_numbers a_size a_image a_otherSize a_other a_waiting a_input a_at a_ended a_told a_many a_fresh a_freshRoots a_heads a_count a_kept) sz) (va_Qi (fun (r : Int32) (u : Int32) => o.1 = r ∧ o.2 = u) (gB (dC, dI) vwCl (gT cI cJ cH) (fun (u : Int32) => wMd cI a_p a_bases_p a_tops_p a_words_p a_roots_p a_order_p a_numbers_p a_image_p a_other_p a_input_p a_fresh_p a_freshRoots_p a_heads_p a_kept_p u a_bases a_tops a_words a_roots a_reached a_order a_numbers a_size a_image a_otherSize a_other a_waiting a_input a_at a_ended a_told a_many a_fresh a_freshRoots a_heads a_count a_kept) (va_A (wMd cI a_p a_bases_p a_tops_p a_words_p a_roots_p a_order_p a_numbers_p a_image_p a_other_p a_input_p a_fresh_p a_freshRoots_p a_heads_p a_kept_p a_thrown a_bases a_tops a_words a_roots a_reached a_order a_numbers a_size a_image a_otherSize a_other a_waiting a_input a_at a_ended a_told a_many a_fresh a_freshRoots a_heads a_count a_kept) sz)) (va_A (wMd cI a_p a_bases_p a_tops_p a_words_p a_roots_p a_order_p a_numbers_p a_image_p a_other_p a_input_p a_fresh_p a_freshRoots_p a_heads_p a_kept_p a_thrown a_bases a_tops a_words a_roots a_reached a_order a_numbers a_size a_image a_otherSize a_other a_waiting a_input a_at a_ended a_told a_many a_fresh a_freshRoots a_heads a_count a_kept) sz)) 0 0 (va_A (wMd cI a_p a_bases_p a_tops_p a_words_p a_roots_p a_order_p a_numbers_p a_image_p a_other_p a_input_p a_fresh_p a_freshRoots_p a_heads_p a_kept_p a_thrown a_bases a_tops a_words a_roots a_reached a_order a_numbers a_size a_image a_otherSize a_other a_waiting a_input a_at a_ended a_told a_many a_fresh a_freshRoots a_heads a_count a_kept) sz) := by
  refine g_met (fun A => va_Qi (fun (r : Int32) (u : Int32) => o.1 = r ∧ o.2 = u) (gB (dC, dI) vwCl (gT cI cJ cH) (fun (u : Int32) => wMd cI a_p a_bases_p a_tops_p a_words_p a_roots_p a_order_p a_numbers_p a_image_p a_other_p a_input_p a_fresh_p a_freshRoots_p a_heads_p a_kept_p u a_bases a_tops a_words a_roots a_reached a_order a_numbers a_size a_image a_otherSize a_other a_waiting a_input a_at a_ended a_told a_many a_fresh a_freshRoots a_heads a_count a_kept) A) A) (by decide) rfl (Nat.le_of_ble_eq_true rfl) ?_
  intro p e s m args below meth c A Q F hlocks hr hname hN hQ
  unfold f_X4_byteAt at hf
  refine g_lvE (lv' := [(0, .ref a_p), (1, .int x1)]) rfl ?_
  refine g_aload_n F dX4_byteAt_0 rfl 0 rfl ?_
  refine g_iload_n F dX4_byteAt_1 rfl 1 rfl ?_
  obtain ⟨j1, hj1, hf⟩ := bnE hf
  have Kj1 : gW p l e rm_X4_byteAt s m args below meth c 0 0 Q (dC, dI) vwCl A 2 (wMd cI a_p a_bases_p a_tops_p a_words_p a_roots_p a_order_p a_numbers_p a_image_p a_other_p a_input_p a_fresh_p a_freshRoots_p a_heads_p a_kept_p a_thrown a_bases a_tops a_words a_roots a_reached a_order a_numbers a_size a_image a_otherSize a_other a_waiting a_input a_at a_ended a_told a_many a_fresh a_freshRoots a_heads a_count a_kept) [(0, .ref a_p), (1, .int x1)] 18 [.int j1, .ref a_p] := by
    refine g_put F h_X4_byteAt_4 tyX4 tyX4_ok nmX4 0 rfl rfl 0 (by decide) (by decide +kernel) rfl rfl rfl (Nat.le_of_ble_eq_true rfl) dX4_byteAt_18 (ws' := wMd cI a_p a_bases_p a_tops_p a_words_p a_roots_p a_order_p a_numbers_p a_image_p a_other_p a_input_p a_fresh_p a_freshRoots_p a_heads_p a_kept_p j1 a_bases a_tops a_words a_roots a_reached a_order a_numbers a_size a_image a_otherSize a_other a_waiting a_input a_at a_ended a_told a_many a_fresh a_freshRoots a_heads a_count a_kept) rfl ?_
    refine g_aload_n F dX4_byteAt_21 rfl 0 rfl ?_
    refine g_get F h_X4_byteAt_4 0 rfl rfl 0 (by decide) (by decide +kernel) rfl dX4_byteAt_22 ?_
    refine g_iconst (v := 1) F dX4_byteAt_25 rfl ?_
    refine g_icmp_ne (tgt := 33) F dX4_byteAt_26 (by decide) (fun c26 => ?_) (fun c26 => ?_)
    · have hf := iteF hf c26
      refine g_aload_n F dX4_byteAt_33 rfl 0 rfl ?_
      refine g_get F h_X4_byteAt_4 0 rfl rfl 9 (by decide) (by decide +kernel) rfl dX4_byteAt_34 ?_
      refine g_iload_n F dX4_byteAt_37 rfl 1 rfl ?_
      obtain ⟨h2, hf⟩ := ckE hf
      refine g_iald F 7 0 rfl rfl h2 dX4_byteAt_38 ?_
      subst hQ
      exact g_iret F hlocks hr j1 rfl (pr2 (Option.some.inj hf)) dX4_byteAt_39
    · have hf := iteT hf c26
      refine g_iconst (v := 0) F dX4_byteAt_29 rfl ?_
      refine g_goto (tgt := 39) F dX4_byteAt_30 (by decide) ?_
      subst hQ
      exact g_iret F hlocks hr j1 rfl (pr2 (Option.some.inj hf)) dX4_byteAt_39
  clear hf
  have hf := hj1
  refine g_if_lt (tgt := 13) F dX4_byteAt_2 (by decide) (fun c2 => ?_) (fun c2 => ?_)
  · have hf := iteT hf c2
    refine g_iconst (v := 1) F dX4_byteAt_13 rfl ?_
    refine g_goto (tgt := 18) F dX4_byteAt_14 (by decide) ?_
    cases hf
    refine g_lv [0, 1] rfl ?_
    exact Kj1
  · have hf := iteF hf c2
    refine g_iload_n F dX4_byteAt_5 rfl 1 rfl ?_
    refine g_aload_n F dX4_byteAt_6 rfl 0 rfl ?_
    refine g_get F h_X4_byteAt_4 0 rfl rfl 8 (by decide) (by decide +kernel) rfl dX4_byteAt_7 ?_
    refine g_icmp_lt (tgt := 17) F dX4_byteAt_10 (by decide) (fun c10 => ?_) (fun c10 => ?_)
    · have hf := iteT hf c10
      refine g_iconst (v := 0) F dX4_byteAt_17 rfl ?_
      cases hf
      refine g_lv [0, 1] rfl ?_
      exact Kj1
    · have hf := iteF hf c10
      refine g_iconst (v := 1) F dX4_byteAt_13 rfl ?_
      refine g_goto (tgt := 18) F dX4_byteAt_14 (by decide) ?_
      cases hf
      refine g_lv [0, 1] rfl ?_
      exact Kj1

/-! HeapImagesModel.feed(I)I -/
def rm_X4_feed : Room := { frames := 0, cells := 0, slots := 0, locals := 0 }
theorem h_X4_feed_4 : ∀ w ∈ wsX40, w ∈ wsX4_feed := by decide +kernel
def f_X4_feed (a_thrown : Int32) (a_waiting : Int32) (a_input : (Nat → Int32)) (x1 : Int32) : Option (Int32 × Int32 × Int32 × (Nat → Int32)) :=
  Option.bind (α := Int32) (if x1 < 0 then some (1 : Int32) else if x1 ≤ (255 : Int32) then if a_waiting = (2000 : Int32) then some (2 : Int32) else some (0 : Int32) else some (1 : Int32)) fun j1 => if j1 ≤ 0 then ck (inR a_waiting 2000) (some (a_waiting + (1 : Int32), j1, a_waiting + (1 : Int32), upd a_input a_waiting.toNatClampNeg x1)) else some ((0 : Int32), j1, a_waiting, a_input)
set_option maxHeartbeats 4000000 in
set_option maxRecDepth 100000 in
theorem c_X4_feed (l : Launch) (dC : Nat → ClassId) (dI : Nat → Nat → Nat) (cI cJ cH : ClassId) (a_p a_bases_p a_tops_p a_words_p a_roots_p a_order_p a_numbers_p a_image_p a_other_p a_input_p a_fresh_p a_freshRoots_p a_heads_p a_kept_p : Nat)  (a_thrown : Int32) (a_bases : (Nat → Int32)) (a_tops : (Nat → Int32)) (a_words : (Nat → Int32)) (a_roots : (Nat → Int32)) (a_reached : Int32) (a_order : (Nat → Int32)) (a_numbers : (Nat → Int32)) (a_size : Int32) (a_image : (Nat → Int32)) (a_otherSize : Int32) (a_other : (Nat → Int32)) (a_waiting : Int32) (a_input : (Nat → Int32)) (a_at : Int32) (a_ended : Int32) (a_told : Int32) (a_many : Int32) (a_fresh : (Nat → Int32)) (a_freshRoots : (Nat → Int32)) (a_heads : (Nat → Int32)) (a_count : Int64) (a_kept : (Nat → Int32)) (x1 : Int32) (o : (Int32 × Int32 × Int32 × (Nat → Int32))) (hf : f_X4_feed a_thrown a_waiting a_input x1 = some o) : ∀ sz : Nat, Met l yX4_feed wsX4_feed rm_X4_feed (gPre [.ref a_p, .int x1] (dC, dI) vwCl (gT cI cJ cH) (wMd cI a_p a_bases_p a_tops_p a_words_p a_roots_p a_order_p a_numbers_p a_image_p a_other_p a_input_p a_fresh_p a_freshRoots_p a_heads_p a_kept_p a_thrown a_bases a_tops a_words a_roots a_reached a_order a_numbers a_size a_image a_otherSize a_other a_waiting a_input a_at a_ended a_told a_many a_fresh a_freshRoots a_heads a_count a_kept) sz) (va_Qi (fun (r : Int32) (u : (Int32 × Int32 × (Nat → Int32))) => o.1 = r ∧ o.2 = u) (gB (dC, dI) vwCl (gT cI cJ cH) (fun (u : (Int32 × Int32 × (Nat → Int32))) => wMd cI a_p a_bases_p a_tops_p a_words_p a_roots_p a_order_p a_numbers_p a_image_p a_other_p a_input_p a_fresh_p a_freshRoots_p a_heads_p a_kept_p u.1 a_bases a_tops a_words a_roots a_reached a_order a_numbers a_size a_image a_otherSize a_other u.2.1 u.2.2 a_at a_ended a_told a_many a_fresh a_freshRoots a_heads a_count a_kept) (va_A (wMd cI a_p a_bases_p a_tops_p a_words_p a_roots_p a_order_p a_numbers_p a_image_p a_other_p a_input_p a_fresh_p a_freshRoots_p a_heads_p a_kept_p a_thrown a_bases a_tops a_words a_roots a_reached a_order a_numbers a_size a_image a_otherSize a_other a_waiting a_input a_at a_ended a_told a_many a_fresh a_freshRoots a_heads a_count a_kept) sz)) (va_A (wMd cI a_p a_bases_p a_tops_p a_words_p a_roots_p a_order_p a_numbers_p a_image_p a_other_p a_input_p a_fresh_p a_freshRoots_p a_heads_p a_kept_p a_thrown a_bases a_tops a_words a_roots a_reached a_order a_numbers a_size a_image a_otherSize a_other a_waiting a_input a_at a_ended a_told a_many a_fresh a_freshRoots a_heads a_count a_kept) sz)) 0 0 (va_A (wMd cI a_p a_bases_p a_tops_p a_words_p a_roots_p a_order_p a_numbers_p a_image_p a_other_p a_input_p a_fresh_p a_freshRoots_p a_heads_p a_kept_p a_thrown a_bases a_tops a_words a_roots a_reached a_order a_numbers a_size a_image a_otherSize a_other a_waiting a_input a_at a_ended a_told a_many a_fresh a_freshRoots a_heads a_count a_kept) sz) := by
  refine g_met (fun A => va_Qi (fun (r : Int32) (u : (Int32 × Int32 × (Nat → Int32))) => o.1 = r ∧ o.2 = u) (gB (dC, dI) vwCl (gT cI cJ cH) (fun (u : (Int32 × Int32 × (Nat → Int32))) => wMd cI a_p a_bases_p a_tops_p a_words_p a_roots_p a_order_p a_numbers_p a_image_p a_other_p a_input_p a_fresh_p a_freshRoots_p a_heads_p a_kept_p u.1 a_bases a_tops a_words a_roots a_reached a_order a_numbers a_size a_image a_otherSize a_other u.2.1 u.2.2 a_at a_ended a_told a_many a_fresh a_freshRoots a_heads a_count a_kept) A) A) (by decide) rfl (Nat.le_of_ble_eq_true rfl) ?_
  intro p e s m args below meth c A Q F hlocks hr hname hN hQ
  unfold f_X4_feed at hf
  refine g_lvE (lv' := [(0, .ref a_p), (1, .int x1)]) rfl ?_
  refine g_aload_n F dX4_feed_0 rfl 0 rfl ?_
  refine g_iload_n F dX4_feed_1 rfl 1 rfl ?_
  obtain ⟨j1, hj1, hf⟩ := bnE hf
  have Kj1 : gW p l e rm_X4_feed s m args below meth c 0 0 Q (dC, dI) vwCl A 2 (wMd cI a_p a_bases_p a_tops_p a_words_p a_roots_p a_order_p a_numbers_p a_image_p a_other_p a_input_p a_fresh_p a_freshRoots_p a_heads_p a_kept_p a_thrown a_bases a_tops a_words a_roots a_reached a_order a_numbers a_size a_image a_otherSize a_other a_waiting a_input a_at a_ended a_told a_many a_fresh a_freshRoots a_heads a_count a_kept) [(0, .ref a_p), (1, .int x1)] 31 [.int j1, .ref a_p] := by
    refine g_put F h_X4_feed_4 tyX4 tyX4_ok nmX4 0 rfl rfl 0 (by decide) (by decide +kernel) rfl rfl rfl (Nat.le_of_ble_eq_true rfl) dX4_feed_31 (ws' := wMd cI a_p a_bases_p a_tops_p a_words_p a_roots_p a_order_p a_numbers_p a_image_p a_other_p a_input_p a_fresh_p a_freshRoots_p a_heads_p a_kept_p j1 a_bases a_tops a_words a_roots a_reached a_order a_numbers a_size a_image a_otherSize a_other a_waiting a_input a_at a_ended a_told a_many a_fresh a_freshRoots a_heads a_count a_kept) rfl ?_
    refine g_aload_n F dX4_feed_34 rfl 0 rfl ?_
    refine g_get F h_X4_feed_4 0 rfl rfl 0 (by decide) (by decide +kernel) rfl dX4_feed_35 ?_
    refine g_if_le (tgt := 43) F dX4_feed_38 (by decide) (fun c38 => ?_) (fun c38 => ?_)
    · have hf := iteT hf c38
      refine g_aload_n F dX4_feed_43 rfl 0 rfl ?_
      refine g_get F h_X4_feed_4 0 rfl rfl 13 (by decide) (by decide +kernel) rfl dX4_feed_44 ?_
      refine g_aload_n F dX4_feed_47 rfl 0 rfl ?_
      refine g_get F h_X4_feed_4 0 rfl rfl 12 (by decide) (by decide +kernel) rfl dX4_feed_48 ?_
      refine g_iload_n F dX4_feed_51 rfl 1 rfl ?_
      obtain ⟨h2, hf⟩ := ckE hf
      refine g_iast F 9 0 rfl rfl h2 dX4_feed_52 (ws' := wMd cI a_p a_bases_p a_tops_p a_words_p a_roots_p a_order_p a_numbers_p a_image_p a_other_p a_input_p a_fresh_p a_freshRoots_p a_heads_p a_kept_p j1 a_bases a_tops a_words a_roots a_reached a_order a_numbers a_size a_image a_otherSize a_other a_waiting (upd a_input a_waiting.toNatClampNeg x1) a_at a_ended a_told a_many a_fresh a_freshRoots a_heads a_count a_kept) rfl ?_
      refine g_aload_n F dX4_feed_53 rfl 0 rfl ?_
      refine g_dup F dX4_feed_54 rfl ?_
      refine g_get F h_X4_feed_4 0 rfl rfl 12 (by decide) (by decide +kernel) rfl dX4_feed_55 ?_
      refine g_iconst (v := 1) F dX4_feed_58 rfl ?_
      refine g_iadd F dX4_feed_59 ?_
      refine g_put F h_X4_feed_4 tyX4 tyX4_ok nmX4 0 rfl rfl 12 (by decide) (by decide +kernel) rfl rfl rfl (Nat.le_of_ble_eq_true rfl) dX4_feed_60 (ws' := wMd cI a_p a_bases_p a_tops_p a_words_p a_roots_p a_order_p a_numbers_p a_image_p a_other_p a_input_p a_fresh_p a_freshRoots_p a_heads_p a_kept_p j1 a_bases a_tops a_words a_roots a_reached a_order a_numbers a_size a_image a_otherSize a_other (a_waiting + (1 : Int32)) (upd a_input a_waiting.toNatClampNeg x1) a_at a_ended a_told a_many a_fresh a_freshRoots a_heads a_count a_kept) rfl ?_
      refine g_aload_n F dX4_feed_63 rfl 0 rfl ?_
      refine g_get F h_X4_feed_4 0 rfl rfl 12 (by decide) (by decide +kernel) rfl dX4_feed_64 ?_
      subst hQ
      exact g_iret F hlocks hr (j1, a_waiting + (1 : Int32), upd a_input a_waiting.toNatClampNeg x1) rfl (pr2 (Option.some.inj hf)) dX4_feed_67
    · have hf := iteF hf c38
      refine g_iconst (v := 0) F dX4_feed_41 rfl ?_
      subst hQ
      exact g_iret F hlocks hr (j1, a_waiting, a_input) rfl (pr2 (Option.some.inj hf)) dX4_feed_42
  clear hf
  have hf := hj1
  refine g_if_lt (tgt := 12) F dX4_feed_2 (by decide) (fun c2 => ?_) (fun c2 => ?_)
  · have hf := iteT hf c2
    refine g_iconst (v := 1) F dX4_feed_12 rfl ?_
    refine g_goto (tgt := 31) F dX4_feed_13 (by decide) ?_
    cases hf
    refine g_lv [0, 1] rfl ?_
    exact Kj1
  · have hf := iteF hf c2
    refine g_iload_n F dX4_feed_5 rfl 1 rfl ?_
    refine g_sipush (v := 255) F dX4_feed_6 rfl ?_
    refine g_icmp_le (tgt := 16) F dX4_feed_9 (by decide) (fun c9 => ?_) (fun c9 => ?_)
    · have hf := iteT hf c9
      refine g_aload_n F dX4_feed_16 rfl 0 rfl ?_
      refine g_get F h_X4_feed_4 0 rfl rfl 12 (by decide) (by decide +kernel) rfl dX4_feed_17 ?_
      refine g_sipush (v := 2000) F dX4_feed_20 rfl ?_
      refine g_icmp_ne (tgt := 30) F dX4_feed_23 (by decide) (fun c23 => ?_) (fun c23 => ?_)
      · have hf := iteF hf c23
        refine g_iconst (v := 0) F dX4_feed_30 rfl ?_
        cases hf
        refine g_lv [0, 1] rfl ?_
        exact Kj1
      · have hf := iteT hf c23
        refine g_iconst (v := 2) F dX4_feed_26 rfl ?_
        refine g_goto (tgt := 31) F dX4_feed_27 (by decide) ?_
        cases hf
        refine g_lv [0, 1] rfl ?_
        exact Kj1
    · have hf := iteF hf c9
      refine g_iconst (v := 1) F dX4_feed_12 rfl ?_
      refine g_goto (tgt := 31) F dX4_feed_13 (by decide) ?_
      cases hf
      refine g_lv [0, 1] rfl ?_
      exact Kj1

/-! HeapImagesModel.pass(II)I -/
def rm_X4_pass : Room := { frames := 0, cells := 0, slots := 0, locals := 0 }
theorem h_X4_pass_4 : ∀ w ∈ wsX40, w ∈ wsX4_pass := by decide +kernel
def f_X4_pass_L94_s (a_image : (Nat → Int32)) (y1 : Int32) (y3 : Int32) (rc : Int32 → Int32 → (Nat → Int32) → Option (Int32 × (Nat → Int32))) (z4 : Int32) (a_waiting : Int32) (a_input : (Nat → Int32)) : Option (Int32 × (Nat → Int32)) :=
  if y3 ≤ z4 then some (a_waiting, a_input) else ck (inR (y1 + z4) 3000) (ck (inR a_waiting 2000) (nm (z4 + (1 : Int32)) fun v5 => rc v5 (a_waiting + (1 : Int32)) (upd a_input a_waiting.toNatClampNeg (a_image (y1 + z4).toNatClampNeg))))
def f_X4_pass_L94 (a_image : (Nat → Int32)) (y1 : Int32) (y3 : Int32) : Nat → Int32 → Int32 → (Nat → Int32) → Option (Int32 × (Nat → Int32))
  | 0, _, _, _ => none
  | n + 1, z4, a_waiting, a_input => f_X4_pass_L94_s a_image y1 y3 (f_X4_pass_L94 a_image y1 y3 n) z4 a_waiting a_input
set_option maxHeartbeats 4000000 in
theorem w_X4_pass_L94 {p : Program} {l : Launch} {e : Env} {s : State} {m : MethodId} {args : Array Value} {below : List Frame} {meth : Method} {c : Code} {A : Nat → Prop} {Q : State → Prop} {dC : Nat → ClassId} {dI : Nat → Nat → Nat} {cI cJ cH : ClassId} {a_p a_bases_p a_tops_p a_words_p a_roots_p a_order_p a_numbers_p a_image_p a_other_p a_input_p a_fresh_p a_freshRoots_p a_heads_p a_kept_p : Nat} {a_thrown : Int32} {a_bases : (Nat → Int32)} {a_tops : (Nat → Int32)} {a_words : (Nat → Int32)} {a_roots : (Nat → Int32)} {a_reached : Int32} {a_order : (Nat → Int32)} {a_numbers : (Nat → Int32)} {a_size : Int32} {a_image : (Nat → Int32)} {a_otherSize : Int32} {a_other : (Nat → Int32)} {a_at : Int32} {a_ended : Int32} {a_told : Int32} {a_many : Int32} {a_fresh : (Nat → Int32)} {a_freshRoots : (Nat → Int32)} {a_heads : (Nat → Int32)} {a_count : Int64} {a_kept : (Nat → Int32)} {y1 : Int32} {y3 : Int32} (F : gF p m c cX4_pass 5 s args wsX4_pass yX4_pass.cls (dC, dI) vwCl (gT cI cJ cH) A) (hN : ∀ w ∈ gN, va_Nw w s) : ∀ (n : Nat) (z4 : Int32) (a_waiting : Int32) (a_input : (Nat → Int32)) (o : (Int32 × (Nat → Int32))), f_X4_pass_L94 a_image y1 y3 n z4 a_waiting a_input = some o → (gW p l e rm_X4_pass s m args below meth c 0 0 Q (dC, dI) vwCl A 5 (wMd cI a_p a_bases_p a_tops_p a_words_p a_roots_p a_order_p a_numbers_p a_image_p a_other_p a_input_p a_fresh_p a_freshRoots_p a_heads_p a_kept_p a_thrown a_bases a_tops a_words a_roots a_reached a_order a_numbers a_size a_image a_otherSize a_other o.1 o.2 a_at a_ended a_told a_many a_fresh a_freshRoots a_heads a_count a_kept) [(3, .int y3)] 134 []) → gW p l e rm_X4_pass s m args below meth c 0 0 Q (dC, dI) vwCl A 5 (wMd cI a_p a_bases_p a_tops_p a_words_p a_roots_p a_order_p a_numbers_p a_image_p a_other_p a_input_p a_fresh_p a_freshRoots_p a_heads_p a_kept_p a_thrown a_bases a_tops a_words a_roots a_reached a_order a_numbers a_size a_image a_otherSize a_other a_waiting a_input a_at a_ended a_told a_many a_fresh a_freshRoots a_heads a_count a_kept) [(0, .ref a_p), (1, .int y1), (3, .int y3), (4, .int z4)] 94 [] := by
  intro n
  induction n with
  | zero =>
    intro z4 a_waiting a_input o hf E0
    change none = some o at hf
    cases hf
  | succ n ih =>
    intro z4 a_waiting a_input o hf E0
    change f_X4_pass_L94_s a_image y1 y3 (f_X4_pass_L94 a_image y1 y3 n) z4 a_waiting a_input = some o at hf
    unfold f_X4_pass_L94_s at hf
    refine g_iload F dX4_pass_94 3 rfl ?_
    refine g_iload_n F dX4_pass_96 rfl 2 rfl ?_
    refine g_icmp_ge (tgt := 134) F dX4_pass_97 (by decide) (fun c97 => ?_) (fun c97 => ?_)
    · have hf := iteT hf c97
      cases hf
      refine g_lv [2] rfl ?_
      exact E0
    · have hf := iteF hf c97
      refine g_aload_n F dX4_pass_100 rfl 0 rfl ?_
      refine g_get F h_X4_pass_4 0 rfl rfl 13 (by decide) (by decide +kernel) rfl dX4_pass_101 ?_
      refine g_aload_n F dX4_pass_104 rfl 0 rfl ?_
      refine g_get F h_X4_pass_4 0 rfl rfl 12 (by decide) (by decide +kernel) rfl dX4_pass_105 ?_
      refine g_aload_n F dX4_pass_108 rfl 0 rfl ?_
      refine g_get F h_X4_pass_4 0 rfl rfl 9 (by decide) (by decide +kernel) rfl dX4_pass_109 ?_
      refine g_iload_n F dX4_pass_112 rfl 1 rfl ?_
      refine g_iload F dX4_pass_113 3 rfl ?_
      refine g_iadd F dX4_pass_115 ?_
      obtain ⟨h3, hf⟩ := ckE hf
      refine g_iald F 7 0 rfl rfl h3 dX4_pass_116 ?_
      obtain ⟨h4, hf⟩ := ckE hf
      refine g_iast F 9 0 rfl rfl h4 dX4_pass_117 (ws' := wMd cI a_p a_bases_p a_tops_p a_words_p a_roots_p a_order_p a_numbers_p a_image_p a_other_p a_input_p a_fresh_p a_freshRoots_p a_heads_p a_kept_p a_thrown a_bases a_tops a_words a_roots a_reached a_order a_numbers a_size a_image a_otherSize a_other a_waiting (upd a_input a_waiting.toNatClampNeg (a_image (y1 + z4).toNatClampNeg)) a_at a_ended a_told a_many a_fresh a_freshRoots a_heads a_count a_kept) rfl ?_
      refine g_aload_n F dX4_pass_118 rfl 0 rfl ?_
      refine g_dup F dX4_pass_119 rfl ?_
      refine g_get F h_X4_pass_4 0 rfl rfl 12 (by decide) (by decide +kernel) rfl dX4_pass_120 ?_
      refine g_iconst (v := 1) F dX4_pass_123 rfl ?_
      refine g_iadd F dX4_pass_124 ?_
      refine g_put F h_X4_pass_4 tyX4 tyX4_ok nmX4 0 rfl rfl 12 (by decide) (by decide +kernel) rfl rfl rfl (Nat.le_of_ble_eq_true rfl) dX4_pass_125 (ws' := wMd cI a_p a_bases_p a_tops_p a_words_p a_roots_p a_order_p a_numbers_p a_image_p a_other_p a_input_p a_fresh_p a_freshRoots_p a_heads_p a_kept_p a_thrown a_bases a_tops a_words a_roots a_reached a_order a_numbers a_size a_image a_otherSize a_other (a_waiting + (1 : Int32)) (upd a_input a_waiting.toNatClampNeg (a_image (y1 + z4).toNatClampNeg)) a_at a_ended a_told a_many a_fresh a_freshRoots a_heads a_count a_kept) rfl ?_
      obtain ⟨v5, ev5, hf⟩ := nmE hf
      refine g_iinc (j := 3) (lv' := [(4, .int v5), (0, .ref a_p), (1, .int y1), (3, .int y3)]) F dX4_pass_128 rfl ev5.symm (by decide) rfl ?_
      refine g_goto (tgt := 94) F dX4_pass_131 (by decide) ?_
      refine g_lv [1, 2, 3, 0] rfl ?_
      exact ih _ _ _ o hf E0
def f_X4_pass (a_thrown : Int32) (a_size : Int32) (a_image : (Nat → Int32)) (a_waiting : Int32) (a_input : (Nat → Int32)) (x1 : Int32) (x2 : Int32) : Option (Int32 × Int32 × Int32 × (Nat → Int32)) :=
  Option.bind (α := Int32) (if x1 < 0 then some (0 : Int32) else if x1 < a_size then if (a_size - x1) ≤ x2 then some (a_size - x1) else some x2 else some (0 : Int32)) fun j1 => Option.bind (α := Int32) (if x1 < 0 then some (1 : Int32) else if x1 < a_size then if 0 ≤ x2 then if (a_waiting + j1) ≤ (2000 : Int32) then some (0 : Int32) else some (3 : Int32) else some (2 : Int32) else some (1 : Int32)) fun j2 => if j2 ≤ 0 then Option.bind (f_X4_pass_L94 a_image x1 j1 FU (0 : Int32) a_waiting a_input) fun o6 => some (j1, j2, o6.1, o6.2) else some ((0 : Int32), j2, a_waiting, a_input)
set_option maxHeartbeats 4000000 in
set_option maxRecDepth 100000 in
theorem c_X4_pass (l : Launch) (dC : Nat → ClassId) (dI : Nat → Nat → Nat) (cI cJ cH : ClassId) (a_p a_bases_p a_tops_p a_words_p a_roots_p a_order_p a_numbers_p a_image_p a_other_p a_input_p a_fresh_p a_freshRoots_p a_heads_p a_kept_p : Nat)  (a_thrown : Int32) (a_bases : (Nat → Int32)) (a_tops : (Nat → Int32)) (a_words : (Nat → Int32)) (a_roots : (Nat → Int32)) (a_reached : Int32) (a_order : (Nat → Int32)) (a_numbers : (Nat → Int32)) (a_size : Int32) (a_image : (Nat → Int32)) (a_otherSize : Int32) (a_other : (Nat → Int32)) (a_waiting : Int32) (a_input : (Nat → Int32)) (a_at : Int32) (a_ended : Int32) (a_told : Int32) (a_many : Int32) (a_fresh : (Nat → Int32)) (a_freshRoots : (Nat → Int32)) (a_heads : (Nat → Int32)) (a_count : Int64) (a_kept : (Nat → Int32)) (x1 : Int32) (x2 : Int32) (o : (Int32 × Int32 × Int32 × (Nat → Int32))) (hf : f_X4_pass a_thrown a_size a_image a_waiting a_input x1 x2 = some o) : ∀ sz : Nat, Met l yX4_pass wsX4_pass rm_X4_pass (gPre [.ref a_p, .int x1, .int x2] (dC, dI) vwCl (gT cI cJ cH) (wMd cI a_p a_bases_p a_tops_p a_words_p a_roots_p a_order_p a_numbers_p a_image_p a_other_p a_input_p a_fresh_p a_freshRoots_p a_heads_p a_kept_p a_thrown a_bases a_tops a_words a_roots a_reached a_order a_numbers a_size a_image a_otherSize a_other a_waiting a_input a_at a_ended a_told a_many a_fresh a_freshRoots a_heads a_count a_kept) sz) (va_Qi (fun (r : Int32) (u : (Int32 × Int32 × (Nat → Int32))) => o.1 = r ∧ o.2 = u) (gB (dC, dI) vwCl (gT cI cJ cH) (fun (u : (Int32 × Int32 × (Nat → Int32))) => wMd cI a_p a_bases_p a_tops_p a_words_p a_roots_p a_order_p a_numbers_p a_image_p a_other_p a_input_p a_fresh_p a_freshRoots_p a_heads_p a_kept_p u.1 a_bases a_tops a_words a_roots a_reached a_order a_numbers a_size a_image a_otherSize a_other u.2.1 u.2.2 a_at a_ended a_told a_many a_fresh a_freshRoots a_heads a_count a_kept) (va_A (wMd cI a_p a_bases_p a_tops_p a_words_p a_roots_p a_order_p a_numbers_p a_image_p a_other_p a_input_p a_fresh_p a_freshRoots_p a_heads_p a_kept_p a_thrown a_bases a_tops a_words a_roots a_reached a_order a_numbers a_size a_image a_otherSize a_other a_waiting a_input a_at a_ended a_told a_many a_fresh a_freshRoots a_heads a_count a_kept) sz)) (va_A (wMd cI a_p a_bases_p a_tops_p a_words_p a_roots_p a_order_p a_numbers_p a_image_p a_other_p a_input_p a_fresh_p a_freshRoots_p a_heads_p a_kept_p a_thrown a_bases a_tops a_words a_roots a_reached a_order a_numbers a_size a_image a_otherSize a_other a_waiting a_input a_at a_ended a_told a_many a_fresh a_freshRoots a_heads a_count a_kept) sz)) 0 0 (va_A (wMd cI a_p a_bases_p a_tops_p a_words_p a_roots_p a_order_p a_numbers_p a_image_p a_other_p a_input_p a_fresh_p a_freshRoots_p a_heads_p a_kept_p a_thrown a_bases a_tops a_words a_roots a_reached a_order a_numbers a_size a_image a_otherSize a_other a_waiting a_input a_at a_ended a_told a_many a_fresh a_freshRoots a_heads a_count a_kept) sz) := by
  refine g_met (fun A => va_Qi (fun (r : Int32) (u : (Int32 × Int32 × (Nat → Int32))) => o.1 = r ∧ o.2 = u) (gB (dC, dI) vwCl (gT cI cJ cH) (fun (u : (Int32 × Int32 × (Nat → Int32))) => wMd cI a_p a_bases_p a_tops_p a_words_p a_roots_p a_order_p a_numbers_p a_image_p a_other_p a_input_p a_fresh_p a_freshRoots_p a_heads_p a_kept_p u.1 a_bases a_tops a_words a_roots a_reached a_order a_numbers a_size a_image a_otherSize a_other u.2.1 u.2.2 a_at a_ended a_told a_many a_fresh a_freshRoots a_heads a_count a_kept) A) A) (by decide) rfl (Nat.le_of_ble_eq_true rfl) ?_
  intro p e s m args below meth c A Q F hlocks hr hname hN hQ
  unfold f_X4_pass at hf
  refine g_lvE (lv' := [(0, .ref a_p), (1, .int x1), (2, .int x2)]) rfl ?_
  refine g_iload_n F dX4_pass_0 rfl 1 rfl ?_
  obtain ⟨j1, hj1, hf⟩ := bnE hf
  have Kj1 : gW p l e rm_X4_pass s m args below meth c 0 0 Q (dC, dI) vwCl A 5 (wMd cI a_p a_bases_p a_tops_p a_words_p a_roots_p a_order_p a_numbers_p a_image_p a_other_p a_input_p a_fresh_p a_freshRoots_p a_heads_p a_kept_p a_thrown a_bases a_tops a_words a_roots a_reached a_order a_numbers a_size a_image a_otherSize a_other a_waiting a_input a_at a_ended a_told a_many a_fresh a_freshRoots a_heads a_count a_kept) [(0, .ref a_p), (1, .int x1), (2, .int x2)] 36 [.int j1] := by
    refine g_istore_n (lv' := [(3, .int j1), (0, .ref a_p), (1, .int x1), (2, .int x2)]) F dX4_pass_36 rfl (by decide) rfl ?_
    refine g_aload_n F dX4_pass_37 rfl 1 rfl ?_
    refine g_iload_n F dX4_pass_38 rfl 2 rfl ?_
    obtain ⟨j2, hj2, hf⟩ := bnE hf
    have Kj2 : gW p l e rm_X4_pass s m args below meth c 0 0 Q (dC, dI) vwCl A 5 (wMd cI a_p a_bases_p a_tops_p a_words_p a_roots_p a_order_p a_numbers_p a_image_p a_other_p a_input_p a_fresh_p a_freshRoots_p a_heads_p a_kept_p a_thrown a_bases a_tops a_words a_roots a_reached a_order a_numbers a_size a_image a_otherSize a_other a_waiting a_input a_at a_ended a_told a_many a_fresh a_freshRoots a_heads a_count a_kept) [(0, .ref a_p), (1, .int x1), (3, .int j1)] 79 [.int j2, .ref a_p] := by
      refine g_put F h_X4_pass_4 tyX4 tyX4_ok nmX4 0 rfl rfl 0 (by decide) (by decide +kernel) rfl rfl rfl (Nat.le_of_ble_eq_true rfl) dX4_pass_79 (ws' := wMd cI a_p a_bases_p a_tops_p a_words_p a_roots_p a_order_p a_numbers_p a_image_p a_other_p a_input_p a_fresh_p a_freshRoots_p a_heads_p a_kept_p j2 a_bases a_tops a_words a_roots a_reached a_order a_numbers a_size a_image a_otherSize a_other a_waiting a_input a_at a_ended a_told a_many a_fresh a_freshRoots a_heads a_count a_kept) rfl ?_
      refine g_aload_n F dX4_pass_82 rfl 0 rfl ?_
      refine g_get F h_X4_pass_4 0 rfl rfl 0 (by decide) (by decide +kernel) rfl dX4_pass_83 ?_
      refine g_if_le (tgt := 91) F dX4_pass_86 (by decide) (fun c86 => ?_) (fun c86 => ?_)
      · have hf := iteT hf c86
        refine g_iconst (v := 0) F dX4_pass_91 rfl ?_
        refine g_istore (lv' := [(4, .int (0 : Int32)), (0, .ref a_p), (1, .int x1), (3, .int j1)]) F dX4_pass_92 (by decide) rfl ?_
        obtain ⟨o6, ho6, hf⟩ := bnE hf
        refine g_lv [1, 2, 3, 0] rfl ?_
        refine w_X4_pass_L94 F hN FU _ _ _ o6 ho6 ?_
        refine g_iload_n F dX4_pass_134 rfl 0 rfl ?_
        subst hQ
        exact g_iret F hlocks hr (j2, o6.1, o6.2) rfl (pr2 (Option.some.inj hf)) dX4_pass_135
      · have hf := iteF hf c86
        refine g_iconst (v := 0) F dX4_pass_89 rfl ?_
        subst hQ
        exact g_iret F hlocks hr (j2, a_waiting, a_input) rfl (pr2 (Option.some.inj hf)) dX4_pass_90
    clear hf
    have hf := hj2
    refine g_if_lt (tgt := 50) F dX4_pass_39 (by decide) (fun c39 => ?_) (fun c39 => ?_)
    · have hf := iteT hf c39
      refine g_iconst (v := 1) F dX4_pass_50 rfl ?_
      refine g_goto (tgt := 79) F dX4_pass_51 (by decide) ?_
      cases hf
      refine g_lv [1, 2, 0] rfl ?_
      exact Kj2
    · have hf := iteF hf c39
      refine g_iload_n F dX4_pass_42 rfl 2 rfl ?_
      refine g_aload_n F dX4_pass_43 rfl 1 rfl ?_
      refine g_get F h_X4_pass_4 0 rfl rfl 8 (by decide) (by decide +kernel) rfl dX4_pass_44 ?_
      refine g_icmp_lt (tgt := 54) F dX4_pass_47 (by decide) (fun c47 => ?_) (fun c47 => ?_)
      · have hf := iteT hf c47
        refine g_iload_n F dX4_pass_54 rfl 3 rfl ?_
        refine g_if_ge (tgt := 62) F dX4_pass_55 (by decide) (fun c55 => ?_) (fun c55 => ?_)
        · have hf := iteT hf c55
          refine g_aload_n F dX4_pass_62 rfl 1 rfl ?_
          refine g_get F h_X4_pass_4 0 rfl rfl 12 (by decide) (by decide +kernel) rfl dX4_pass_63 ?_
          refine g_iload_n F dX4_pass_66 rfl 0 rfl ?_
          refine g_iadd F dX4_pass_67 ?_
          refine g_sipush (v := 2000) F dX4_pass_68 rfl ?_
          refine g_icmp_le (tgt := 78) F dX4_pass_71 (by decide) (fun c71 => ?_) (fun c71 => ?_)
          · have hf := iteT hf c71
            refine g_iconst (v := 0) F dX4_pass_78 rfl ?_
            cases hf
            refine g_lv [1, 2, 0] rfl ?_
            exact Kj2
          · have hf := iteF hf c71
            refine g_iconst (v := 3) F dX4_pass_74 rfl ?_
            refine g_goto (tgt := 79) F dX4_pass_75 (by decide) ?_
            cases hf
            refine g_lv [1, 2, 0] rfl ?_
            exact Kj2
        · have hf := iteF hf c55
          refine g_iconst (v := 2) F dX4_pass_58 rfl ?_
          refine g_goto (tgt := 79) F dX4_pass_59 (by decide) ?_
          cases hf
          refine g_lv [1, 2, 0] rfl ?_
          exact Kj2
      · have hf := iteF hf c47
        refine g_iconst (v := 1) F dX4_pass_50 rfl ?_
        refine g_goto (tgt := 79) F dX4_pass_51 (by decide) ?_
        cases hf
        refine g_lv [1, 2, 0] rfl ?_
        exact Kj2
  clear hf
  have hf := hj1
  refine g_if_lt (tgt := 12) F dX4_pass_1 (by decide) (fun c1 => ?_) (fun c1 => ?_)
  · have hf := iteT hf c1
    refine g_iconst (v := 0) F dX4_pass_12 rfl ?_
    refine g_goto (tgt := 36) F dX4_pass_13 (by decide) ?_
    cases hf
    refine g_lv [0, 1, 2] rfl ?_
    exact Kj1
  · have hf := iteF hf c1
    refine g_iload_n F dX4_pass_4 rfl 1 rfl ?_
    refine g_aload_n F dX4_pass_5 rfl 0 rfl ?_
    refine g_get F h_X4_pass_4 0 rfl rfl 8 (by decide) (by decide +kernel) rfl dX4_pass_6 ?_
    refine g_icmp_lt (tgt := 16) F dX4_pass_9 (by decide) (fun c9 => ?_) (fun c9 => ?_)
    · have hf := iteT hf c9
      refine g_iload_n F dX4_pass_16 rfl 2 rfl ?_
      refine g_aload_n F dX4_pass_17 rfl 0 rfl ?_
      refine g_get F h_X4_pass_4 0 rfl rfl 8 (by decide) (by decide +kernel) rfl dX4_pass_18 ?_
      refine g_iload_n F dX4_pass_21 rfl 1 rfl ?_
      refine g_isub F dX4_pass_22 ?_
      refine g_icmp_ge (tgt := 30) F dX4_pass_23 (by decide) (fun c23 => ?_) (fun c23 => ?_)
      · have hf := iteT hf c23
        refine g_aload_n F dX4_pass_30 rfl 0 rfl ?_
        refine g_get F h_X4_pass_4 0 rfl rfl 8 (by decide) (by decide +kernel) rfl dX4_pass_31 ?_
        refine g_iload_n F dX4_pass_34 rfl 1 rfl ?_
        refine g_isub F dX4_pass_35 ?_
        cases hf
        refine g_lv [0, 1, 2] rfl ?_
        exact Kj1
      · have hf := iteF hf c23
        refine g_iload_n F dX4_pass_26 rfl 2 rfl ?_
        refine g_goto (tgt := 36) F dX4_pass_27 (by decide) ?_
        cases hf
        refine g_lv [0, 1, 2] rfl ?_
        exact Kj1
    · have hf := iteF hf c9
      refine g_iconst (v := 0) F dX4_pass_12 rfl ?_
      refine g_goto (tgt := 36) F dX4_pass_13 (by decide) ?_
      cases hf
      refine g_lv [0, 1, 2] rfl ?_
      exact Kj1

/-! HeapImagesModel.stop(I)V -/
def rm_X4_stop : Room := { frames := 0, cells := 0, slots := 0, locals := 0 }
theorem h_X4_stop_4 : ∀ w ∈ wsX40, w ∈ wsX4_stop := by decide +kernel
def f_X4_stop (a_ended : Int32) (x1 : Int32) : Option Int32 :=
  if 0 ≤ a_ended then some a_ended else some x1
set_option maxHeartbeats 4000000 in
set_option maxRecDepth 100000 in
theorem c_X4_stop (l : Launch) (dC : Nat → ClassId) (dI : Nat → Nat → Nat) (cI cJ cH : ClassId) (a_p a_bases_p a_tops_p a_words_p a_roots_p a_order_p a_numbers_p a_image_p a_other_p a_input_p a_fresh_p a_freshRoots_p a_heads_p a_kept_p : Nat)  (a_thrown : Int32) (a_bases : (Nat → Int32)) (a_tops : (Nat → Int32)) (a_words : (Nat → Int32)) (a_roots : (Nat → Int32)) (a_reached : Int32) (a_order : (Nat → Int32)) (a_numbers : (Nat → Int32)) (a_size : Int32) (a_image : (Nat → Int32)) (a_otherSize : Int32) (a_other : (Nat → Int32)) (a_waiting : Int32) (a_input : (Nat → Int32)) (a_at : Int32) (a_ended : Int32) (a_told : Int32) (a_many : Int32) (a_fresh : (Nat → Int32)) (a_freshRoots : (Nat → Int32)) (a_heads : (Nat → Int32)) (a_count : Int64) (a_kept : (Nat → Int32)) (x1 : Int32) (o : Int32) (hf : f_X4_stop a_ended x1 = some o) : ∀ sz : Nat, Met l yX4_stop wsX4_stop rm_X4_stop (gPre [.ref a_p, .int x1] (dC, dI) vwCl (gT cI cJ cH) (wMd cI a_p a_bases_p a_tops_p a_words_p a_roots_p a_order_p a_numbers_p a_image_p a_other_p a_input_p a_fresh_p a_freshRoots_p a_heads_p a_kept_p a_thrown a_bases a_tops a_words a_roots a_reached a_order a_numbers a_size a_image a_otherSize a_other a_waiting a_input a_at a_ended a_told a_many a_fresh a_freshRoots a_heads a_count a_kept) sz) (va_Qv (fun (u : Int32) => o = u) (gB (dC, dI) vwCl (gT cI cJ cH) (fun (u : Int32) => wMd cI a_p a_bases_p a_tops_p a_words_p a_roots_p a_order_p a_numbers_p a_image_p a_other_p a_input_p a_fresh_p a_freshRoots_p a_heads_p a_kept_p a_thrown a_bases a_tops a_words a_roots a_reached a_order a_numbers a_size a_image a_otherSize a_other a_waiting a_input a_at u a_told a_many a_fresh a_freshRoots a_heads a_count a_kept) (va_A (wMd cI a_p a_bases_p a_tops_p a_words_p a_roots_p a_order_p a_numbers_p a_image_p a_other_p a_input_p a_fresh_p a_freshRoots_p a_heads_p a_kept_p a_thrown a_bases a_tops a_words a_roots a_reached a_order a_numbers a_size a_image a_otherSize a_other a_waiting a_input a_at a_ended a_told a_many a_fresh a_freshRoots a_heads a_count a_kept) sz)) (va_A (wMd cI a_p a_bases_p a_tops_p a_words_p a_roots_p a_order_p a_numbers_p a_image_p a_other_p a_input_p a_fresh_p a_freshRoots_p a_heads_p a_kept_p a_thrown a_bases a_tops a_words a_roots a_reached a_order a_numbers a_size a_image a_otherSize a_other a_waiting a_input a_at a_ended a_told a_many a_fresh a_freshRoots a_heads a_count a_kept) sz)) 0 0 (va_A (wMd cI a_p a_bases_p a_tops_p a_words_p a_roots_p a_order_p a_numbers_p a_image_p a_other_p a_input_p a_fresh_p a_freshRoots_p a_heads_p a_kept_p a_thrown a_bases a_tops a_words a_roots a_reached a_order a_numbers a_size a_image a_otherSize a_other a_waiting a_input a_at a_ended a_told a_many a_fresh a_freshRoots a_heads a_count a_kept) sz) := by
  refine g_met (fun A => va_Qv (fun (u : Int32) => o = u) (gB (dC, dI) vwCl (gT cI cJ cH) (fun (u : Int32) => wMd cI a_p a_bases_p a_tops_p a_words_p a_roots_p a_order_p a_numbers_p a_image_p a_other_p a_input_p a_fresh_p a_freshRoots_p a_heads_p a_kept_p a_thrown a_bases a_tops a_words a_roots a_reached a_order a_numbers a_size a_image a_otherSize a_other a_waiting a_input a_at u a_told a_many a_fresh a_freshRoots a_heads a_count a_kept) A) A) (by decide) rfl (Nat.le_of_ble_eq_true rfl) ?_
  intro p e s m args below meth c A Q F hlocks hr hname hN hQ
  unfold f_X4_stop at hf
  refine g_lvE (lv' := [(0, .ref a_p), (1, .int x1)]) rfl ?_
  refine g_aload_n F dX4_stop_0 rfl 0 rfl ?_
  refine g_aload_n F dX4_stop_1 rfl 0 rfl ?_
  refine g_get F h_X4_stop_4 0 rfl rfl 15 (by decide) (by decide +kernel) rfl dX4_stop_2 ?_
  refine g_if_ge (tgt := 12) F dX4_stop_5 (by decide) (fun c5 => ?_) (fun c5 => ?_)
  · have hf := iteT hf c5
    refine g_aload_n F dX4_stop_12 rfl 0 rfl ?_
    refine g_get F h_X4_stop_4 0 rfl rfl 15 (by decide) (by decide +kernel) rfl dX4_stop_13 ?_
    refine g_put F h_X4_stop_4 tyX4 tyX4_ok nmX4 0 rfl rfl 15 (by decide) (by decide +kernel) rfl rfl rfl (Nat.le_of_ble_eq_true rfl) dX4_stop_16 (ws' := wMd cI a_p a_bases_p a_tops_p a_words_p a_roots_p a_order_p a_numbers_p a_image_p a_other_p a_input_p a_fresh_p a_freshRoots_p a_heads_p a_kept_p a_thrown a_bases a_tops a_words a_roots a_reached a_order a_numbers a_size a_image a_otherSize a_other a_waiting a_input a_at a_ended a_told a_many a_fresh a_freshRoots a_heads a_count a_kept) rfl ?_
    subst hQ
    exact g_vret F hlocks hr a_ended rfl (Option.some.inj hf).symm dX4_stop_19
  · have hf := iteF hf c5
    refine g_iload_n F dX4_stop_8 rfl 1 rfl ?_
    refine g_goto (tgt := 16) F dX4_stop_9 (by decide) ?_
    refine g_put F h_X4_stop_4 tyX4 tyX4_ok nmX4 0 rfl rfl 15 (by decide) (by decide +kernel) rfl rfl rfl (Nat.le_of_ble_eq_true rfl) dX4_stop_16 (ws' := wMd cI a_p a_bases_p a_tops_p a_words_p a_roots_p a_order_p a_numbers_p a_image_p a_other_p a_input_p a_fresh_p a_freshRoots_p a_heads_p a_kept_p a_thrown a_bases a_tops a_words a_roots a_reached a_order a_numbers a_size a_image a_otherSize a_other a_waiting a_input a_at x1 a_told a_many a_fresh a_freshRoots a_heads a_count a_kept) rfl ?_
    subst hQ
    exact g_vret F hlocks hr x1 rfl (Option.some.inj hf).symm dX4_stop_19

/-! HeapImagesModel.nextByte()I -/
def rm_X4_nextByte : Room := { frames := 1, cells := 0, slots := 0, locals := 21 }
theorem h_X4_nextByte_4 : ∀ w ∈ wsX40, w ∈ wsX4_nextByte := by decide +kernel
def f_X4_nextByte (a_waiting : Int32) (a_input : (Nat → Int32)) (a_at : Int32) (a_ended : Int32) : Option (Int32 × Int32 × Int32) :=
  if a_ended < 0 then if a_at = a_waiting then Option.bind (f_X4_stop a_ended a_at) fun o2 => some ((0 : Int32), a_at, o2) else ck (inR ((a_at + (1 : Int32)) - (1 : Int32)) 2000) (some (a_input ((a_at + (1 : Int32)) - (1 : Int32)).toNatClampNeg, a_at + (1 : Int32), a_ended)) else some ((0 : Int32), a_at, a_ended)
set_option maxHeartbeats 4000000 in
set_option maxRecDepth 100000 in
theorem c_X4_nextByte (l : Launch) (dC : Nat → ClassId) (dI : Nat → Nat → Nat) (cI cJ cH : ClassId) (a_p a_bases_p a_tops_p a_words_p a_roots_p a_order_p a_numbers_p a_image_p a_other_p a_input_p a_fresh_p a_freshRoots_p a_heads_p a_kept_p : Nat)  (a_thrown : Int32) (a_bases : (Nat → Int32)) (a_tops : (Nat → Int32)) (a_words : (Nat → Int32)) (a_roots : (Nat → Int32)) (a_reached : Int32) (a_order : (Nat → Int32)) (a_numbers : (Nat → Int32)) (a_size : Int32) (a_image : (Nat → Int32)) (a_otherSize : Int32) (a_other : (Nat → Int32)) (a_waiting : Int32) (a_input : (Nat → Int32)) (a_at : Int32) (a_ended : Int32) (a_told : Int32) (a_many : Int32) (a_fresh : (Nat → Int32)) (a_freshRoots : (Nat → Int32)) (a_heads : (Nat → Int32)) (a_count : Int64) (a_kept : (Nat → Int32))  (o : (Int32 × Int32 × Int32)) (hf : f_X4_nextByte a_waiting a_input a_at a_ended = some o) : ∀ sz : Nat, Met l yX4_nextByte wsX4_nextByte rm_X4_nextByte (gPre [.ref a_p] (dC, dI) vwCl (gT cI cJ cH) (wMd cI a_p a_bases_p a_tops_p a_words_p a_roots_p a_order_p a_numbers_p a_image_p a_other_p a_input_p a_fresh_p a_freshRoots_p a_heads_p a_kept_p a_thrown a_bases a_tops a_words a_roots a_reached a_order a_numbers a_size a_image a_otherSize a_other a_waiting a_input a_at a_ended a_told a_many a_fresh a_freshRoots a_heads a_count a_kept) sz) (va_Qi (fun (r : Int32) (u : (Int32 × Int32)) => o.1 = r ∧ o.2 = u) (gB (dC, dI) vwCl (gT cI cJ cH) (fun (u : (Int32 × Int32)) => wMd cI a_p a_bases_p a_tops_p a_words_p a_roots_p a_order_p a_numbers_p a_image_p a_other_p a_input_p a_fresh_p a_freshRoots_p a_heads_p a_kept_p a_thrown a_bases a_tops a_words a_roots a_reached a_order a_numbers a_size a_image a_otherSize a_other a_waiting a_input u.1 u.2 a_told a_many a_fresh a_freshRoots a_heads a_count a_kept) (va_A (wMd cI a_p a_bases_p a_tops_p a_words_p a_roots_p a_order_p a_numbers_p a_image_p a_other_p a_input_p a_fresh_p a_freshRoots_p a_heads_p a_kept_p a_thrown a_bases a_tops a_words a_roots a_reached a_order a_numbers a_size a_image a_otherSize a_other a_waiting a_input a_at a_ended a_told a_many a_fresh a_freshRoots a_heads a_count a_kept) sz)) (va_A (wMd cI a_p a_bases_p a_tops_p a_words_p a_roots_p a_order_p a_numbers_p a_image_p a_other_p a_input_p a_fresh_p a_freshRoots_p a_heads_p a_kept_p a_thrown a_bases a_tops a_words a_roots a_reached a_order a_numbers a_size a_image a_otherSize a_other a_waiting a_input a_at a_ended a_told a_many a_fresh a_freshRoots a_heads a_count a_kept) sz)) 0 0 (va_A (wMd cI a_p a_bases_p a_tops_p a_words_p a_roots_p a_order_p a_numbers_p a_image_p a_other_p a_input_p a_fresh_p a_freshRoots_p a_heads_p a_kept_p a_thrown a_bases a_tops a_words a_roots a_reached a_order a_numbers a_size a_image a_otherSize a_other a_waiting a_input a_at a_ended a_told a_many a_fresh a_freshRoots a_heads a_count a_kept) sz) := by
  refine g_met (fun A => va_Qi (fun (r : Int32) (u : (Int32 × Int32)) => o.1 = r ∧ o.2 = u) (gB (dC, dI) vwCl (gT cI cJ cH) (fun (u : (Int32 × Int32)) => wMd cI a_p a_bases_p a_tops_p a_words_p a_roots_p a_order_p a_numbers_p a_image_p a_other_p a_input_p a_fresh_p a_freshRoots_p a_heads_p a_kept_p a_thrown a_bases a_tops a_words a_roots a_reached a_order a_numbers a_size a_image a_otherSize a_other a_waiting a_input u.1 u.2 a_told a_many a_fresh a_freshRoots a_heads a_count a_kept) A) A) (by decide) rfl (Nat.le_of_ble_eq_true rfl) ?_
  intro p e s m args below meth c A Q F hlocks hr hname hN hQ
  unfold f_X4_nextByte at hf
  refine g_lvE (lv' := [(0, .ref a_p)]) rfl ?_
  refine g_aload_n F dX4_nextByte_0 rfl 0 rfl ?_
  refine g_get F h_X4_nextByte_4 0 rfl rfl 15 (by decide) (by decide +kernel) rfl dX4_nextByte_1 ?_
  refine g_if_lt (tgt := 9) F dX4_nextByte_4 (by decide) (fun c4 => ?_) (fun c4 => ?_)
  · have hf := iteT hf c4
    refine g_aload_n F dX4_nextByte_9 rfl 0 rfl ?_
    refine g_get F h_X4_nextByte_4 0 rfl rfl 14 (by decide) (by decide +kernel) rfl dX4_nextByte_10 ?_
    refine g_aload_n F dX4_nextByte_13 rfl 0 rfl ?_
    refine g_get F h_X4_nextByte_4 0 rfl rfl 12 (by decide) (by decide +kernel) rfl dX4_nextByte_14 ?_
    refine g_icmp_ne (tgt := 30) F dX4_nextByte_17 (by decide) (fun c17 => ?_) (fun c17 => ?_)
    · have hf := iteF hf c17
      refine g_aload_n F dX4_nextByte_30 rfl 0 rfl ?_
      refine g_dup F dX4_nextByte_31 rfl ?_
      refine g_get F h_X4_nextByte_4 0 rfl rfl 14 (by decide) (by decide +kernel) rfl dX4_nextByte_32 ?_
      refine g_iconst (v := 1) F dX4_nextByte_35 rfl ?_
      refine g_iadd F dX4_nextByte_36 ?_
      refine g_put F h_X4_nextByte_4 tyX4 tyX4_ok nmX4 0 rfl rfl 14 (by decide) (by decide +kernel) rfl rfl rfl (Nat.le_of_ble_eq_true rfl) dX4_nextByte_37 (ws' := wMd cI a_p a_bases_p a_tops_p a_words_p a_roots_p a_order_p a_numbers_p a_image_p a_other_p a_input_p a_fresh_p a_freshRoots_p a_heads_p a_kept_p a_thrown a_bases a_tops a_words a_roots a_reached a_order a_numbers a_size a_image a_otherSize a_other a_waiting a_input (a_at + (1 : Int32)) a_ended a_told a_many a_fresh a_freshRoots a_heads a_count a_kept) rfl ?_
      refine g_aload_n F dX4_nextByte_40 rfl 0 rfl ?_
      refine g_get F h_X4_nextByte_4 0 rfl rfl 13 (by decide) (by decide +kernel) rfl dX4_nextByte_41 ?_
      refine g_aload_n F dX4_nextByte_44 rfl 0 rfl ?_
      refine g_get F h_X4_nextByte_4 0 rfl rfl 14 (by decide) (by decide +kernel) rfl dX4_nextByte_45 ?_
      refine g_iconst (v := 1) F dX4_nextByte_48 rfl ?_
      refine g_isub F dX4_nextByte_49 ?_
      obtain ⟨h1, hf⟩ := ckE hf
      refine g_iald F 9 0 rfl rfl h1 dX4_nextByte_50 ?_
      subst hQ
      exact g_iret F hlocks hr (a_at + (1 : Int32), a_ended) rfl (pr2 (Option.some.inj hf)) dX4_nextByte_51
    · have hf := iteT hf c17
      refine g_aload_n F dX4_nextByte_20 rfl 0 rfl ?_
      refine g_aload_n F dX4_nextByte_21 rfl 0 rfl ?_
      refine g_get F h_X4_nextByte_4 0 rfl rfl 14 (by decide) (by decide +kernel) rfl dX4_nextByte_22 ?_
      obtain ⟨o2, ho2, hf⟩ := bnE hf
      refine g_callPv (n := 1) (As := [.int a_at]) F (c_X4_stop l dC dI cI cJ cH a_p a_bases_p a_tops_p a_words_p a_roots_p a_order_p a_numbers_p a_image_p a_other_p a_input_p a_fresh_p a_freshRoots_p a_heads_p a_kept_p a_thrown a_bases a_tops a_words a_roots a_reached a_order a_numbers a_size a_image a_otherSize a_other a_waiting a_input a_at a_ended a_told a_many a_fresh a_freshRoots a_heads a_count a_kept a_at o2 ho2) ggX4_nextByte_X4_stop rfl rfl rfl (by decide +kernel) (by decide +kernel) (by decide +kernel) (by decide +kernel) (by decide +kernel) ⟨Nat.le_of_ble_eq_true rfl, Nat.le_of_ble_eq_true rfl⟩ ⟨Nat.le_of_ble_eq_true rfl, Nat.le_of_ble_eq_true rfl⟩ hN 0 rfl rfl rfl ([]) ([]) rfl (fun _ => rfl) rfl (Nat.le_of_ble_eq_true rfl) rfl dX4_nextByte_25 (cells' := 0) (slots' := 0) rfl rfl (fun u hp => ?_)
      subst hp
      refine g_ws (ws' := wMd cI a_p a_bases_p a_tops_p a_words_p a_roots_p a_order_p a_numbers_p a_image_p a_other_p a_input_p a_fresh_p a_freshRoots_p a_heads_p a_kept_p a_thrown a_bases a_tops a_words a_roots a_reached a_order a_numbers a_size a_image a_otherSize a_other a_waiting a_input a_at o2 a_told a_many a_fresh a_freshRoots a_heads a_count a_kept) rfl ?_
      refine g_iconst (v := 0) F dX4_nextByte_28 rfl ?_
      subst hQ
      exact g_iret F hlocks hr (a_at, o2) rfl (pr2 (Option.some.inj hf)) dX4_nextByte_29
  · have hf := iteF hf c4
    refine g_iconst (v := 0) F dX4_nextByte_7 rfl ?_
    subst hQ
    exact g_iret F hlocks hr (a_at, a_ended) rfl (pr2 (Option.some.inj hf)) dX4_nextByte_8
