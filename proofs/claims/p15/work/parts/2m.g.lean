/-! HeapImagesModel.sweep(I)I -/
def rm_X4_sweep : Room := { frames := 7, cells := 0, slots := 0, locals := 160 }
theorem h_X4_sweep_4 : ∀ w ∈ wsX40, w ∈ wsX4_sweep := by decide +kernel
def f_X4_sweep_L54_s (a_words : (Nat → Int32)) (a_numbers : (Nat → Int32)) (y1 : Int32) (y4 : Int32) (rc : Int32 → Int32 → (Nat → Int32) → Option (Nat → Int32)) (z2 : Int32) (z3 : Int32) (a_heads : (Nat → Int32)) : Option (Nat → Int32) :=
  if y4 ≤ z3 then some a_heads else ck (inR z3 256) (ck (inR z3 256) (Option.bind (α := Int32) (if 0 ≤ (a_numbers z3.toNatClampNeg) then Option.bind (f_X4_slotsAt a_words y1 z3) fun o11 => some ((z2 + (1 : Int32)) + o11) else some z2) fun j8 => Option.bind (f_X4_slotsAt a_words y1 z3) fun o9 => nm ((z3 + (1 : Int32)) + o9) fun v10 => rc j8 v10 (upd a_heads z3.toNatClampNeg z2)))
def f_X4_sweep_L54 (a_words : (Nat → Int32)) (a_numbers : (Nat → Int32)) (y1 : Int32) (y4 : Int32) : Nat → Int32 → Int32 → (Nat → Int32) → Option (Nat → Int32)
  | 0, _, _, _ => none
  | n + 1, z2, z3, a_heads => f_X4_sweep_L54_s a_words a_numbers y1 y4 (f_X4_sweep_L54 a_words a_numbers y1 y4 n) z2 z3 a_heads
set_option maxHeartbeats 4000000 in
theorem w_X4_sweep_L54 {p : Program} {l : Launch} {e : Env} {s : State} {m : MethodId} {args : Array Value} {below : List Frame} {meth : Method} {c : Code} {A : Nat → Prop} {Q : State → Prop} {dC : Nat → ClassId} {dI : Nat → Nat → Nat} {cI cJ cH : ClassId} {a_p a_bases_p a_tops_p a_words_p a_roots_p a_order_p a_numbers_p a_image_p a_other_p a_input_p a_fresh_p a_freshRoots_p a_heads_p a_kept_p : Nat} {a_thrown : Int32} {a_bases : (Nat → Int32)} {a_tops : (Nat → Int32)} {a_words : (Nat → Int32)} {a_roots : (Nat → Int32)} {a_reached : Int32} {a_order : (Nat → Int32)} {a_numbers : (Nat → Int32)} {a_size : Int32} {a_image : (Nat → Int32)} {a_otherSize : Int32} {a_other : (Nat → Int32)} {a_waiting : Int32} {a_input : (Nat → Int32)} {a_at : Int32} {a_ended : Int32} {a_told : Int32} {a_many : Int32} {a_fresh : (Nat → Int32)} {a_freshRoots : (Nat → Int32)} {a_count : Int64} {a_kept : (Nat → Int32)} {y1 : Int32} {y4 : Int32} (F : gF p m c cX4_sweep 9 s args wsX4_sweep yX4_sweep.cls (dC, dI) vwCl (gT cI cJ cH) A) (hN : ∀ w ∈ gN, va_Nw w s) : ∀ (n : Nat) (z2 : Int32) (z3 : Int32) (a_heads : (Nat → Int32)) (o : (Nat → Int32)), f_X4_sweep_L54 a_words a_numbers y1 y4 n z2 z3 a_heads = some o → (gW p l e rm_X4_sweep s m args below meth c 0 0 Q (dC, dI) vwCl A 9 (wMd cI a_p a_bases_p a_tops_p a_words_p a_roots_p a_order_p a_numbers_p a_image_p a_other_p a_input_p a_fresh_p a_freshRoots_p a_heads_p a_kept_p a_thrown a_bases a_tops a_words a_roots a_reached a_order a_numbers a_size a_image a_otherSize a_other a_waiting a_input a_at a_ended a_told a_many a_fresh a_freshRoots o a_count a_kept) [(0, .ref a_p), (1, .int y1), (4, .int y4)] 105 []) → gW p l e rm_X4_sweep s m args below meth c 0 0 Q (dC, dI) vwCl A 9 (wMd cI a_p a_bases_p a_tops_p a_words_p a_roots_p a_order_p a_numbers_p a_image_p a_other_p a_input_p a_fresh_p a_freshRoots_p a_heads_p a_kept_p a_thrown a_bases a_tops a_words a_roots a_reached a_order a_numbers a_size a_image a_otherSize a_other a_waiting a_input a_at a_ended a_told a_many a_fresh a_freshRoots a_heads a_count a_kept) [(0, .ref a_p), (1, .int y1), (2, .int z2), (3, .int z3), (4, .int y4)] 54 [] := by
  intro n
  induction n with
  | zero =>
    intro z2 z3 a_heads o hf E0
    change none = some o at hf
    cases hf
  | succ n ih =>
    intro z2 z3 a_heads o hf E0
    change f_X4_sweep_L54_s a_words a_numbers y1 y4 (f_X4_sweep_L54 a_words a_numbers y1 y4 n) z2 z3 a_heads = some o at hf
    unfold f_X4_sweep_L54_s at hf
    refine g_iload_n F dX4_sweep_54 rfl 3 rfl ?_
    refine g_iload F dX4_sweep_55 4 rfl ?_
    refine g_icmp_ge (tgt := 105) F dX4_sweep_57 (by decide) (fun c57 => ?_) (fun c57 => ?_)
    · have hf := iteT hf c57
      cases hf
      refine g_lv [0, 1, 4] rfl ?_
      exact E0
    · have hf := iteF hf c57
      refine g_aload_n F dX4_sweep_60 rfl 0 rfl ?_
      refine g_get F h_X4_sweep_4 0 rfl rfl 20 (by decide) (by decide +kernel) rfl dX4_sweep_61 ?_
      refine g_iload_n F dX4_sweep_64 rfl 3 rfl ?_
      refine g_iload_n F dX4_sweep_65 rfl 2 rfl ?_
      obtain ⟨h6, hf⟩ := ckE hf
      refine g_iast F 12 0 rfl rfl h6 dX4_sweep_66 (ws' := wMd cI a_p a_bases_p a_tops_p a_words_p a_roots_p a_order_p a_numbers_p a_image_p a_other_p a_input_p a_fresh_p a_freshRoots_p a_heads_p a_kept_p a_thrown a_bases a_tops a_words a_roots a_reached a_order a_numbers a_size a_image a_otherSize a_other a_waiting a_input a_at a_ended a_told a_many a_fresh a_freshRoots (upd a_heads z3.toNatClampNeg z2) a_count a_kept) rfl ?_
      refine g_aload_n F dX4_sweep_67 rfl 0 rfl ?_
      refine g_get F h_X4_sweep_4 0 rfl rfl 7 (by decide) (by decide +kernel) rfl dX4_sweep_68 ?_
      refine g_iload_n F dX4_sweep_71 rfl 3 rfl ?_
      obtain ⟨h7, hf⟩ := ckE hf
      refine g_iald F 6 0 rfl rfl h7 dX4_sweep_72 ?_
      obtain ⟨j8, hj8, hf⟩ := bnE hf
      have Kj8 : gW p l e rm_X4_sweep s m args below meth c 0 0 Q (dC, dI) vwCl A 9 (wMd cI a_p a_bases_p a_tops_p a_words_p a_roots_p a_order_p a_numbers_p a_image_p a_other_p a_input_p a_fresh_p a_freshRoots_p a_heads_p a_kept_p a_thrown a_bases a_tops a_words a_roots a_reached a_order a_numbers a_size a_image a_otherSize a_other a_waiting a_input a_at a_ended a_told a_many a_fresh a_freshRoots (upd a_heads z3.toNatClampNeg z2) a_count a_kept) [(0, .ref a_p), (1, .int y1), (3, .int z3), (4, .int y4)] 90 [.int j8] := by
        refine g_istore_n (lv' := [(2, .int j8), (0, .ref a_p), (1, .int y1), (3, .int z3), (4, .int y4)]) F dX4_sweep_90 rfl (by decide) rfl ?_
        refine g_iload_n F dX4_sweep_91 rfl 3 rfl ?_
        refine g_iconst (v := 1) F dX4_sweep_92 rfl ?_
        refine g_iadd F dX4_sweep_93 ?_
        refine g_aload_n F dX4_sweep_94 rfl 1 rfl ?_
        refine g_iload_n F dX4_sweep_95 rfl 2 rfl ?_
        refine g_iload_n F dX4_sweep_96 rfl 3 rfl ?_
        obtain ⟨o9, ho9, hf⟩ := bnE hf
        refine g_callPi (n := 2) (As := [.int y1, .int z3]) F (c_X4_slotsAt l dC dI cI cJ cH a_p a_bases_p a_tops_p a_words_p a_roots_p a_order_p a_numbers_p a_image_p a_other_p a_input_p a_fresh_p a_freshRoots_p a_heads_p a_kept_p a_thrown a_bases a_tops a_words a_roots a_reached a_order a_numbers a_size a_image a_otherSize a_other a_waiting a_input a_at a_ended a_told a_many a_fresh a_freshRoots (upd a_heads z3.toNatClampNeg z2) a_count a_kept y1 z3 o9 ho9) ggX4_sweep_X4_slotsAt rfl rfl rfl (by decide +kernel) (by decide +kernel) (by decide +kernel) (by decide +kernel) (by decide +kernel) ⟨Nat.le_of_ble_eq_true rfl, Nat.le_of_ble_eq_true rfl⟩ ⟨Nat.le_of_ble_eq_true rfl, Nat.le_of_ble_eq_true rfl⟩ hN 0 rfl rfl rfl ([]) ([]) rfl (fun _ => rfl) rfl (Nat.le_of_ble_eq_true rfl) rfl dX4_sweep_97 (cells' := 0) (slots' := 0) rfl rfl (fun r u hp => ?_)
        subst hp
        refine g_ws (ws' := wMd cI a_p a_bases_p a_tops_p a_words_p a_roots_p a_order_p a_numbers_p a_image_p a_other_p a_input_p a_fresh_p a_freshRoots_p a_heads_p a_kept_p a_thrown a_bases a_tops a_words a_roots a_reached a_order a_numbers a_size a_image a_otherSize a_other a_waiting a_input a_at a_ended a_told a_many a_fresh a_freshRoots (upd a_heads z3.toNatClampNeg z2) a_count a_kept) rfl ?_
        refine g_iadd F dX4_sweep_100 ?_
        obtain ⟨v10, ev10, hf⟩ := nmE hf
        refine g_nmi ev10 ?_
        refine g_istore_n (lv' := [(3, .int v10), (2, .int j8), (0, .ref a_p), (1, .int y1), (4, .int y4)]) F dX4_sweep_101 rfl (by decide) rfl ?_
        refine g_goto (tgt := 54) F dX4_sweep_102 (by decide) ?_
        refine g_lv [2, 3, 1, 0, 4] rfl ?_
        exact ih _ _ _ o hf E0
      clear hf
      have hf := hj8
      refine g_if_ge (tgt := 80) F dX4_sweep_73 (by decide) (fun c73 => ?_) (fun c73 => ?_)
      · have hf := iteT hf c73
        refine g_iload_n F dX4_sweep_80 rfl 2 rfl ?_
        refine g_iconst (v := 1) F dX4_sweep_81 rfl ?_
        refine g_iadd F dX4_sweep_82 ?_
        refine g_aload_n F dX4_sweep_83 rfl 0 rfl ?_
        refine g_iload_n F dX4_sweep_84 rfl 1 rfl ?_
        refine g_iload_n F dX4_sweep_85 rfl 3 rfl ?_
        obtain ⟨o11, ho11, hf⟩ := bnE hf
        refine g_callPi (n := 2) (As := [.int y1, .int z3]) F (c_X4_slotsAt l dC dI cI cJ cH a_p a_bases_p a_tops_p a_words_p a_roots_p a_order_p a_numbers_p a_image_p a_other_p a_input_p a_fresh_p a_freshRoots_p a_heads_p a_kept_p a_thrown a_bases a_tops a_words a_roots a_reached a_order a_numbers a_size a_image a_otherSize a_other a_waiting a_input a_at a_ended a_told a_many a_fresh a_freshRoots (upd a_heads z3.toNatClampNeg z2) a_count a_kept y1 z3 o11 ho11) ggX4_sweep_X4_slotsAt rfl rfl rfl (by decide +kernel) (by decide +kernel) (by decide +kernel) (by decide +kernel) (by decide +kernel) ⟨Nat.le_of_ble_eq_true rfl, Nat.le_of_ble_eq_true rfl⟩ ⟨Nat.le_of_ble_eq_true rfl, Nat.le_of_ble_eq_true rfl⟩ hN 0 rfl rfl rfl ([]) ([]) rfl (fun _ => rfl) rfl (Nat.le_of_ble_eq_true rfl) rfl dX4_sweep_86 (cells' := 0) (slots' := 0) rfl rfl (fun r u hp => ?_)
        subst hp
        refine g_ws (ws' := wMd cI a_p a_bases_p a_tops_p a_words_p a_roots_p a_order_p a_numbers_p a_image_p a_other_p a_input_p a_fresh_p a_freshRoots_p a_heads_p a_kept_p a_thrown a_bases a_tops a_words a_roots a_reached a_order a_numbers a_size a_image a_otherSize a_other a_waiting a_input a_at a_ended a_told a_many a_fresh a_freshRoots (upd a_heads z3.toNatClampNeg z2) a_count a_kept) rfl ?_
        refine g_iadd F dX4_sweep_89 ?_
        cases hf
        refine g_lv [0, 1, 3, 4] rfl ?_
        exact Kj8
      · have hf := iteF hf c73
        refine g_iload_n F dX4_sweep_76 rfl 2 rfl ?_
        refine g_goto (tgt := 90) F dX4_sweep_77 (by decide) ?_
        cases hf
        refine g_lv [0, 1, 3, 4] rfl ?_
        exact Kj8
def f_X4_sweep_L134_s (a_bases : (Nat → Int32)) (a_words : (Nat → Int32)) (a_numbers : (Nat → Int32)) (a_heads : (Nat → Int32)) (y1 : Int32) (y3 : Int32) (y4 : Int32) (y5 : Int32) (y6 : Int32) (rc : Int32 → Int32 → (Nat → Int32) → Option (Int32 × (Nat → Int32))) (z2 : Int32) (z7 : Int32) (a_fresh : (Nat → Int32)) : Option (Int32 × (Nat → Int32)) :=
  if y5 < z7 then some (z2, a_fresh) else ck (inR y3 256) (if (a_numbers y3.toNatClampNeg) < 0 then some (z2, a_fresh) else ck (inR ((((256 : Int32) * y1) + y3) + z7) 512) (nm (a_words ((((256 : Int32) * y1) + y3) + z7).toNatClampNeg) fun v17 => if z7 = 0 then ck (inR z2 256) (nm (z2 + (1 : Int32)) fun v19 => nm (z7 + (1 : Int32)) fun v20 => rc v19 v20 (upd a_fresh z2.toNatClampNeg v17)) else if y6 = (2 : Int32) then ck (inR z2 256) (nm (z2 + (1 : Int32)) fun v26 => nm (z7 + (1 : Int32)) fun v27 => rc v26 v27 (upd a_fresh z2.toNatClampNeg v17)) else Option.bind (f_X4_moved a_bases a_heads y1 v17) fun o21 => ck (inR z2 256) (nm (z2 + (1 : Int32)) fun v23 => nm (z7 + (1 : Int32)) fun v24 => rc v23 v24 (upd a_fresh z2.toNatClampNeg o21))))
def f_X4_sweep_L134 (a_bases : (Nat → Int32)) (a_words : (Nat → Int32)) (a_numbers : (Nat → Int32)) (a_heads : (Nat → Int32)) (y1 : Int32) (y3 : Int32) (y4 : Int32) (y5 : Int32) (y6 : Int32) : Nat → Int32 → Int32 → (Nat → Int32) → Option (Int32 × (Nat → Int32))
  | 0, _, _, _ => none
  | n + 1, z2, z7, a_fresh => f_X4_sweep_L134_s a_bases a_words a_numbers a_heads y1 y3 y4 y5 y6 (f_X4_sweep_L134 a_bases a_words a_numbers a_heads y1 y3 y4 y5 y6 n) z2 z7 a_fresh
set_option maxHeartbeats 4000000 in
theorem w_X4_sweep_L134 {p : Program} {l : Launch} {e : Env} {s : State} {m : MethodId} {args : Array Value} {below : List Frame} {meth : Method} {c : Code} {A : Nat → Prop} {Q : State → Prop} {dC : Nat → ClassId} {dI : Nat → Nat → Nat} {cI cJ cH : ClassId} {a_p a_bases_p a_tops_p a_words_p a_roots_p a_order_p a_numbers_p a_image_p a_other_p a_input_p a_fresh_p a_freshRoots_p a_heads_p a_kept_p : Nat} {a_thrown : Int32} {a_bases : (Nat → Int32)} {a_tops : (Nat → Int32)} {a_words : (Nat → Int32)} {a_roots : (Nat → Int32)} {a_reached : Int32} {a_order : (Nat → Int32)} {a_numbers : (Nat → Int32)} {a_size : Int32} {a_image : (Nat → Int32)} {a_otherSize : Int32} {a_other : (Nat → Int32)} {a_waiting : Int32} {a_input : (Nat → Int32)} {a_at : Int32} {a_ended : Int32} {a_told : Int32} {a_many : Int32} {a_freshRoots : (Nat → Int32)} {a_heads : (Nat → Int32)} {a_count : Int64} {a_kept : (Nat → Int32)} {y1 : Int32} {y3 : Int32} {y4 : Int32} {y5 : Int32} {y6 : Int32} (F : gF p m c cX4_sweep 9 s args wsX4_sweep yX4_sweep.cls (dC, dI) vwCl (gT cI cJ cH) A) (hN : ∀ w ∈ gN, va_Nw w s) : ∀ (n : Nat) (z2 : Int32) (z7 : Int32) (a_fresh : (Nat → Int32)) (o : (Int32 × (Nat → Int32))), f_X4_sweep_L134 a_bases a_words a_numbers a_heads y1 y3 y4 y5 y6 n z2 z7 a_fresh = some o → (gW p l e rm_X4_sweep s m args below meth c 0 0 Q (dC, dI) vwCl A 9 (wMd cI a_p a_bases_p a_tops_p a_words_p a_roots_p a_order_p a_numbers_p a_image_p a_other_p a_input_p a_fresh_p a_freshRoots_p a_heads_p a_kept_p a_thrown a_bases a_tops a_words a_roots a_reached a_order a_numbers a_size a_image a_otherSize a_other a_waiting a_input a_at a_ended a_told a_many o.2 a_freshRoots a_heads a_count a_kept) [(0, .ref a_p), (1, .int y1), (2, .int o.1), (3, .int y3), (4, .int y4), (5, .int y5)] 205 []) → gW p l e rm_X4_sweep s m args below meth c 0 0 Q (dC, dI) vwCl A 9 (wMd cI a_p a_bases_p a_tops_p a_words_p a_roots_p a_order_p a_numbers_p a_image_p a_other_p a_input_p a_fresh_p a_freshRoots_p a_heads_p a_kept_p a_thrown a_bases a_tops a_words a_roots a_reached a_order a_numbers a_size a_image a_otherSize a_other a_waiting a_input a_at a_ended a_told a_many a_fresh a_freshRoots a_heads a_count a_kept) [(0, .ref a_p), (1, .int y1), (2, .int z2), (3, .int y3), (4, .int y4), (5, .int y5), (6, .int y6), (7, .int z7)] 134 [] := by
  intro n
  induction n with
  | zero =>
    intro z2 z7 a_fresh o hf E0
    change none = some o at hf
    cases hf
  | succ n ih =>
    intro z2 z7 a_fresh o hf E0
    change f_X4_sweep_L134_s a_bases a_words a_numbers a_heads y1 y3 y4 y5 y6 (f_X4_sweep_L134 a_bases a_words a_numbers a_heads y1 y3 y4 y5 y6 n) z2 z7 a_fresh = some o at hf
    unfold f_X4_sweep_L134_s at hf
    refine g_iload F dX4_sweep_134 7 rfl ?_
    refine g_iload F dX4_sweep_136 5 rfl ?_
    refine g_icmp_gt (tgt := 205) F dX4_sweep_138 (by decide) (fun c138 => ?_) (fun c138 => ?_)
    · have hf := iteT hf c138
      cases hf
      refine g_lv [0, 1, 2, 3, 4, 5] rfl ?_
      exact E0
    · have hf := iteF hf c138
      refine g_aload_n F dX4_sweep_141 rfl 0 rfl ?_
      refine g_get F h_X4_sweep_4 0 rfl rfl 7 (by decide) (by decide +kernel) rfl dX4_sweep_142 ?_
      refine g_iload_n F dX4_sweep_145 rfl 3 rfl ?_
      obtain ⟨h15, hf⟩ := ckE hf
      refine g_iald F 6 0 rfl rfl h15 dX4_sweep_146 ?_
      refine g_if_lt (tgt := 205) F dX4_sweep_147 (by decide) (fun c147 => ?_) (fun c147 => ?_)
      · have hf := iteT hf c147
        cases hf
        refine g_lv [0, 1, 2, 3, 4, 5] rfl ?_
        exact E0
      · have hf := iteF hf c147
        refine g_aload_n F dX4_sweep_150 rfl 0 rfl ?_
        refine g_get F h_X4_sweep_4 0 rfl rfl 3 (by decide) (by decide +kernel) rfl dX4_sweep_151 ?_
        refine g_sipush (v := 256) F dX4_sweep_154 rfl ?_
        refine g_iload_n F dX4_sweep_157 rfl 1 rfl ?_
        refine g_imul F dX4_sweep_158 ?_
        refine g_iload_n F dX4_sweep_159 rfl 3 rfl ?_
        refine g_iadd F dX4_sweep_160 ?_
        refine g_iload F dX4_sweep_161 7 rfl ?_
        refine g_iadd F dX4_sweep_163 ?_
        obtain ⟨h16, hf⟩ := ckE hf
        refine g_iald F 3 0 rfl rfl h16 dX4_sweep_164 ?_
        obtain ⟨v17, ev17, hf⟩ := nmE hf
        refine g_nmi ev17 ?_
        refine g_istore (lv' := [(8, .int v17), (0, .ref a_p), (1, .int y1), (2, .int z2), (3, .int y3), (4, .int y4), (5, .int y5), (6, .int y6), (7, .int z7)]) F dX4_sweep_165 (by decide) rfl ?_
        refine g_aload_n F dX4_sweep_167 rfl 1 rfl ?_
        refine g_get F h_X4_sweep_4 0 rfl rfl 18 (by decide) (by decide +kernel) rfl dX4_sweep_168 ?_
        refine g_iload_n F dX4_sweep_171 rfl 3 rfl ?_
        refine g_iload F dX4_sweep_172 8 rfl ?_
        refine g_if_eq (tgt := 183) F dX4_sweep_174 (by decide) (fun c174 => ?_) (fun c174 => ?_)
        · have hf := iteT hf c174
          refine g_iload F dX4_sweep_183 0 rfl ?_
          refine g_goto (tgt := 195) F dX4_sweep_185 (by decide) ?_
          obtain ⟨h18, hf⟩ := ckE hf
          refine g_iast F 10 0 rfl rfl h18 dX4_sweep_195 (ws' := wMd cI a_p a_bases_p a_tops_p a_words_p a_roots_p a_order_p a_numbers_p a_image_p a_other_p a_input_p a_fresh_p a_freshRoots_p a_heads_p a_kept_p a_thrown a_bases a_tops a_words a_roots a_reached a_order a_numbers a_size a_image a_otherSize a_other a_waiting a_input a_at a_ended a_told a_many (upd a_fresh z2.toNatClampNeg v17) a_freshRoots a_heads a_count a_kept) rfl ?_
          obtain ⟨v19, ev19, hf⟩ := nmE hf
          refine g_iinc (j := 3) (lv' := [(2, .int v19), (8, .int v17), (0, .ref a_p), (1, .int y1), (3, .int y3), (4, .int y4), (5, .int y5), (6, .int y6), (7, .int z7)]) F dX4_sweep_196 rfl ev19.symm (by decide) rfl ?_
          obtain ⟨v20, ev20, hf⟩ := nmE hf
          refine g_iinc (j := 8) (lv' := [(7, .int v20), (2, .int v19), (8, .int v17), (0, .ref a_p), (1, .int y1), (3, .int y3), (4, .int y4), (5, .int y5), (6, .int y6)]) F dX4_sweep_199 rfl ev20.symm (by decide) rfl ?_
          refine g_goto (tgt := 134) F dX4_sweep_202 (by decide) ?_
          refine g_lv [3, 4, 1, 5, 6, 7, 8, 0] rfl ?_
          exact ih _ _ _ o hf E0
        · have hf := iteF hf c174
          refine g_iload F dX4_sweep_177 7 rfl ?_
          refine g_iconst (v := 2) F dX4_sweep_179 rfl ?_
          refine g_icmp_ne (tgt := 188) F dX4_sweep_180 (by decide) (fun c180 => ?_) (fun c180 => ?_)
          · have hf := iteF hf c180
            refine g_aload_n F dX4_sweep_188 rfl 1 rfl ?_
            refine g_iload_n F dX4_sweep_189 rfl 2 rfl ?_
            refine g_iload F dX4_sweep_190 0 rfl ?_
            obtain ⟨o21, ho21, hf⟩ := bnE hf
            refine g_callPi (n := 2) (As := [.int y1, .int v17]) F (c_X4_moved l dC dI cI cJ cH a_p a_bases_p a_tops_p a_words_p a_roots_p a_order_p a_numbers_p a_image_p a_other_p a_input_p a_fresh_p a_freshRoots_p a_heads_p a_kept_p a_thrown a_bases a_tops a_words a_roots a_reached a_order a_numbers a_size a_image a_otherSize a_other a_waiting a_input a_at a_ended a_told a_many a_fresh a_freshRoots a_heads a_count a_kept y1 v17 o21 ho21) ggX4_sweep_X4_moved rfl rfl rfl (by decide +kernel) (by decide +kernel) (by decide +kernel) (by decide +kernel) (by decide +kernel) ⟨Nat.le_of_ble_eq_true rfl, Nat.le_of_ble_eq_true rfl⟩ ⟨Nat.le_of_ble_eq_true rfl, Nat.le_of_ble_eq_true rfl⟩ hN 0 rfl rfl rfl ([]) ([]) rfl (fun _ => rfl) rfl (Nat.le_of_ble_eq_true rfl) rfl dX4_sweep_192 (cells' := 0) (slots' := 0) rfl rfl (fun r u hp => ?_)
            subst hp
            refine g_ws (ws' := wMd cI a_p a_bases_p a_tops_p a_words_p a_roots_p a_order_p a_numbers_p a_image_p a_other_p a_input_p a_fresh_p a_freshRoots_p a_heads_p a_kept_p a_thrown a_bases a_tops a_words a_roots a_reached a_order a_numbers a_size a_image a_otherSize a_other a_waiting a_input a_at a_ended a_told a_many a_fresh a_freshRoots a_heads a_count a_kept) rfl ?_
            obtain ⟨h22, hf⟩ := ckE hf
            refine g_iast F 10 0 rfl rfl h22 dX4_sweep_195 (ws' := wMd cI a_p a_bases_p a_tops_p a_words_p a_roots_p a_order_p a_numbers_p a_image_p a_other_p a_input_p a_fresh_p a_freshRoots_p a_heads_p a_kept_p a_thrown a_bases a_tops a_words a_roots a_reached a_order a_numbers a_size a_image a_otherSize a_other a_waiting a_input a_at a_ended a_told a_many (upd a_fresh z2.toNatClampNeg o21) a_freshRoots a_heads a_count a_kept) rfl ?_
            obtain ⟨v23, ev23, hf⟩ := nmE hf
            refine g_iinc (j := 3) (lv' := [(2, .int v23), (8, .int v17), (0, .ref a_p), (1, .int y1), (3, .int y3), (4, .int y4), (5, .int y5), (6, .int y6), (7, .int z7)]) F dX4_sweep_196 rfl ev23.symm (by decide) rfl ?_
            obtain ⟨v24, ev24, hf⟩ := nmE hf
            refine g_iinc (j := 8) (lv' := [(7, .int v24), (2, .int v23), (8, .int v17), (0, .ref a_p), (1, .int y1), (3, .int y3), (4, .int y4), (5, .int y5), (6, .int y6)]) F dX4_sweep_199 rfl ev24.symm (by decide) rfl ?_
            refine g_goto (tgt := 134) F dX4_sweep_202 (by decide) ?_
            refine g_lv [3, 4, 1, 5, 6, 7, 8, 0] rfl ?_
            exact ih _ _ _ o hf E0
          · have hf := iteT hf c180
            refine g_iload F dX4_sweep_183 0 rfl ?_
            refine g_goto (tgt := 195) F dX4_sweep_185 (by decide) ?_
            obtain ⟨h25, hf⟩ := ckE hf
            refine g_iast F 10 0 rfl rfl h25 dX4_sweep_195 (ws' := wMd cI a_p a_bases_p a_tops_p a_words_p a_roots_p a_order_p a_numbers_p a_image_p a_other_p a_input_p a_fresh_p a_freshRoots_p a_heads_p a_kept_p a_thrown a_bases a_tops a_words a_roots a_reached a_order a_numbers a_size a_image a_otherSize a_other a_waiting a_input a_at a_ended a_told a_many (upd a_fresh z2.toNatClampNeg v17) a_freshRoots a_heads a_count a_kept) rfl ?_
            obtain ⟨v26, ev26, hf⟩ := nmE hf
            refine g_iinc (j := 3) (lv' := [(2, .int v26), (8, .int v17), (0, .ref a_p), (1, .int y1), (3, .int y3), (4, .int y4), (5, .int y5), (6, .int y6), (7, .int z7)]) F dX4_sweep_196 rfl ev26.symm (by decide) rfl ?_
            obtain ⟨v27, ev27, hf⟩ := nmE hf
            refine g_iinc (j := 8) (lv' := [(7, .int v27), (2, .int v26), (8, .int v17), (0, .ref a_p), (1, .int y1), (3, .int y3), (4, .int y4), (5, .int y5), (6, .int y6)]) F dX4_sweep_199 rfl ev27.symm (by decide) rfl ?_
            refine g_goto (tgt := 134) F dX4_sweep_202 (by decide) ?_
            refine g_lv [3, 4, 1, 5, 6, 7, 8, 0] rfl ?_
            exact ih _ _ _ o hf E0
def f_X4_sweep_L109_s (a_bases : (Nat → Int32)) (a_words : (Nat → Int32)) (a_numbers : (Nat → Int32)) (a_heads : (Nat → Int32)) (y1 : Int32) (y4 : Int32) (rc : Int32 → Int32 → (Nat → Int32) → Option (Int32 × (Nat → Int32))) (z2 : Int32) (z3 : Int32) (a_fresh : (Nat → Int32)) : Option (Int32 × (Nat → Int32)) :=
  if y4 ≤ z3 then some (z2, a_fresh) else Option.bind (f_X4_slotsAt a_words y1 z3) fun o13 => Option.bind (f_X4_kindAt a_words y1 z3) fun o14 => Option.bind (f_X4_sweep_L134 a_bases a_words a_numbers a_heads y1 z3 y4 o13 o14 FU z2 (0 : Int32) a_fresh) fun o28 => nm ((z3 + (1 : Int32)) + o13) fun v29 => rc o28.1 v29 o28.2
def f_X4_sweep_L109 (a_bases : (Nat → Int32)) (a_words : (Nat → Int32)) (a_numbers : (Nat → Int32)) (a_heads : (Nat → Int32)) (y1 : Int32) (y4 : Int32) : Nat → Int32 → Int32 → (Nat → Int32) → Option (Int32 × (Nat → Int32))
  | 0, _, _, _ => none
  | n + 1, z2, z3, a_fresh => f_X4_sweep_L109_s a_bases a_words a_numbers a_heads y1 y4 (f_X4_sweep_L109 a_bases a_words a_numbers a_heads y1 y4 n) z2 z3 a_fresh
set_option maxHeartbeats 4000000 in
theorem w_X4_sweep_L109 {p : Program} {l : Launch} {e : Env} {s : State} {m : MethodId} {args : Array Value} {below : List Frame} {meth : Method} {c : Code} {A : Nat → Prop} {Q : State → Prop} {dC : Nat → ClassId} {dI : Nat → Nat → Nat} {cI cJ cH : ClassId} {a_p a_bases_p a_tops_p a_words_p a_roots_p a_order_p a_numbers_p a_image_p a_other_p a_input_p a_fresh_p a_freshRoots_p a_heads_p a_kept_p : Nat} {a_thrown : Int32} {a_bases : (Nat → Int32)} {a_tops : (Nat → Int32)} {a_words : (Nat → Int32)} {a_roots : (Nat → Int32)} {a_reached : Int32} {a_order : (Nat → Int32)} {a_numbers : (Nat → Int32)} {a_size : Int32} {a_image : (Nat → Int32)} {a_otherSize : Int32} {a_other : (Nat → Int32)} {a_waiting : Int32} {a_input : (Nat → Int32)} {a_at : Int32} {a_ended : Int32} {a_told : Int32} {a_many : Int32} {a_freshRoots : (Nat → Int32)} {a_heads : (Nat → Int32)} {a_count : Int64} {a_kept : (Nat → Int32)} {y1 : Int32} {y4 : Int32} (F : gF p m c cX4_sweep 9 s args wsX4_sweep yX4_sweep.cls (dC, dI) vwCl (gT cI cJ cH) A) (hN : ∀ w ∈ gN, va_Nw w s) : ∀ (n : Nat) (z2 : Int32) (z3 : Int32) (a_fresh : (Nat → Int32)) (o : (Int32 × (Nat → Int32))), f_X4_sweep_L109 a_bases a_words a_numbers a_heads y1 y4 n z2 z3 a_fresh = some o → (gW p l e rm_X4_sweep s m args below meth c 0 0 Q (dC, dI) vwCl A 9 (wMd cI a_p a_bases_p a_tops_p a_words_p a_roots_p a_order_p a_numbers_p a_image_p a_other_p a_input_p a_fresh_p a_freshRoots_p a_heads_p a_kept_p a_thrown a_bases a_tops a_words a_roots a_reached a_order a_numbers a_size a_image a_otherSize a_other a_waiting a_input a_at a_ended a_told a_many o.2 a_freshRoots a_heads a_count a_kept) [(0, .ref a_p), (1, .int y1), (2, .int o.1), (4, .int y4)] 215 []) → gW p l e rm_X4_sweep s m args below meth c 0 0 Q (dC, dI) vwCl A 9 (wMd cI a_p a_bases_p a_tops_p a_words_p a_roots_p a_order_p a_numbers_p a_image_p a_other_p a_input_p a_fresh_p a_freshRoots_p a_heads_p a_kept_p a_thrown a_bases a_tops a_words a_roots a_reached a_order a_numbers a_size a_image a_otherSize a_other a_waiting a_input a_at a_ended a_told a_many a_fresh a_freshRoots a_heads a_count a_kept) [(0, .ref a_p), (1, .int y1), (2, .int z2), (3, .int z3), (4, .int y4)] 109 [] := by
  intro n
  induction n with
  | zero =>
    intro z2 z3 a_fresh o hf E0
    change none = some o at hf
    cases hf
  | succ n ih =>
    intro z2 z3 a_fresh o hf E0
    change f_X4_sweep_L109_s a_bases a_words a_numbers a_heads y1 y4 (f_X4_sweep_L109 a_bases a_words a_numbers a_heads y1 y4 n) z2 z3 a_fresh = some o at hf
    unfold f_X4_sweep_L109_s at hf
    refine g_iload_n F dX4_sweep_109 rfl 3 rfl ?_
    refine g_iload F dX4_sweep_110 4 rfl ?_
    refine g_icmp_ge (tgt := 215) F dX4_sweep_112 (by decide) (fun c112 => ?_) (fun c112 => ?_)
    · have hf := iteT hf c112
      cases hf
      refine g_lv [0, 1, 2, 4] rfl ?_
      exact E0
    · have hf := iteF hf c112
      refine g_aload_n F dX4_sweep_115 rfl 0 rfl ?_
      refine g_iload_n F dX4_sweep_116 rfl 1 rfl ?_
      refine g_iload_n F dX4_sweep_117 rfl 3 rfl ?_
      obtain ⟨o13, ho13, hf⟩ := bnE hf
      refine g_callPi (n := 2) (As := [.int y1, .int z3]) F (c_X4_slotsAt l dC dI cI cJ cH a_p a_bases_p a_tops_p a_words_p a_roots_p a_order_p a_numbers_p a_image_p a_other_p a_input_p a_fresh_p a_freshRoots_p a_heads_p a_kept_p a_thrown a_bases a_tops a_words a_roots a_reached a_order a_numbers a_size a_image a_otherSize a_other a_waiting a_input a_at a_ended a_told a_many a_fresh a_freshRoots a_heads a_count a_kept y1 z3 o13 ho13) ggX4_sweep_X4_slotsAt rfl rfl rfl (by decide +kernel) (by decide +kernel) (by decide +kernel) (by decide +kernel) (by decide +kernel) ⟨Nat.le_of_ble_eq_true rfl, Nat.le_of_ble_eq_true rfl⟩ ⟨Nat.le_of_ble_eq_true rfl, Nat.le_of_ble_eq_true rfl⟩ hN 0 rfl rfl rfl ([]) ([]) rfl (fun _ => rfl) rfl (Nat.le_of_ble_eq_true rfl) rfl dX4_sweep_118 (cells' := 0) (slots' := 0) rfl rfl (fun r u hp => ?_)
      subst hp
      refine g_ws (ws' := wMd cI a_p a_bases_p a_tops_p a_words_p a_roots_p a_order_p a_numbers_p a_image_p a_other_p a_input_p a_fresh_p a_freshRoots_p a_heads_p a_kept_p a_thrown a_bases a_tops a_words a_roots a_reached a_order a_numbers a_size a_image a_otherSize a_other a_waiting a_input a_at a_ended a_told a_many a_fresh a_freshRoots a_heads a_count a_kept) rfl ?_
      refine g_istore (lv' := [(5, .int o13), (0, .ref a_p), (1, .int y1), (2, .int z2), (3, .int z3), (4, .int y4)]) F dX4_sweep_121 (by decide) rfl ?_
      refine g_aload_n F dX4_sweep_123 rfl 1 rfl ?_
      refine g_iload_n F dX4_sweep_124 rfl 2 rfl ?_
      refine g_iload_n F dX4_sweep_125 rfl 4 rfl ?_
      obtain ⟨o14, ho14, hf⟩ := bnE hf
      refine g_callPi (n := 2) (As := [.int y1, .int z3]) F (c_X4_kindAt l dC dI cI cJ cH a_p a_bases_p a_tops_p a_words_p a_roots_p a_order_p a_numbers_p a_image_p a_other_p a_input_p a_fresh_p a_freshRoots_p a_heads_p a_kept_p a_thrown a_bases a_tops a_words a_roots a_reached a_order a_numbers a_size a_image a_otherSize a_other a_waiting a_input a_at a_ended a_told a_many a_fresh a_freshRoots a_heads a_count a_kept y1 z3 o14 ho14) ggX4_sweep_X4_kindAt rfl rfl rfl (by decide +kernel) (by decide +kernel) (by decide +kernel) (by decide +kernel) (by decide +kernel) ⟨Nat.le_of_ble_eq_true rfl, Nat.le_of_ble_eq_true rfl⟩ ⟨Nat.le_of_ble_eq_true rfl, Nat.le_of_ble_eq_true rfl⟩ hN 0 rfl rfl rfl ([]) ([]) rfl (fun _ => rfl) rfl (Nat.le_of_ble_eq_true rfl) rfl dX4_sweep_126 (cells' := 0) (slots' := 0) rfl rfl (fun r u hp => ?_)
      subst hp
      refine g_ws (ws' := wMd cI a_p a_bases_p a_tops_p a_words_p a_roots_p a_order_p a_numbers_p a_image_p a_other_p a_input_p a_fresh_p a_freshRoots_p a_heads_p a_kept_p a_thrown a_bases a_tops a_words a_roots a_reached a_order a_numbers a_size a_image a_otherSize a_other a_waiting a_input a_at a_ended a_told a_many a_fresh a_freshRoots a_heads a_count a_kept) rfl ?_
      refine g_istore (lv' := [(6, .int o14), (5, .int o13), (0, .ref a_p), (1, .int y1), (2, .int z2), (3, .int z3), (4, .int y4)]) F dX4_sweep_129 (by decide) rfl ?_
      refine g_iconst (v := 0) F dX4_sweep_131 rfl ?_
      refine g_istore (lv' := [(7, .int (0 : Int32)), (6, .int o14), (5, .int o13), (0, .ref a_p), (1, .int y1), (2, .int z2), (3, .int z3), (4, .int y4)]) F dX4_sweep_132 (by decide) rfl ?_
      obtain ⟨o28, ho28, hf⟩ := bnE hf
      refine g_lv [3, 4, 5, 6, 7, 2, 1, 0] rfl ?_
      refine w_X4_sweep_L134 F hN FU _ _ _ o28 ho28 ?_
      refine g_iload_n F dX4_sweep_205 rfl 3 rfl ?_
      refine g_iconst (v := 1) F dX4_sweep_206 rfl ?_
      refine g_iadd F dX4_sweep_207 ?_
      refine g_iload F dX4_sweep_208 5 rfl ?_
      refine g_iadd F dX4_sweep_210 ?_
      obtain ⟨v29, ev29, hf⟩ := nmE hf
      refine g_nmi ev29 ?_
      refine g_istore_n (lv' := [(3, .int v29), (0, .ref a_p), (1, .int y1), (2, .int o28.1), (4, .int y4), (5, .int o13)]) F dX4_sweep_211 rfl (by decide) rfl ?_
      refine g_goto (tgt := 109) F dX4_sweep_212 (by decide) ?_
      refine g_lv [1, 2, 3, 0, 4] rfl ?_
      exact ih _ _ _ o hf E0
def f_X4_sweep_L218_s (a_bases : (Nat → Int32)) (a_heads : (Nat → Int32)) (y1 : Int32) (y2 : Int32) (y4 : Int32) (rc : Int32 → (Nat → Int32) → Option (Nat → Int32)) (z5 : Int32) (a_roots : (Nat → Int32)) : Option (Nat → Int32) :=
  if (4 : Int32) ≤ z5 then some a_roots else ck (inR (((4 : Int32) * y1) + z5) 8) (Option.bind (f_X4_moved a_bases a_heads y1 (a_roots (((4 : Int32) * y1) + z5).toNatClampNeg)) fun o32 => ck (inR (((4 : Int32) * y1) + z5) 8) (nm (z5 + (1 : Int32)) fun v34 => rc v34 (upd a_roots (((4 : Int32) * y1) + z5).toNatClampNeg o32)))
def f_X4_sweep_L218 (a_bases : (Nat → Int32)) (a_heads : (Nat → Int32)) (y1 : Int32) (y2 : Int32) (y4 : Int32) : Nat → Int32 → (Nat → Int32) → Option (Nat → Int32)
  | 0, _, _ => none
  | n + 1, z5, a_roots => f_X4_sweep_L218_s a_bases a_heads y1 y2 y4 (f_X4_sweep_L218 a_bases a_heads y1 y2 y4 n) z5 a_roots
set_option maxHeartbeats 4000000 in
theorem w_X4_sweep_L218 {p : Program} {l : Launch} {e : Env} {s : State} {m : MethodId} {args : Array Value} {below : List Frame} {meth : Method} {c : Code} {A : Nat → Prop} {Q : State → Prop} {dC : Nat → ClassId} {dI : Nat → Nat → Nat} {cI cJ cH : ClassId} {a_p a_bases_p a_tops_p a_words_p a_roots_p a_order_p a_numbers_p a_image_p a_other_p a_input_p a_fresh_p a_freshRoots_p a_heads_p a_kept_p : Nat} {a_thrown : Int32} {a_bases : (Nat → Int32)} {a_tops : (Nat → Int32)} {a_words : (Nat → Int32)} {a_reached : Int32} {a_order : (Nat → Int32)} {a_numbers : (Nat → Int32)} {a_size : Int32} {a_image : (Nat → Int32)} {a_otherSize : Int32} {a_other : (Nat → Int32)} {a_waiting : Int32} {a_input : (Nat → Int32)} {a_at : Int32} {a_ended : Int32} {a_told : Int32} {a_many : Int32} {a_fresh : (Nat → Int32)} {a_freshRoots : (Nat → Int32)} {a_heads : (Nat → Int32)} {a_count : Int64} {a_kept : (Nat → Int32)} {y1 : Int32} {y2 : Int32} {y4 : Int32} (F : gF p m c cX4_sweep 9 s args wsX4_sweep yX4_sweep.cls (dC, dI) vwCl (gT cI cJ cH) A) (hN : ∀ w ∈ gN, va_Nw w s) : ∀ (n : Nat) (z5 : Int32) (a_roots : (Nat → Int32)) (o : (Nat → Int32)), f_X4_sweep_L218 a_bases a_heads y1 y2 y4 n z5 a_roots = some o → (gW p l e rm_X4_sweep s m args below meth c 0 0 Q (dC, dI) vwCl A 9 (wMd cI a_p a_bases_p a_tops_p a_words_p a_roots_p a_order_p a_numbers_p a_image_p a_other_p a_input_p a_fresh_p a_freshRoots_p a_heads_p a_kept_p a_thrown a_bases a_tops a_words o a_reached a_order a_numbers a_size a_image a_otherSize a_other a_waiting a_input a_at a_ended a_told a_many a_fresh a_freshRoots a_heads a_count a_kept) [(0, .ref a_p), (1, .int y1), (2, .int y2), (4, .int y4)] 257 []) → gW p l e rm_X4_sweep s m args below meth c 0 0 Q (dC, dI) vwCl A 9 (wMd cI a_p a_bases_p a_tops_p a_words_p a_roots_p a_order_p a_numbers_p a_image_p a_other_p a_input_p a_fresh_p a_freshRoots_p a_heads_p a_kept_p a_thrown a_bases a_tops a_words a_roots a_reached a_order a_numbers a_size a_image a_otherSize a_other a_waiting a_input a_at a_ended a_told a_many a_fresh a_freshRoots a_heads a_count a_kept) [(0, .ref a_p), (1, .int y1), (2, .int y2), (4, .int y4), (5, .int z5)] 218 [] := by
  intro n
  induction n with
  | zero =>
    intro z5 a_roots o hf E0
    change none = some o at hf
    cases hf
  | succ n ih =>
    intro z5 a_roots o hf E0
    change f_X4_sweep_L218_s a_bases a_heads y1 y2 y4 (f_X4_sweep_L218 a_bases a_heads y1 y2 y4 n) z5 a_roots = some o at hf
    unfold f_X4_sweep_L218_s at hf
    refine g_iload F dX4_sweep_218 4 rfl ?_
    refine g_iconst (v := 4) F dX4_sweep_220 rfl ?_
    refine g_icmp_ge (tgt := 257) F dX4_sweep_221 (by decide) (fun c221 => ?_) (fun c221 => ?_)
    · have hf := iteT hf c221
      cases hf
      refine g_lv [0, 1, 2, 3] rfl ?_
      exact E0
    · have hf := iteF hf c221
      refine g_aload_n F dX4_sweep_224 rfl 0 rfl ?_
      refine g_get F h_X4_sweep_4 0 rfl rfl 4 (by decide) (by decide +kernel) rfl dX4_sweep_225 ?_
      refine g_iconst (v := 4) F dX4_sweep_228 rfl ?_
      refine g_iload_n F dX4_sweep_229 rfl 1 rfl ?_
      refine g_imul F dX4_sweep_230 ?_
      refine g_iload F dX4_sweep_231 4 rfl ?_
      refine g_iadd F dX4_sweep_233 ?_
      refine g_aload_n F dX4_sweep_234 rfl 0 rfl ?_
      refine g_iload_n F dX4_sweep_235 rfl 1 rfl ?_
      refine g_aload_n F dX4_sweep_236 rfl 0 rfl ?_
      refine g_get F h_X4_sweep_4 0 rfl rfl 4 (by decide) (by decide +kernel) rfl dX4_sweep_237 ?_
      refine g_iconst (v := 4) F dX4_sweep_240 rfl ?_
      refine g_iload_n F dX4_sweep_241 rfl 1 rfl ?_
      refine g_imul F dX4_sweep_242 ?_
      refine g_iload F dX4_sweep_243 4 rfl ?_
      refine g_iadd F dX4_sweep_245 ?_
      obtain ⟨h31, hf⟩ := ckE hf
      refine g_iald F 4 0 rfl rfl h31 dX4_sweep_246 ?_
      obtain ⟨o32, ho32, hf⟩ := bnE hf
      refine g_callPi (n := 2) (As := [.int y1, .int (a_roots (((4 : Int32) * y1) + z5).toNatClampNeg)]) F (c_X4_moved l dC dI cI cJ cH a_p a_bases_p a_tops_p a_words_p a_roots_p a_order_p a_numbers_p a_image_p a_other_p a_input_p a_fresh_p a_freshRoots_p a_heads_p a_kept_p a_thrown a_bases a_tops a_words a_roots a_reached a_order a_numbers a_size a_image a_otherSize a_other a_waiting a_input a_at a_ended a_told a_many a_fresh a_freshRoots a_heads a_count a_kept y1 (a_roots (((4 : Int32) * y1) + z5).toNatClampNeg) o32 ho32) ggX4_sweep_X4_moved rfl rfl rfl (by decide +kernel) (by decide +kernel) (by decide +kernel) (by decide +kernel) (by decide +kernel) ⟨Nat.le_of_ble_eq_true rfl, Nat.le_of_ble_eq_true rfl⟩ ⟨Nat.le_of_ble_eq_true rfl, Nat.le_of_ble_eq_true rfl⟩ hN 0 rfl rfl rfl ([]) ([]) rfl (fun _ => rfl) rfl (Nat.le_of_ble_eq_true rfl) rfl dX4_sweep_247 (cells' := 0) (slots' := 0) rfl rfl (fun r u hp => ?_)
      subst hp
      refine g_ws (ws' := wMd cI a_p a_bases_p a_tops_p a_words_p a_roots_p a_order_p a_numbers_p a_image_p a_other_p a_input_p a_fresh_p a_freshRoots_p a_heads_p a_kept_p a_thrown a_bases a_tops a_words a_roots a_reached a_order a_numbers a_size a_image a_otherSize a_other a_waiting a_input a_at a_ended a_told a_many a_fresh a_freshRoots a_heads a_count a_kept) rfl ?_
      obtain ⟨h33, hf⟩ := ckE hf
      refine g_iast F 4 0 rfl rfl h33 dX4_sweep_250 (ws' := wMd cI a_p a_bases_p a_tops_p a_words_p a_roots_p a_order_p a_numbers_p a_image_p a_other_p a_input_p a_fresh_p a_freshRoots_p a_heads_p a_kept_p a_thrown a_bases a_tops a_words (upd a_roots (((4 : Int32) * y1) + z5).toNatClampNeg o32) a_reached a_order a_numbers a_size a_image a_otherSize a_other a_waiting a_input a_at a_ended a_told a_many a_fresh a_freshRoots a_heads a_count a_kept) rfl ?_
      obtain ⟨v34, ev34, hf⟩ := nmE hf
      refine g_iinc (j := 4) (lv' := [(5, .int v34), (0, .ref a_p), (1, .int y1), (2, .int y2), (4, .int y4)]) F dX4_sweep_251 rfl ev34.symm (by decide) rfl ?_
      refine g_goto (tgt := 218) F dX4_sweep_254 (by decide) ?_
      refine g_lv [1, 2, 3, 4, 0] rfl ?_
      exact ih _ _ o hf E0
def f_X4_sweep_L260_s (a_fresh : (Nat → Int32)) (y1 : Int32) (y2 : Int32) (y4 : Int32) (rc : Int32 → (Nat → Int32) → Option (Nat → Int32)) (z5 : Int32) (a_words : (Nat → Int32)) : Option (Nat → Int32) :=
  if (256 : Int32) ≤ z5 then some a_words else if y2 ≤ z5 then ck (inR (((256 : Int32) * y1) + z5) 512) (nm (z5 + (1 : Int32)) fun v37 => rc v37 (upd a_words (((256 : Int32) * y1) + z5).toNatClampNeg (0 : Int32))) else ck (inR z5 256) (ck (inR (((256 : Int32) * y1) + z5) 512) (nm (z5 + (1 : Int32)) fun v40 => rc v40 (upd a_words (((256 : Int32) * y1) + z5).toNatClampNeg (a_fresh z5.toNatClampNeg))))
def f_X4_sweep_L260 (a_fresh : (Nat → Int32)) (y1 : Int32) (y2 : Int32) (y4 : Int32) : Nat → Int32 → (Nat → Int32) → Option (Nat → Int32)
  | 0, _, _ => none
  | n + 1, z5, a_words => f_X4_sweep_L260_s a_fresh y1 y2 y4 (f_X4_sweep_L260 a_fresh y1 y2 y4 n) z5 a_words
set_option maxHeartbeats 4000000 in
theorem w_X4_sweep_L260 {p : Program} {l : Launch} {e : Env} {s : State} {m : MethodId} {args : Array Value} {below : List Frame} {meth : Method} {c : Code} {A : Nat → Prop} {Q : State → Prop} {dC : Nat → ClassId} {dI : Nat → Nat → Nat} {cI cJ cH : ClassId} {a_p a_bases_p a_tops_p a_words_p a_roots_p a_order_p a_numbers_p a_image_p a_other_p a_input_p a_fresh_p a_freshRoots_p a_heads_p a_kept_p : Nat} {a_thrown : Int32} {a_bases : (Nat → Int32)} {a_tops : (Nat → Int32)} {a_roots : (Nat → Int32)} {a_reached : Int32} {a_order : (Nat → Int32)} {a_numbers : (Nat → Int32)} {a_size : Int32} {a_image : (Nat → Int32)} {a_otherSize : Int32} {a_other : (Nat → Int32)} {a_waiting : Int32} {a_input : (Nat → Int32)} {a_at : Int32} {a_ended : Int32} {a_told : Int32} {a_many : Int32} {a_fresh : (Nat → Int32)} {a_freshRoots : (Nat → Int32)} {a_heads : (Nat → Int32)} {a_count : Int64} {a_kept : (Nat → Int32)} {y1 : Int32} {y2 : Int32} {y4 : Int32} (F : gF p m c cX4_sweep 9 s args wsX4_sweep yX4_sweep.cls (dC, dI) vwCl (gT cI cJ cH) A) (hN : ∀ w ∈ gN, va_Nw w s) : ∀ (n : Nat) (z5 : Int32) (a_words : (Nat → Int32)) (o : (Nat → Int32)), f_X4_sweep_L260 a_fresh y1 y2 y4 n z5 a_words = some o → (gW p l e rm_X4_sweep s m args below meth c 0 0 Q (dC, dI) vwCl A 9 (wMd cI a_p a_bases_p a_tops_p a_words_p a_roots_p a_order_p a_numbers_p a_image_p a_other_p a_input_p a_fresh_p a_freshRoots_p a_heads_p a_kept_p a_thrown a_bases a_tops o a_roots a_reached a_order a_numbers a_size a_image a_otherSize a_other a_waiting a_input a_at a_ended a_told a_many a_fresh a_freshRoots a_heads a_count a_kept) [(0, .ref a_p), (1, .int y1), (2, .int y2), (4, .int y4)] 304 []) → gW p l e rm_X4_sweep s m args below meth c 0 0 Q (dC, dI) vwCl A 9 (wMd cI a_p a_bases_p a_tops_p a_words_p a_roots_p a_order_p a_numbers_p a_image_p a_other_p a_input_p a_fresh_p a_freshRoots_p a_heads_p a_kept_p a_thrown a_bases a_tops a_words a_roots a_reached a_order a_numbers a_size a_image a_otherSize a_other a_waiting a_input a_at a_ended a_told a_many a_fresh a_freshRoots a_heads a_count a_kept) [(0, .ref a_p), (1, .int y1), (2, .int y2), (4, .int y4), (5, .int z5)] 260 [] := by
  intro n
  induction n with
  | zero =>
    intro z5 a_words o hf E0
    change none = some o at hf
    cases hf
  | succ n ih =>
    intro z5 a_words o hf E0
    change f_X4_sweep_L260_s a_fresh y1 y2 y4 (f_X4_sweep_L260 a_fresh y1 y2 y4 n) z5 a_words = some o at hf
    unfold f_X4_sweep_L260_s at hf
    refine g_iload F dX4_sweep_260 4 rfl ?_
    refine g_sipush (v := 256) F dX4_sweep_262 rfl ?_
    refine g_icmp_ge (tgt := 304) F dX4_sweep_265 (by decide) (fun c265 => ?_) (fun c265 => ?_)
    · have hf := iteT hf c265
      cases hf
      refine g_lv [0, 1, 2, 3] rfl ?_
      exact E0
    · have hf := iteF hf c265
      refine g_aload_n F dX4_sweep_268 rfl 0 rfl ?_
      refine g_get F h_X4_sweep_4 0 rfl rfl 3 (by decide) (by decide +kernel) rfl dX4_sweep_269 ?_
      refine g_sipush (v := 256) F dX4_sweep_272 rfl ?_
      refine g_iload_n F dX4_sweep_275 rfl 1 rfl ?_
      refine g_imul F dX4_sweep_276 ?_
      refine g_iload F dX4_sweep_277 4 rfl ?_
      refine g_iadd F dX4_sweep_279 ?_
      refine g_iload F dX4_sweep_280 4 rfl ?_
      refine g_iload_n F dX4_sweep_282 rfl 2 rfl ?_
      refine g_icmp_ge (tgt := 296) F dX4_sweep_283 (by decide) (fun c283 => ?_) (fun c283 => ?_)
      · have hf := iteT hf c283
        refine g_iconst (v := 0) F dX4_sweep_296 rfl ?_
        obtain ⟨h36, hf⟩ := ckE hf
        refine g_iast F 3 0 rfl rfl h36 dX4_sweep_297 (ws' := wMd cI a_p a_bases_p a_tops_p a_words_p a_roots_p a_order_p a_numbers_p a_image_p a_other_p a_input_p a_fresh_p a_freshRoots_p a_heads_p a_kept_p a_thrown a_bases a_tops (upd a_words (((256 : Int32) * y1) + z5).toNatClampNeg (0 : Int32)) a_roots a_reached a_order a_numbers a_size a_image a_otherSize a_other a_waiting a_input a_at a_ended a_told a_many a_fresh a_freshRoots a_heads a_count a_kept) rfl ?_
        obtain ⟨v37, ev37, hf⟩ := nmE hf
        refine g_iinc (j := 4) (lv' := [(5, .int v37), (0, .ref a_p), (1, .int y1), (2, .int y2), (4, .int y4)]) F dX4_sweep_298 rfl ev37.symm (by decide) rfl ?_
        refine g_goto (tgt := 260) F dX4_sweep_301 (by decide) ?_
        refine g_lv [1, 2, 3, 4, 0] rfl ?_
        exact ih _ _ o hf E0
      · have hf := iteF hf c283
        refine g_aload_n F dX4_sweep_286 rfl 0 rfl ?_
        refine g_get F h_X4_sweep_4 0 rfl rfl 18 (by decide) (by decide +kernel) rfl dX4_sweep_287 ?_
        refine g_iload F dX4_sweep_290 4 rfl ?_
        obtain ⟨h38, hf⟩ := ckE hf
        refine g_iald F 10 0 rfl rfl h38 dX4_sweep_292 ?_
        refine g_goto (tgt := 297) F dX4_sweep_293 (by decide) ?_
        obtain ⟨h39, hf⟩ := ckE hf
        refine g_iast F 3 0 rfl rfl h39 dX4_sweep_297 (ws' := wMd cI a_p a_bases_p a_tops_p a_words_p a_roots_p a_order_p a_numbers_p a_image_p a_other_p a_input_p a_fresh_p a_freshRoots_p a_heads_p a_kept_p a_thrown a_bases a_tops (upd a_words (((256 : Int32) * y1) + z5).toNatClampNeg (a_fresh z5.toNatClampNeg)) a_roots a_reached a_order a_numbers a_size a_image a_otherSize a_other a_waiting a_input a_at a_ended a_told a_many a_fresh a_freshRoots a_heads a_count a_kept) rfl ?_
        obtain ⟨v40, ev40, hf⟩ := nmE hf
        refine g_iinc (j := 4) (lv' := [(5, .int v40), (0, .ref a_p), (1, .int y1), (2, .int y2), (4, .int y4)]) F dX4_sweep_298 rfl ev40.symm (by decide) rfl ?_
        refine g_goto (tgt := 260) F dX4_sweep_301 (by decide) ?_
        refine g_lv [1, 2, 3, 4, 0] rfl ?_
        exact ih _ _ o hf E0
def f_X4_sweep (a_thrown : Int32) (a_bases : (Nat → Int32)) (a_tops : (Nat → Int32)) (a_words : (Nat → Int32)) (a_roots : (Nat → Int32)) (a_reached : Int32) (a_order : (Nat → Int32)) (a_numbers : (Nat → Int32)) (a_fresh : (Nat → Int32)) (a_heads : (Nat → Int32)) (x1 : Int32) : Option (Int32 × Int32 × (Nat → Int32) × (Nat → Int32) × (Nat → Int32) × Int32 × (Nat → Int32) × (Nat → Int32) × (Nat → Int32) × (Nat → Int32)) :=
  Option.bind (f_X4_isHeap x1) fun o1 => Option.bind (α := Int32) (if o1 = 0 then some (1 : Int32) else Option.bind (f_X4_firstFault a_bases a_tops a_words a_roots x1) fun o43 => if o43 ≤ 0 then some (0 : Int32) else some (2 : Int32)) fun j2 => if j2 ≤ 0 then Option.bind (f_X4_reach a_bases a_words a_roots a_reached a_order a_numbers x1) fun o3 => ck (inR x1 2) (nm (a_tops x1.toNatClampNeg) fun v5 => Option.bind (f_X4_sweep_L54 a_words o3.2.2 x1 v5 FU (0 : Int32) (0 : Int32) a_heads) fun o12 => Option.bind (f_X4_sweep_L109 a_bases a_words o3.2.2 o12 x1 v5 FU (0 : Int32) (0 : Int32) a_fresh) fun o30 => Option.bind (f_X4_sweep_L218 a_bases o12 x1 o30.1 v5 FU (0 : Int32) a_roots) fun o35 => Option.bind (f_X4_sweep_L260 o30.2 x1 o30.1 v5 FU (0 : Int32) a_words) fun o41 => ck (inR x1 2) (some (v5 - o30.1, j2, upd a_tops x1.toNatClampNeg o30.1, o41, o35, o3.1, o3.2.1, o3.2.2, o30.2, o12))) else some ((0 : Int32), j2, a_tops, a_words, a_roots, a_reached, a_order, a_numbers, a_fresh, a_heads)
set_option maxHeartbeats 4000000 in
set_option maxRecDepth 100000 in
theorem c_X4_sweep (l : Launch) (dC : Nat → ClassId) (dI : Nat → Nat → Nat) (cI cJ cH : ClassId) (a_p a_bases_p a_tops_p a_words_p a_roots_p a_order_p a_numbers_p a_image_p a_other_p a_input_p a_fresh_p a_freshRoots_p a_heads_p a_kept_p : Nat)  (a_thrown : Int32) (a_bases : (Nat → Int32)) (a_tops : (Nat → Int32)) (a_words : (Nat → Int32)) (a_roots : (Nat → Int32)) (a_reached : Int32) (a_order : (Nat → Int32)) (a_numbers : (Nat → Int32)) (a_size : Int32) (a_image : (Nat → Int32)) (a_otherSize : Int32) (a_other : (Nat → Int32)) (a_waiting : Int32) (a_input : (Nat → Int32)) (a_at : Int32) (a_ended : Int32) (a_told : Int32) (a_many : Int32) (a_fresh : (Nat → Int32)) (a_freshRoots : (Nat → Int32)) (a_heads : (Nat → Int32)) (a_count : Int64) (a_kept : (Nat → Int32)) (x1 : Int32) (o : (Int32 × Int32 × (Nat → Int32) × (Nat → Int32) × (Nat → Int32) × Int32 × (Nat → Int32) × (Nat → Int32) × (Nat → Int32) × (Nat → Int32))) (hf : f_X4_sweep a_thrown a_bases a_tops a_words a_roots a_reached a_order a_numbers a_fresh a_heads x1 = some o) : ∀ sz : Nat, Met l yX4_sweep wsX4_sweep rm_X4_sweep (gPre [.ref a_p, .int x1] (dC, dI) vwCl (gT cI cJ cH) (wMd cI a_p a_bases_p a_tops_p a_words_p a_roots_p a_order_p a_numbers_p a_image_p a_other_p a_input_p a_fresh_p a_freshRoots_p a_heads_p a_kept_p a_thrown a_bases a_tops a_words a_roots a_reached a_order a_numbers a_size a_image a_otherSize a_other a_waiting a_input a_at a_ended a_told a_many a_fresh a_freshRoots a_heads a_count a_kept) sz) (va_Qi (fun (r : Int32) (u : (Int32 × (Nat → Int32) × (Nat → Int32) × (Nat → Int32) × Int32 × (Nat → Int32) × (Nat → Int32) × (Nat → Int32) × (Nat → Int32))) => o.1 = r ∧ o.2 = u) (gB (dC, dI) vwCl (gT cI cJ cH) (fun (u : (Int32 × (Nat → Int32) × (Nat → Int32) × (Nat → Int32) × Int32 × (Nat → Int32) × (Nat → Int32) × (Nat → Int32) × (Nat → Int32))) => wMd cI a_p a_bases_p a_tops_p a_words_p a_roots_p a_order_p a_numbers_p a_image_p a_other_p a_input_p a_fresh_p a_freshRoots_p a_heads_p a_kept_p u.1 a_bases u.2.1 u.2.2.1 u.2.2.2.1 u.2.2.2.2.1 u.2.2.2.2.2.1 u.2.2.2.2.2.2.1 a_size a_image a_otherSize a_other a_waiting a_input a_at a_ended a_told a_many u.2.2.2.2.2.2.2.1 a_freshRoots u.2.2.2.2.2.2.2.2 a_count a_kept) (va_A (wMd cI a_p a_bases_p a_tops_p a_words_p a_roots_p a_order_p a_numbers_p a_image_p a_other_p a_input_p a_fresh_p a_freshRoots_p a_heads_p a_kept_p a_thrown a_bases a_tops a_words a_roots a_reached a_order a_numbers a_size a_image a_otherSize a_other a_waiting a_input a_at a_ended a_told a_many a_fresh a_freshRoots a_heads a_count a_kept) sz)) (va_A (wMd cI a_p a_bases_p a_tops_p a_words_p a_roots_p a_order_p a_numbers_p a_image_p a_other_p a_input_p a_fresh_p a_freshRoots_p a_heads_p a_kept_p a_thrown a_bases a_tops a_words a_roots a_reached a_order a_numbers a_size a_image a_otherSize a_other a_waiting a_input a_at a_ended a_told a_many a_fresh a_freshRoots a_heads a_count a_kept) sz)) 0 0 (va_A (wMd cI a_p a_bases_p a_tops_p a_words_p a_roots_p a_order_p a_numbers_p a_image_p a_other_p a_input_p a_fresh_p a_freshRoots_p a_heads_p a_kept_p a_thrown a_bases a_tops a_words a_roots a_reached a_order a_numbers a_size a_image a_otherSize a_other a_waiting a_input a_at a_ended a_told a_many a_fresh a_freshRoots a_heads a_count a_kept) sz) := by
  refine g_met (fun A => va_Qi (fun (r : Int32) (u : (Int32 × (Nat → Int32) × (Nat → Int32) × (Nat → Int32) × Int32 × (Nat → Int32) × (Nat → Int32) × (Nat → Int32) × (Nat → Int32))) => o.1 = r ∧ o.2 = u) (gB (dC, dI) vwCl (gT cI cJ cH) (fun (u : (Int32 × (Nat → Int32) × (Nat → Int32) × (Nat → Int32) × Int32 × (Nat → Int32) × (Nat → Int32) × (Nat → Int32) × (Nat → Int32))) => wMd cI a_p a_bases_p a_tops_p a_words_p a_roots_p a_order_p a_numbers_p a_image_p a_other_p a_input_p a_fresh_p a_freshRoots_p a_heads_p a_kept_p u.1 a_bases u.2.1 u.2.2.1 u.2.2.2.1 u.2.2.2.2.1 u.2.2.2.2.2.1 u.2.2.2.2.2.2.1 a_size a_image a_otherSize a_other a_waiting a_input a_at a_ended a_told a_many u.2.2.2.2.2.2.2.1 a_freshRoots u.2.2.2.2.2.2.2.2 a_count a_kept) A) A) (by decide) rfl (Nat.le_of_ble_eq_true rfl) ?_
  intro p e s m args below meth c A Q F hlocks hr hname hN hQ
  unfold f_X4_sweep at hf
  refine g_lvE (lv' := [(0, .ref a_p), (1, .int x1)]) rfl ?_
  refine g_aload_n F dX4_sweep_0 rfl 0 rfl ?_
  refine g_iload_n F dX4_sweep_1 rfl 1 rfl ?_
  obtain ⟨o1, ho1, hf⟩ := bnE hf
  refine g_callSi (n := 1) (As := [.int x1]) F (c_X4_isHeap l dC dI cI cJ cH x1 o1 ho1) ggX4_sweep_X4_isHeap rfl rfl rfl (by decide +kernel) (by decide +kernel) (by decide +kernel) (by decide +kernel) ⟨Nat.le_of_ble_eq_true rfl, Nat.le_of_ble_eq_true rfl⟩ ⟨Nat.le_of_ble_eq_true rfl, Nat.le_of_ble_eq_true rfl⟩ hN [] rfl rfl (fun _ => rfl) rfl (Nat.le_of_ble_eq_true rfl) rfl dX4_sweep_2 (cells' := 0) (slots' := 0) rfl rfl (fun r u hp => ?_)
  subst hp
  refine g_ws (ws' := wMd cI a_p a_bases_p a_tops_p a_words_p a_roots_p a_order_p a_numbers_p a_image_p a_other_p a_input_p a_fresh_p a_freshRoots_p a_heads_p a_kept_p a_thrown a_bases a_tops a_words a_roots a_reached a_order a_numbers a_size a_image a_otherSize a_other a_waiting a_input a_at a_ended a_told a_many a_fresh a_freshRoots a_heads a_count a_kept) rfl ?_
  obtain ⟨j2, hj2, hf⟩ := bnE hf
  have Kj2 : gW p l e rm_X4_sweep s m args below meth c 0 0 Q (dC, dI) vwCl A 9 (wMd cI a_p a_bases_p a_tops_p a_words_p a_roots_p a_order_p a_numbers_p a_image_p a_other_p a_input_p a_fresh_p a_freshRoots_p a_heads_p a_kept_p a_thrown a_bases a_tops a_words a_roots a_reached a_order a_numbers a_size a_image a_otherSize a_other a_waiting a_input a_at a_ended a_told a_many a_fresh a_freshRoots a_heads a_count a_kept) [(0, .ref a_p), (1, .int x1)] 25 [.int j2, .ref a_p] := by
    refine g_put F h_X4_sweep_4 tyX4 tyX4_ok nmX4 0 rfl rfl 0 (by decide) (by decide +kernel) rfl rfl rfl (Nat.le_of_ble_eq_true rfl) dX4_sweep_25 (ws' := wMd cI a_p a_bases_p a_tops_p a_words_p a_roots_p a_order_p a_numbers_p a_image_p a_other_p a_input_p a_fresh_p a_freshRoots_p a_heads_p a_kept_p j2 a_bases a_tops a_words a_roots a_reached a_order a_numbers a_size a_image a_otherSize a_other a_waiting a_input a_at a_ended a_told a_many a_fresh a_freshRoots a_heads a_count a_kept) rfl ?_
    refine g_aload_n F dX4_sweep_28 rfl 0 rfl ?_
    refine g_get F h_X4_sweep_4 0 rfl rfl 0 (by decide) (by decide +kernel) rfl dX4_sweep_29 ?_
    refine g_if_le (tgt := 37) F dX4_sweep_32 (by decide) (fun c32 => ?_) (fun c32 => ?_)
    · have hf := iteT hf c32
      refine g_aload_n F dX4_sweep_37 rfl 0 rfl ?_
      refine g_iload_n F dX4_sweep_38 rfl 1 rfl ?_
      obtain ⟨o3, ho3, hf⟩ := bnE hf
      refine g_callPv (n := 1) (As := [.int x1]) F (c_X4_reach l dC dI cI cJ cH a_p a_bases_p a_tops_p a_words_p a_roots_p a_order_p a_numbers_p a_image_p a_other_p a_input_p a_fresh_p a_freshRoots_p a_heads_p a_kept_p j2 a_bases a_tops a_words a_roots a_reached a_order a_numbers a_size a_image a_otherSize a_other a_waiting a_input a_at a_ended a_told a_many a_fresh a_freshRoots a_heads a_count a_kept x1 o3 ho3) ggX4_sweep_X4_reach rfl rfl rfl (by decide +kernel) (by decide +kernel) (by decide +kernel) (by decide +kernel) (by decide +kernel) ⟨Nat.le_of_ble_eq_true rfl, Nat.le_of_ble_eq_true rfl⟩ ⟨Nat.le_of_ble_eq_true rfl, Nat.le_of_ble_eq_true rfl⟩ hN 0 rfl rfl rfl ([]) ([]) rfl (fun _ => rfl) rfl (Nat.le_of_ble_eq_true rfl) rfl dX4_sweep_39 (cells' := 0) (slots' := 0) rfl rfl (fun u hp => ?_)
      subst hp
      refine g_ws (ws' := wMd cI a_p a_bases_p a_tops_p a_words_p a_roots_p a_order_p a_numbers_p a_image_p a_other_p a_input_p a_fresh_p a_freshRoots_p a_heads_p a_kept_p j2 a_bases a_tops a_words a_roots o3.1 o3.2.1 o3.2.2 a_size a_image a_otherSize a_other a_waiting a_input a_at a_ended a_told a_many a_fresh a_freshRoots a_heads a_count a_kept) rfl ?_
      refine g_iconst (v := 0) F dX4_sweep_42 rfl ?_
      refine g_istore_n (lv' := [(2, .int (0 : Int32)), (0, .ref a_p), (1, .int x1)]) F dX4_sweep_43 rfl (by decide) rfl ?_
      refine g_iconst (v := 0) F dX4_sweep_44 rfl ?_
      refine g_istore_n (lv' := [(3, .int (0 : Int32)), (2, .int (0 : Int32)), (0, .ref a_p), (1, .int x1)]) F dX4_sweep_45 rfl (by decide) rfl ?_
      refine g_aload_n F dX4_sweep_46 rfl 2 rfl ?_
      refine g_get F h_X4_sweep_4 0 rfl rfl 2 (by decide) (by decide +kernel) rfl dX4_sweep_47 ?_
      refine g_iload_n F dX4_sweep_50 rfl 3 rfl ?_
      obtain ⟨h4, hf⟩ := ckE hf
      refine g_iald F 2 0 rfl rfl h4 dX4_sweep_51 ?_
      obtain ⟨v5, ev5, hf⟩ := nmE hf
      refine g_nmi ev5 ?_
      refine g_istore (lv' := [(4, .int v5), (3, .int (0 : Int32)), (2, .int (0 : Int32)), (0, .ref a_p), (1, .int x1)]) F dX4_sweep_52 (by decide) rfl ?_
      obtain ⟨o12, ho12, hf⟩ := bnE hf
      refine g_lv [3, 4, 2, 1, 0] rfl ?_
      refine w_X4_sweep_L54 F hN FU _ _ _ o12 ho12 ?_
      refine g_iconst (v := 0) F dX4_sweep_105 rfl ?_
      refine g_istore_n (lv' := [(3, .int (0 : Int32)), (0, .ref a_p), (1, .int x1), (4, .int v5)]) F dX4_sweep_106 rfl (by decide) rfl ?_
      refine g_iconst (v := 0) F dX4_sweep_107 rfl ?_
      refine g_istore_n (lv' := [(2, .int (0 : Int32)), (3, .int (0 : Int32)), (0, .ref a_p), (1, .int x1), (4, .int v5)]) F dX4_sweep_108 rfl (by decide) rfl ?_
      obtain ⟨o30, ho30, hf⟩ := bnE hf
      refine g_lv [2, 3, 0, 1, 4] rfl ?_
      refine w_X4_sweep_L109 F hN FU _ _ _ o30 ho30 ?_
      refine g_iconst (v := 0) F dX4_sweep_215 rfl ?_
      refine g_istore (lv' := [(5, .int (0 : Int32)), (0, .ref a_p), (1, .int x1), (2, .int o30.1), (4, .int v5)]) F dX4_sweep_216 (by decide) rfl ?_
      obtain ⟨o35, ho35, hf⟩ := bnE hf
      refine g_lv [1, 2, 3, 4, 0] rfl ?_
      refine w_X4_sweep_L218 F hN FU _ _ o35 ho35 ?_
      refine g_iconst (v := 0) F dX4_sweep_257 rfl ?_
      refine g_istore (lv' := [(5, .int (0 : Int32)), (0, .ref a_p), (1, .int x1), (2, .int o30.1), (4, .int v5)]) F dX4_sweep_258 (by decide) rfl ?_
      obtain ⟨o41, ho41, hf⟩ := bnE hf
      refine g_lv [1, 2, 3, 4, 0] rfl ?_
      refine w_X4_sweep_L260 F hN FU _ _ o41 ho41 ?_
      refine g_aload_n F dX4_sweep_304 rfl 0 rfl ?_
      refine g_get F h_X4_sweep_4 0 rfl rfl 2 (by decide) (by decide +kernel) rfl dX4_sweep_305 ?_
      refine g_iload_n F dX4_sweep_308 rfl 1 rfl ?_
      refine g_iload_n F dX4_sweep_309 rfl 2 rfl ?_
      obtain ⟨h42, hf⟩ := ckE hf
      refine g_iast F 2 0 rfl rfl h42 dX4_sweep_310 (ws' := wMd cI a_p a_bases_p a_tops_p a_words_p a_roots_p a_order_p a_numbers_p a_image_p a_other_p a_input_p a_fresh_p a_freshRoots_p a_heads_p a_kept_p j2 a_bases (upd a_tops x1.toNatClampNeg o30.1) o41 o35 o3.1 o3.2.1 o3.2.2 a_size a_image a_otherSize a_other a_waiting a_input a_at a_ended a_told a_many o30.2 a_freshRoots o12 a_count a_kept) rfl ?_
      refine g_iload F dX4_sweep_311 3 rfl ?_
      refine g_iload_n F dX4_sweep_313 rfl 2 rfl ?_
      refine g_isub F dX4_sweep_314 ?_
      subst hQ
      exact g_iret F hlocks hr (j2, upd a_tops x1.toNatClampNeg o30.1, o41, o35, o3.1, o3.2.1, o3.2.2, o30.2, o12) rfl (pr2 (Option.some.inj hf)) dX4_sweep_315
    · have hf := iteF hf c32
      refine g_iconst (v := 0) F dX4_sweep_35 rfl ?_
      subst hQ
      exact g_iret F hlocks hr (j2, a_tops, a_words, a_roots, a_reached, a_order, a_numbers, a_fresh, a_heads) rfl (pr2 (Option.some.inj hf)) dX4_sweep_36
  clear hf
  have hf := hj2
  refine g_if_ne (tgt := 12) F dX4_sweep_5 (by decide) (fun c5 => ?_) (fun c5 => ?_)
  · have hf := iteF hf c5
    refine g_aload_n F dX4_sweep_12 rfl 0 rfl ?_
    refine g_iload_n F dX4_sweep_13 rfl 1 rfl ?_
    obtain ⟨o43, ho43, hf⟩ := bnE hf
    refine g_callPi (n := 1) (As := [.int x1]) F (c_X4_firstFault l dC dI cI cJ cH a_p a_bases_p a_tops_p a_words_p a_roots_p a_order_p a_numbers_p a_image_p a_other_p a_input_p a_fresh_p a_freshRoots_p a_heads_p a_kept_p a_thrown a_bases a_tops a_words a_roots a_reached a_order a_numbers a_size a_image a_otherSize a_other a_waiting a_input a_at a_ended a_told a_many a_fresh a_freshRoots a_heads a_count a_kept x1 o43 ho43) ggX4_sweep_X4_firstFault rfl rfl rfl (by decide +kernel) (by decide +kernel) (by decide +kernel) (by decide +kernel) (by decide +kernel) ⟨Nat.le_of_ble_eq_true rfl, Nat.le_of_ble_eq_true rfl⟩ ⟨Nat.le_of_ble_eq_true rfl, Nat.le_of_ble_eq_true rfl⟩ hN 0 rfl rfl rfl ([]) ([]) rfl (fun _ => rfl) rfl (Nat.le_of_ble_eq_true rfl) rfl dX4_sweep_14 (cells' := 0) (slots' := 0) rfl rfl (fun r u hp => ?_)
    subst hp
    refine g_ws (ws' := wMd cI a_p a_bases_p a_tops_p a_words_p a_roots_p a_order_p a_numbers_p a_image_p a_other_p a_input_p a_fresh_p a_freshRoots_p a_heads_p a_kept_p a_thrown a_bases a_tops a_words a_roots a_reached a_order a_numbers a_size a_image a_otherSize a_other a_waiting a_input a_at a_ended a_told a_many a_fresh a_freshRoots a_heads a_count a_kept) rfl ?_
    refine g_if_le (tgt := 24) F dX4_sweep_17 (by decide) (fun c17 => ?_) (fun c17 => ?_)
    · have hf := iteT hf c17
      refine g_iconst (v := 0) F dX4_sweep_24 rfl ?_
      cases hf
      refine g_lv [0, 1] rfl ?_
      exact Kj2
    · have hf := iteF hf c17
      refine g_iconst (v := 2) F dX4_sweep_20 rfl ?_
      refine g_goto (tgt := 25) F dX4_sweep_21 (by decide) ?_
      cases hf
      refine g_lv [0, 1] rfl ?_
      exact Kj2
  · have hf := iteT hf c5
    refine g_iconst (v := 1) F dX4_sweep_8 rfl ?_
    refine g_goto (tgt := 25) F dX4_sweep_9 (by decide) ?_
    cases hf
    refine g_lv [0, 1] rfl ?_
    exact Kj2

/-! HeapImagesModel.put(I)V -/
def rm_X4_put : Room := { frames := 0, cells := 0, slots := 0, locals := 0 }
theorem h_X4_put_4 : ∀ w ∈ wsX40, w ∈ wsX4_put := by decide +kernel
def f_X4_put (a_size : Int32) (a_image : (Nat → Int32)) (x1 : Int32) : Option (Int32 × (Nat → Int32)) :=
  ck (inR a_size 3000) (some (a_size + (1 : Int32), upd a_image a_size.toNatClampNeg x1))
set_option maxHeartbeats 4000000 in
set_option maxRecDepth 100000 in
theorem c_X4_put (l : Launch) (dC : Nat → ClassId) (dI : Nat → Nat → Nat) (cI cJ cH : ClassId) (a_p a_bases_p a_tops_p a_words_p a_roots_p a_order_p a_numbers_p a_image_p a_other_p a_input_p a_fresh_p a_freshRoots_p a_heads_p a_kept_p : Nat)  (a_thrown : Int32) (a_bases : (Nat → Int32)) (a_tops : (Nat → Int32)) (a_words : (Nat → Int32)) (a_roots : (Nat → Int32)) (a_reached : Int32) (a_order : (Nat → Int32)) (a_numbers : (Nat → Int32)) (a_size : Int32) (a_image : (Nat → Int32)) (a_otherSize : Int32) (a_other : (Nat → Int32)) (a_waiting : Int32) (a_input : (Nat → Int32)) (a_at : Int32) (a_ended : Int32) (a_told : Int32) (a_many : Int32) (a_fresh : (Nat → Int32)) (a_freshRoots : (Nat → Int32)) (a_heads : (Nat → Int32)) (a_count : Int64) (a_kept : (Nat → Int32)) (x1 : Int32) (o : (Int32 × (Nat → Int32))) (hf : f_X4_put a_size a_image x1 = some o) : ∀ sz : Nat, Met l yX4_put wsX4_put rm_X4_put (gPre [.ref a_p, .int x1] (dC, dI) vwCl (gT cI cJ cH) (wMd cI a_p a_bases_p a_tops_p a_words_p a_roots_p a_order_p a_numbers_p a_image_p a_other_p a_input_p a_fresh_p a_freshRoots_p a_heads_p a_kept_p a_thrown a_bases a_tops a_words a_roots a_reached a_order a_numbers a_size a_image a_otherSize a_other a_waiting a_input a_at a_ended a_told a_many a_fresh a_freshRoots a_heads a_count a_kept) sz) (va_Qv (fun (u : (Int32 × (Nat → Int32))) => o = u) (gB (dC, dI) vwCl (gT cI cJ cH) (fun (u : (Int32 × (Nat → Int32))) => wMd cI a_p a_bases_p a_tops_p a_words_p a_roots_p a_order_p a_numbers_p a_image_p a_other_p a_input_p a_fresh_p a_freshRoots_p a_heads_p a_kept_p a_thrown a_bases a_tops a_words a_roots a_reached a_order a_numbers u.1 u.2 a_otherSize a_other a_waiting a_input a_at a_ended a_told a_many a_fresh a_freshRoots a_heads a_count a_kept) (va_A (wMd cI a_p a_bases_p a_tops_p a_words_p a_roots_p a_order_p a_numbers_p a_image_p a_other_p a_input_p a_fresh_p a_freshRoots_p a_heads_p a_kept_p a_thrown a_bases a_tops a_words a_roots a_reached a_order a_numbers a_size a_image a_otherSize a_other a_waiting a_input a_at a_ended a_told a_many a_fresh a_freshRoots a_heads a_count a_kept) sz)) (va_A (wMd cI a_p a_bases_p a_tops_p a_words_p a_roots_p a_order_p a_numbers_p a_image_p a_other_p a_input_p a_fresh_p a_freshRoots_p a_heads_p a_kept_p a_thrown a_bases a_tops a_words a_roots a_reached a_order a_numbers a_size a_image a_otherSize a_other a_waiting a_input a_at a_ended a_told a_many a_fresh a_freshRoots a_heads a_count a_kept) sz)) 0 0 (va_A (wMd cI a_p a_bases_p a_tops_p a_words_p a_roots_p a_order_p a_numbers_p a_image_p a_other_p a_input_p a_fresh_p a_freshRoots_p a_heads_p a_kept_p a_thrown a_bases a_tops a_words a_roots a_reached a_order a_numbers a_size a_image a_otherSize a_other a_waiting a_input a_at a_ended a_told a_many a_fresh a_freshRoots a_heads a_count a_kept) sz) := by
  refine g_met (fun A => va_Qv (fun (u : (Int32 × (Nat → Int32))) => o = u) (gB (dC, dI) vwCl (gT cI cJ cH) (fun (u : (Int32 × (Nat → Int32))) => wMd cI a_p a_bases_p a_tops_p a_words_p a_roots_p a_order_p a_numbers_p a_image_p a_other_p a_input_p a_fresh_p a_freshRoots_p a_heads_p a_kept_p a_thrown a_bases a_tops a_words a_roots a_reached a_order a_numbers u.1 u.2 a_otherSize a_other a_waiting a_input a_at a_ended a_told a_many a_fresh a_freshRoots a_heads a_count a_kept) A) A) (by decide) rfl (Nat.le_of_ble_eq_true rfl) ?_
  intro p e s m args below meth c A Q F hlocks hr hname hN hQ
  unfold f_X4_put at hf
  refine g_lvE (lv' := [(0, .ref a_p), (1, .int x1)]) rfl ?_
  refine g_aload_n F dX4_put_0 rfl 0 rfl ?_
  refine g_get F h_X4_put_4 0 rfl rfl 9 (by decide) (by decide +kernel) rfl dX4_put_1 ?_
  refine g_aload_n F dX4_put_4 rfl 0 rfl ?_
  refine g_get F h_X4_put_4 0 rfl rfl 8 (by decide) (by decide +kernel) rfl dX4_put_5 ?_
  refine g_iload_n F dX4_put_8 rfl 1 rfl ?_
  obtain ⟨h1, hf⟩ := ckE hf
  refine g_iast F 7 0 rfl rfl h1 dX4_put_9 (ws' := wMd cI a_p a_bases_p a_tops_p a_words_p a_roots_p a_order_p a_numbers_p a_image_p a_other_p a_input_p a_fresh_p a_freshRoots_p a_heads_p a_kept_p a_thrown a_bases a_tops a_words a_roots a_reached a_order a_numbers a_size (upd a_image a_size.toNatClampNeg x1) a_otherSize a_other a_waiting a_input a_at a_ended a_told a_many a_fresh a_freshRoots a_heads a_count a_kept) rfl ?_
  refine g_aload_n F dX4_put_10 rfl 0 rfl ?_
  refine g_dup F dX4_put_11 rfl ?_
  refine g_get F h_X4_put_4 0 rfl rfl 8 (by decide) (by decide +kernel) rfl dX4_put_12 ?_
  refine g_iconst (v := 1) F dX4_put_15 rfl ?_
  refine g_iadd F dX4_put_16 ?_
  refine g_put F h_X4_put_4 tyX4 tyX4_ok nmX4 0 rfl rfl 8 (by decide) (by decide +kernel) rfl rfl rfl (Nat.le_of_ble_eq_true rfl) dX4_put_17 (ws' := wMd cI a_p a_bases_p a_tops_p a_words_p a_roots_p a_order_p a_numbers_p a_image_p a_other_p a_input_p a_fresh_p a_freshRoots_p a_heads_p a_kept_p a_thrown a_bases a_tops a_words a_roots a_reached a_order a_numbers (a_size + (1 : Int32)) (upd a_image a_size.toNatClampNeg x1) a_otherSize a_other a_waiting a_input a_at a_ended a_told a_many a_fresh a_freshRoots a_heads a_count a_kept) rfl ?_
  subst hQ
  exact g_vret F hlocks hr (a_size + (1 : Int32), upd a_image a_size.toNatClampNeg x1) rfl (Option.some.inj hf).symm dX4_put_20

/-! HeapImagesModel.putCount(J)V -/
def rm_X4_putCount : Room := { frames := 1, cells := 0, slots := 0, locals := 21 }
def f_X4_putCount_L2_s  (rc : Int64 → Int32 → (Nat → Int32) → Option (Int64 × Int32 × (Nat → Int32))) (z3 : Int64) (a_size : Int32) (a_image : (Nat → Int32)) : Option (Int64 × Int32 × (Nat → Int32)) :=
  if (lg_cmp z3 (127 : Int64)) ≤ 0 then some (z3, a_size, a_image) else Option.bind (f_X4_put a_size a_image (((z3 - z3 / (128 : Int64) * (128 : Int64)).toInt32) + (128 : Int32))) fun o1 => nm (z3 / (128 : Int64)) fun v2 => rc v2 o1.1 o1.2
def f_X4_putCount_L2  : Nat → Int64 → Int32 → (Nat → Int32) → Option (Int64 × Int32 × (Nat → Int32))
  | 0, _, _, _ => none
  | n + 1, z3, a_size, a_image => f_X4_putCount_L2_s  (f_X4_putCount_L2  n) z3 a_size a_image
set_option maxHeartbeats 4000000 in
theorem w_X4_putCount_L2 {p : Program} {l : Launch} {e : Env} {s : State} {m : MethodId} {args : Array Value} {below : List Frame} {meth : Method} {c : Code} {A : Nat → Prop} {Q : State → Prop} {dC : Nat → ClassId} {dI : Nat → Nat → Nat} {cI cJ cH : ClassId} {a_p a_bases_p a_tops_p a_words_p a_roots_p a_order_p a_numbers_p a_image_p a_other_p a_input_p a_fresh_p a_freshRoots_p a_heads_p a_kept_p : Nat} {a_thrown : Int32} {a_bases : (Nat → Int32)} {a_tops : (Nat → Int32)} {a_words : (Nat → Int32)} {a_roots : (Nat → Int32)} {a_reached : Int32} {a_order : (Nat → Int32)} {a_numbers : (Nat → Int32)} {a_otherSize : Int32} {a_other : (Nat → Int32)} {a_waiting : Int32} {a_input : (Nat → Int32)} {a_at : Int32} {a_ended : Int32} {a_told : Int32} {a_many : Int32} {a_fresh : (Nat → Int32)} {a_freshRoots : (Nat → Int32)} {a_heads : (Nat → Int32)} {a_count : Int64} {a_kept : (Nat → Int32)}  (F : gF p m c cX4_putCount 5 s args wsX4_putCount yX4_putCount.cls (dC, dI) vwCl (gT cI cJ cH) A) (hN : ∀ w ∈ gN, va_Nw w s) : ∀ (n : Nat) (z3 : Int64) (a_size : Int32) (a_image : (Nat → Int32)) (o : (Int64 × Int32 × (Nat → Int32))), f_X4_putCount_L2  n z3 a_size a_image = some o → (gW p l e rm_X4_putCount s m args below meth c 0 0 Q (dC, dI) vwCl A 5 (wMd cI a_p a_bases_p a_tops_p a_words_p a_roots_p a_order_p a_numbers_p a_image_p a_other_p a_input_p a_fresh_p a_freshRoots_p a_heads_p a_kept_p a_thrown a_bases a_tops a_words a_roots a_reached a_order a_numbers o.2.1 o.2.2 a_otherSize a_other a_waiting a_input a_at a_ended a_told a_many a_fresh a_freshRoots a_heads a_count a_kept) [(0, .ref a_p), (3, .long o.1)] 33 []) → gW p l e rm_X4_putCount s m args below meth c 0 0 Q (dC, dI) vwCl A 5 (wMd cI a_p a_bases_p a_tops_p a_words_p a_roots_p a_order_p a_numbers_p a_image_p a_other_p a_input_p a_fresh_p a_freshRoots_p a_heads_p a_kept_p a_thrown a_bases a_tops a_words a_roots a_reached a_order a_numbers a_size a_image a_otherSize a_other a_waiting a_input a_at a_ended a_told a_many a_fresh a_freshRoots a_heads a_count a_kept) [(0, .ref a_p), (3, .long z3)] 2 [] := by
  intro n
  induction n with
  | zero =>
    intro z3 a_size a_image o hf E0
    change none = some o at hf
    cases hf
  | succ n ih =>
    intro z3 a_size a_image o hf E0
    change f_X4_putCount_L2_s  (f_X4_putCount_L2  n) z3 a_size a_image = some o at hf
    unfold f_X4_putCount_L2_s at hf
    refine g_lload_n F dX4_putCount_2 rfl 1 rfl ?_
    refine g_ldc2 (v := 127) F (by decide +kernel) dX4_putCount_3 ?_
    refine g_lcmp F dX4_putCount_6 ?_
    refine g_if_le (tgt := 33) F dX4_putCount_7 (by decide) (fun c7 => ?_) (fun c7 => ?_)
    · have hf := iteT hf c7
      cases hf
      refine g_lv [0, 1] rfl ?_
      exact E0
    · have hf := iteF hf c7
      refine g_aload_n F dX4_putCount_10 rfl 0 rfl ?_
      refine g_lload_n F dX4_putCount_11 rfl 1 rfl ?_
      refine g_ldc2 (v := 128) F (by decide +kernel) dX4_putCount_12 ?_
      refine g_lrem F dX4_putCount_15 (by decide) ?_
      refine g_l2i F dX4_putCount_16 ?_
      refine g_sipush (v := 128) F dX4_putCount_17 rfl ?_
      refine g_iadd F dX4_putCount_20 ?_
      obtain ⟨o1, ho1, hf⟩ := bnE hf
      refine g_callPv (n := 1) (As := [.int (((z3 - z3 / (128 : Int64) * (128 : Int64)).toInt32) + (128 : Int32))]) F (c_X4_put l dC dI cI cJ cH a_p a_bases_p a_tops_p a_words_p a_roots_p a_order_p a_numbers_p a_image_p a_other_p a_input_p a_fresh_p a_freshRoots_p a_heads_p a_kept_p a_thrown a_bases a_tops a_words a_roots a_reached a_order a_numbers a_size a_image a_otherSize a_other a_waiting a_input a_at a_ended a_told a_many a_fresh a_freshRoots a_heads a_count a_kept (((z3 - z3 / (128 : Int64) * (128 : Int64)).toInt32) + (128 : Int32)) o1 ho1) ggX4_putCount_X4_put rfl rfl rfl (by decide +kernel) (by decide +kernel) (by decide +kernel) (by decide +kernel) (by decide +kernel) ⟨Nat.le_of_ble_eq_true rfl, Nat.le_of_ble_eq_true rfl⟩ ⟨Nat.le_of_ble_eq_true rfl, Nat.le_of_ble_eq_true rfl⟩ hN 0 rfl rfl rfl ([]) ([]) rfl (fun _ => rfl) rfl (Nat.le_of_ble_eq_true rfl) rfl dX4_putCount_21 (cells' := 0) (slots' := 0) rfl rfl (fun u hp => ?_)
      subst hp
      refine g_ws (ws' := wMd cI a_p a_bases_p a_tops_p a_words_p a_roots_p a_order_p a_numbers_p a_image_p a_other_p a_input_p a_fresh_p a_freshRoots_p a_heads_p a_kept_p a_thrown a_bases a_tops a_words a_roots a_reached a_order a_numbers o1.1 o1.2 a_otherSize a_other a_waiting a_input a_at a_ended a_told a_many a_fresh a_freshRoots a_heads a_count a_kept) rfl ?_
      refine g_lload_n F dX4_putCount_24 rfl 1 rfl ?_
      refine g_ldc2 (v := 128) F (by decide +kernel) dX4_putCount_25 ?_
      refine g_ldiv F dX4_putCount_28 (by decide) ?_
      obtain ⟨v2, ev2, hf⟩ := nmE hf
      refine g_nml ev2 ?_
      refine g_lstore_n (lv' := [(3, .long v2), (0, .ref a_p)]) F dX4_putCount_29 rfl (by decide) rfl ?_
      refine g_goto (tgt := 2) F dX4_putCount_30 (by decide) ?_
      refine g_lv [1, 0] rfl ?_
      exact ih _ _ _ o hf E0
def f_X4_putCount (a_size : Int32) (a_image : (Nat → Int32)) (x1 : Int64) : Option (Int32 × (Nat → Int32)) :=
  Option.bind (f_X4_putCount_L2  FU x1 a_size a_image) fun o3 => Option.bind (f_X4_put o3.2.1 o3.2.2 o3.1.toInt32) fun o4 => some (o4.1, o4.2)
set_option maxHeartbeats 4000000 in
set_option maxRecDepth 100000 in
theorem c_X4_putCount (l : Launch) (dC : Nat → ClassId) (dI : Nat → Nat → Nat) (cI cJ cH : ClassId) (a_p a_bases_p a_tops_p a_words_p a_roots_p a_order_p a_numbers_p a_image_p a_other_p a_input_p a_fresh_p a_freshRoots_p a_heads_p a_kept_p : Nat)  (a_thrown : Int32) (a_bases : (Nat → Int32)) (a_tops : (Nat → Int32)) (a_words : (Nat → Int32)) (a_roots : (Nat → Int32)) (a_reached : Int32) (a_order : (Nat → Int32)) (a_numbers : (Nat → Int32)) (a_size : Int32) (a_image : (Nat → Int32)) (a_otherSize : Int32) (a_other : (Nat → Int32)) (a_waiting : Int32) (a_input : (Nat → Int32)) (a_at : Int32) (a_ended : Int32) (a_told : Int32) (a_many : Int32) (a_fresh : (Nat → Int32)) (a_freshRoots : (Nat → Int32)) (a_heads : (Nat → Int32)) (a_count : Int64) (a_kept : (Nat → Int32)) (x1 : Int64) (o : (Int32 × (Nat → Int32))) (hf : f_X4_putCount a_size a_image x1 = some o) : ∀ sz : Nat, Met l yX4_putCount wsX4_putCount rm_X4_putCount (gPre [.ref a_p, .long x1] (dC, dI) vwCl (gT cI cJ cH) (wMd cI a_p a_bases_p a_tops_p a_words_p a_roots_p a_order_p a_numbers_p a_image_p a_other_p a_input_p a_fresh_p a_freshRoots_p a_heads_p a_kept_p a_thrown a_bases a_tops a_words a_roots a_reached a_order a_numbers a_size a_image a_otherSize a_other a_waiting a_input a_at a_ended a_told a_many a_fresh a_freshRoots a_heads a_count a_kept) sz) (va_Qv (fun (u : (Int32 × (Nat → Int32))) => o = u) (gB (dC, dI) vwCl (gT cI cJ cH) (fun (u : (Int32 × (Nat → Int32))) => wMd cI a_p a_bases_p a_tops_p a_words_p a_roots_p a_order_p a_numbers_p a_image_p a_other_p a_input_p a_fresh_p a_freshRoots_p a_heads_p a_kept_p a_thrown a_bases a_tops a_words a_roots a_reached a_order a_numbers u.1 u.2 a_otherSize a_other a_waiting a_input a_at a_ended a_told a_many a_fresh a_freshRoots a_heads a_count a_kept) (va_A (wMd cI a_p a_bases_p a_tops_p a_words_p a_roots_p a_order_p a_numbers_p a_image_p a_other_p a_input_p a_fresh_p a_freshRoots_p a_heads_p a_kept_p a_thrown a_bases a_tops a_words a_roots a_reached a_order a_numbers a_size a_image a_otherSize a_other a_waiting a_input a_at a_ended a_told a_many a_fresh a_freshRoots a_heads a_count a_kept) sz)) (va_A (wMd cI a_p a_bases_p a_tops_p a_words_p a_roots_p a_order_p a_numbers_p a_image_p a_other_p a_input_p a_fresh_p a_freshRoots_p a_heads_p a_kept_p a_thrown a_bases a_tops a_words a_roots a_reached a_order a_numbers a_size a_image a_otherSize a_other a_waiting a_input a_at a_ended a_told a_many a_fresh a_freshRoots a_heads a_count a_kept) sz)) 0 0 (va_A (wMd cI a_p a_bases_p a_tops_p a_words_p a_roots_p a_order_p a_numbers_p a_image_p a_other_p a_input_p a_fresh_p a_freshRoots_p a_heads_p a_kept_p a_thrown a_bases a_tops a_words a_roots a_reached a_order a_numbers a_size a_image a_otherSize a_other a_waiting a_input a_at a_ended a_told a_many a_fresh a_freshRoots a_heads a_count a_kept) sz) := by
  refine g_met (fun A => va_Qv (fun (u : (Int32 × (Nat → Int32))) => o = u) (gB (dC, dI) vwCl (gT cI cJ cH) (fun (u : (Int32 × (Nat → Int32))) => wMd cI a_p a_bases_p a_tops_p a_words_p a_roots_p a_order_p a_numbers_p a_image_p a_other_p a_input_p a_fresh_p a_freshRoots_p a_heads_p a_kept_p a_thrown a_bases a_tops a_words a_roots a_reached a_order a_numbers u.1 u.2 a_otherSize a_other a_waiting a_input a_at a_ended a_told a_many a_fresh a_freshRoots a_heads a_count a_kept) A) A) (by decide) rfl (Nat.le_of_ble_eq_true rfl) ?_
  intro p e s m args below meth c A Q F hlocks hr hname hN hQ
  unfold f_X4_putCount at hf
  refine g_lvE (lv' := [(0, .ref a_p), (1, .long x1)]) rfl ?_
  refine g_lload_n F dX4_putCount_0 rfl 1 rfl ?_
  refine g_lstore_n (lv' := [(3, .long x1), (0, .ref a_p), (1, .long x1)]) F dX4_putCount_1 rfl (by decide) rfl ?_
  obtain ⟨o3, ho3, hf⟩ := bnE hf
  refine g_lv [1, 0] rfl ?_
  refine w_X4_putCount_L2 F hN FU _ _ _ o3 ho3 ?_
  refine g_aload_n F dX4_putCount_33 rfl 0 rfl ?_
  refine g_lload_n F dX4_putCount_34 rfl 1 rfl ?_
  refine g_l2i F dX4_putCount_35 ?_
  obtain ⟨o4, ho4, hf⟩ := bnE hf
  refine g_callPv (n := 1) (As := [.int o3.1.toInt32]) F (c_X4_put l dC dI cI cJ cH a_p a_bases_p a_tops_p a_words_p a_roots_p a_order_p a_numbers_p a_image_p a_other_p a_input_p a_fresh_p a_freshRoots_p a_heads_p a_kept_p a_thrown a_bases a_tops a_words a_roots a_reached a_order a_numbers o3.2.1 o3.2.2 a_otherSize a_other a_waiting a_input a_at a_ended a_told a_many a_fresh a_freshRoots a_heads a_count a_kept o3.1.toInt32 o4 ho4) ggX4_putCount_X4_put rfl rfl rfl (by decide +kernel) (by decide +kernel) (by decide +kernel) (by decide +kernel) (by decide +kernel) ⟨Nat.le_of_ble_eq_true rfl, Nat.le_of_ble_eq_true rfl⟩ ⟨Nat.le_of_ble_eq_true rfl, Nat.le_of_ble_eq_true rfl⟩ hN 0 rfl rfl rfl ([]) ([]) rfl (fun _ => rfl) rfl (Nat.le_of_ble_eq_true rfl) rfl dX4_putCount_36 (cells' := 0) (slots' := 0) rfl rfl (fun u hp => ?_)
  subst hp
  refine g_ws (ws' := wMd cI a_p a_bases_p a_tops_p a_words_p a_roots_p a_order_p a_numbers_p a_image_p a_other_p a_input_p a_fresh_p a_freshRoots_p a_heads_p a_kept_p a_thrown a_bases a_tops a_words a_roots a_reached a_order a_numbers o4.1 o4.2 a_otherSize a_other a_waiting a_input a_at a_ended a_told a_many a_fresh a_freshRoots a_heads a_count a_kept) rfl ?_
  subst hQ
  exact g_vret F hlocks hr (o4.1, o4.2) rfl (Option.some.inj hf).symm dX4_putCount_39

/-! HeapImagesModel.putValue(II)V -/
def rm_X4_putValue : Room := { frames := 2, cells := 0, slots := 0, locals := 45 }
theorem h_X4_putValue_4 : ∀ w ∈ wsX40, w ∈ wsX4_putValue := by decide +kernel
def f_X4_putValue (a_bases : (Nat → Int32)) (a_numbers : (Nat → Int32)) (a_size : Int32) (a_image : (Nat → Int32)) (x1 : Int32) (x2 : Int32) : Option (Int32 × (Nat → Int32)) :=
  Option.bind (f_X4_isNumber x2) fun o1 => if o1 = 0 then if x2 = 0 then Option.bind (f_X4_putCount a_size a_image (0 : Int64)) fun o5 => some (o5.1, o5.2) else ck (inR x1 2) (ck (inR ((x2 - (a_bases x1.toNatClampNeg)) / (4 : Int32)) 256) (Option.bind (f_X4_putCount a_size a_image (((2 : Int64) * ((a_numbers ((x2 - (a_bases x1.toNatClampNeg)) / (4 : Int32)).toNatClampNeg).toInt64)) + (2 : Int64))) fun o4 => some (o4.1, o4.2))) else nm ((x2 >>> ((1 : Int32) &&& 31)).toInt64) fun v6 => if (lg_cmp v6 (0 : Int64)) < 0 then Option.bind (f_X4_putCount a_size a_image (((4 : Int64) * ((-1 : Int64) - v6)) + (3 : Int64))) fun o7 => some (o7.1, o7.2) else Option.bind (f_X4_putCount a_size a_image (((4 : Int64) * v6) + (1 : Int64))) fun o8 => some (o8.1, o8.2)
set_option maxHeartbeats 4000000 in
set_option maxRecDepth 100000 in
theorem c_X4_putValue (l : Launch) (dC : Nat → ClassId) (dI : Nat → Nat → Nat) (cI cJ cH : ClassId) (a_p a_bases_p a_tops_p a_words_p a_roots_p a_order_p a_numbers_p a_image_p a_other_p a_input_p a_fresh_p a_freshRoots_p a_heads_p a_kept_p : Nat)  (a_thrown : Int32) (a_bases : (Nat → Int32)) (a_tops : (Nat → Int32)) (a_words : (Nat → Int32)) (a_roots : (Nat → Int32)) (a_reached : Int32) (a_order : (Nat → Int32)) (a_numbers : (Nat → Int32)) (a_size : Int32) (a_image : (Nat → Int32)) (a_otherSize : Int32) (a_other : (Nat → Int32)) (a_waiting : Int32) (a_input : (Nat → Int32)) (a_at : Int32) (a_ended : Int32) (a_told : Int32) (a_many : Int32) (a_fresh : (Nat → Int32)) (a_freshRoots : (Nat → Int32)) (a_heads : (Nat → Int32)) (a_count : Int64) (a_kept : (Nat → Int32)) (x1 : Int32) (x2 : Int32) (o : (Int32 × (Nat → Int32))) (hf : f_X4_putValue a_bases a_numbers a_size a_image x1 x2 = some o) : ∀ sz : Nat, Met l yX4_putValue wsX4_putValue rm_X4_putValue (gPre [.ref a_p, .int x1, .int x2] (dC, dI) vwCl (gT cI cJ cH) (wMd cI a_p a_bases_p a_tops_p a_words_p a_roots_p a_order_p a_numbers_p a_image_p a_other_p a_input_p a_fresh_p a_freshRoots_p a_heads_p a_kept_p a_thrown a_bases a_tops a_words a_roots a_reached a_order a_numbers a_size a_image a_otherSize a_other a_waiting a_input a_at a_ended a_told a_many a_fresh a_freshRoots a_heads a_count a_kept) sz) (va_Qv (fun (u : (Int32 × (Nat → Int32))) => o = u) (gB (dC, dI) vwCl (gT cI cJ cH) (fun (u : (Int32 × (Nat → Int32))) => wMd cI a_p a_bases_p a_tops_p a_words_p a_roots_p a_order_p a_numbers_p a_image_p a_other_p a_input_p a_fresh_p a_freshRoots_p a_heads_p a_kept_p a_thrown a_bases a_tops a_words a_roots a_reached a_order a_numbers u.1 u.2 a_otherSize a_other a_waiting a_input a_at a_ended a_told a_many a_fresh a_freshRoots a_heads a_count a_kept) (va_A (wMd cI a_p a_bases_p a_tops_p a_words_p a_roots_p a_order_p a_numbers_p a_image_p a_other_p a_input_p a_fresh_p a_freshRoots_p a_heads_p a_kept_p a_thrown a_bases a_tops a_words a_roots a_reached a_order a_numbers a_size a_image a_otherSize a_other a_waiting a_input a_at a_ended a_told a_many a_fresh a_freshRoots a_heads a_count a_kept) sz)) (va_A (wMd cI a_p a_bases_p a_tops_p a_words_p a_roots_p a_order_p a_numbers_p a_image_p a_other_p a_input_p a_fresh_p a_freshRoots_p a_heads_p a_kept_p a_thrown a_bases a_tops a_words a_roots a_reached a_order a_numbers a_size a_image a_otherSize a_other a_waiting a_input a_at a_ended a_told a_many a_fresh a_freshRoots a_heads a_count a_kept) sz)) 0 0 (va_A (wMd cI a_p a_bases_p a_tops_p a_words_p a_roots_p a_order_p a_numbers_p a_image_p a_other_p a_input_p a_fresh_p a_freshRoots_p a_heads_p a_kept_p a_thrown a_bases a_tops a_words a_roots a_reached a_order a_numbers a_size a_image a_otherSize a_other a_waiting a_input a_at a_ended a_told a_many a_fresh a_freshRoots a_heads a_count a_kept) sz) := by
  refine g_met (fun A => va_Qv (fun (u : (Int32 × (Nat → Int32))) => o = u) (gB (dC, dI) vwCl (gT cI cJ cH) (fun (u : (Int32 × (Nat → Int32))) => wMd cI a_p a_bases_p a_tops_p a_words_p a_roots_p a_order_p a_numbers_p a_image_p a_other_p a_input_p a_fresh_p a_freshRoots_p a_heads_p a_kept_p a_thrown a_bases a_tops a_words a_roots a_reached a_order a_numbers u.1 u.2 a_otherSize a_other a_waiting a_input a_at a_ended a_told a_many a_fresh a_freshRoots a_heads a_count a_kept) A) A) (by decide) rfl (Nat.le_of_ble_eq_true rfl) ?_
  intro p e s m args below meth c A Q F hlocks hr hname hN hQ
  unfold f_X4_putValue at hf
  refine g_lvE (lv' := [(0, .ref a_p), (1, .int x1), (2, .int x2)]) rfl ?_
  refine g_iload_n F dX4_putValue_0 rfl 2 rfl ?_
  obtain ⟨o1, ho1, hf⟩ := bnE hf
  refine g_callSi (n := 1) (As := [.int x2]) F (c_X4_isNumber l dC dI cI cJ cH x2 o1 ho1) ggX4_putValue_X4_isNumber rfl rfl rfl (by decide +kernel) (by decide +kernel) (by decide +kernel) (by decide +kernel) ⟨Nat.le_of_ble_eq_true rfl, Nat.le_of_ble_eq_true rfl⟩ ⟨Nat.le_of_ble_eq_true rfl, Nat.le_of_ble_eq_true rfl⟩ hN [] rfl rfl (fun _ => rfl) rfl (Nat.le_of_ble_eq_true rfl) rfl dX4_putValue_1 (cells' := 0) (slots' := 0) rfl rfl (fun r u hp => ?_)
  subst hp
  refine g_ws (ws' := wMd cI a_p a_bases_p a_tops_p a_words_p a_roots_p a_order_p a_numbers_p a_image_p a_other_p a_input_p a_fresh_p a_freshRoots_p a_heads_p a_kept_p a_thrown a_bases a_tops a_words a_roots a_reached a_order a_numbers a_size a_image a_otherSize a_other a_waiting a_input a_at a_ended a_told a_many a_fresh a_freshRoots a_heads a_count a_kept) rfl ?_
  refine g_if_eq (tgt := 48) F dX4_putValue_4 (by decide) (fun c4 => ?_) (fun c4 => ?_)
  · have hf := iteT hf c4
    refine g_aload_n F dX4_putValue_48 rfl 0 rfl ?_
    refine g_iload_n F dX4_putValue_49 rfl 2 rfl ?_
    refine g_if_ne (tgt := 57) F dX4_putValue_50 (by decide) (fun c50 => ?_) (fun c50 => ?_)
    · have hf := iteF hf c50
      refine g_ldc2 (v := 2) F (by decide +kernel) dX4_putValue_57 ?_
      refine g_aload_n F dX4_putValue_60 rfl 0 rfl ?_
      refine g_get F h_X4_putValue_4 0 rfl rfl 7 (by decide) (by decide +kernel) rfl dX4_putValue_61 ?_
      refine g_iload_n F dX4_putValue_64 rfl 2 rfl ?_
      refine g_aload_n F dX4_putValue_65 rfl 0 rfl ?_
      refine g_get F h_X4_putValue_4 0 rfl rfl 1 (by decide) (by decide +kernel) rfl dX4_putValue_66 ?_
      refine g_iload_n F dX4_putValue_69 rfl 1 rfl ?_
      obtain ⟨h2, hf⟩ := ckE hf
      refine g_iald F 1 0 rfl rfl h2 dX4_putValue_70 ?_
      refine g_isub F dX4_putValue_71 ?_
      refine g_iconst (v := 4) F dX4_putValue_72 rfl ?_
      refine g_idiv F dX4_putValue_73 (by decide) ?_
      obtain ⟨h3, hf⟩ := ckE hf
      refine g_iald F 6 0 rfl rfl h3 dX4_putValue_74 ?_
      refine g_i2l F dX4_putValue_75 ?_
      refine g_lmul F dX4_putValue_76 ?_
      refine g_ldc2 (v := 2) F (by decide +kernel) dX4_putValue_77 ?_
      refine g_ladd F dX4_putValue_80 ?_
      obtain ⟨o4, ho4, hf⟩ := bnE hf
      refine g_callPv (n := 1) (As := [.long (((2 : Int64) * ((a_numbers ((x2 - (a_bases x1.toNatClampNeg)) / (4 : Int32)).toNatClampNeg).toInt64)) + (2 : Int64))]) F (c_X4_putCount l dC dI cI cJ cH a_p a_bases_p a_tops_p a_words_p a_roots_p a_order_p a_numbers_p a_image_p a_other_p a_input_p a_fresh_p a_freshRoots_p a_heads_p a_kept_p a_thrown a_bases a_tops a_words a_roots a_reached a_order a_numbers a_size a_image a_otherSize a_other a_waiting a_input a_at a_ended a_told a_many a_fresh a_freshRoots a_heads a_count a_kept (((2 : Int64) * ((a_numbers ((x2 - (a_bases x1.toNatClampNeg)) / (4 : Int32)).toNatClampNeg).toInt64)) + (2 : Int64)) o4 ho4) ggX4_putValue_X4_putCount rfl rfl rfl (by decide +kernel) (by decide +kernel) (by decide +kernel) (by decide +kernel) (by decide +kernel) ⟨Nat.le_of_ble_eq_true rfl, Nat.le_of_ble_eq_true rfl⟩ ⟨Nat.le_of_ble_eq_true rfl, Nat.le_of_ble_eq_true rfl⟩ hN 0 rfl rfl rfl ([]) ([]) rfl (fun _ => rfl) rfl (Nat.le_of_ble_eq_true rfl) rfl dX4_putValue_81 (cells' := 0) (slots' := 0) rfl rfl (fun u hp => ?_)
      subst hp
      refine g_ws (ws' := wMd cI a_p a_bases_p a_tops_p a_words_p a_roots_p a_order_p a_numbers_p a_image_p a_other_p a_input_p a_fresh_p a_freshRoots_p a_heads_p a_kept_p a_thrown a_bases a_tops a_words a_roots a_reached a_order a_numbers o4.1 o4.2 a_otherSize a_other a_waiting a_input a_at a_ended a_told a_many a_fresh a_freshRoots a_heads a_count a_kept) rfl ?_
      subst hQ
      exact g_vret F hlocks hr (o4.1, o4.2) rfl (Option.some.inj hf).symm dX4_putValue_84
    · have hf := iteT hf c50
      refine g_lconst (v := 0) F dX4_putValue_53 rfl ?_
      refine g_goto (tgt := 81) F dX4_putValue_54 (by decide) ?_
      obtain ⟨o5, ho5, hf⟩ := bnE hf
      refine g_callPv (n := 1) (As := [.long (0 : Int64)]) F (c_X4_putCount l dC dI cI cJ cH a_p a_bases_p a_tops_p a_words_p a_roots_p a_order_p a_numbers_p a_image_p a_other_p a_input_p a_fresh_p a_freshRoots_p a_heads_p a_kept_p a_thrown a_bases a_tops a_words a_roots a_reached a_order a_numbers a_size a_image a_otherSize a_other a_waiting a_input a_at a_ended a_told a_many a_fresh a_freshRoots a_heads a_count a_kept (0 : Int64) o5 ho5) ggX4_putValue_X4_putCount rfl rfl rfl (by decide +kernel) (by decide +kernel) (by decide +kernel) (by decide +kernel) (by decide +kernel) ⟨Nat.le_of_ble_eq_true rfl, Nat.le_of_ble_eq_true rfl⟩ ⟨Nat.le_of_ble_eq_true rfl, Nat.le_of_ble_eq_true rfl⟩ hN 0 rfl rfl rfl ([]) ([]) rfl (fun _ => rfl) rfl (Nat.le_of_ble_eq_true rfl) rfl dX4_putValue_81 (cells' := 0) (slots' := 0) rfl rfl (fun u hp => ?_)
      subst hp
      refine g_ws (ws' := wMd cI a_p a_bases_p a_tops_p a_words_p a_roots_p a_order_p a_numbers_p a_image_p a_other_p a_input_p a_fresh_p a_freshRoots_p a_heads_p a_kept_p a_thrown a_bases a_tops a_words a_roots a_reached a_order a_numbers o5.1 o5.2 a_otherSize a_other a_waiting a_input a_at a_ended a_told a_many a_fresh a_freshRoots a_heads a_count a_kept) rfl ?_
      subst hQ
      exact g_vret F hlocks hr (o5.1, o5.2) rfl (Option.some.inj hf).symm dX4_putValue_84
  · have hf := iteF hf c4
    refine g_iload_n F dX4_putValue_7 rfl 2 rfl ?_
    refine g_iconst (v := 1) F dX4_putValue_8 rfl ?_
    refine g_ishr F dX4_putValue_9 ?_
    refine g_i2l F dX4_putValue_10 ?_
    obtain ⟨v6, ev6, hf⟩ := nmE hf
    refine g_nml ev6 ?_
    refine g_lstore_n (lv' := [(3, .long v6), (0, .ref a_p), (1, .int x1), (2, .int x2)]) F dX4_putValue_11 rfl (by decide) rfl ?_
    refine g_aload_n F dX4_putValue_12 rfl 1 rfl ?_
    refine g_lload_n F dX4_putValue_13 rfl 0 rfl ?_
    refine g_lconst (v := 0) F dX4_putValue_14 rfl ?_
    refine g_lcmp F dX4_putValue_15 ?_
    refine g_if_lt (tgt := 29) F dX4_putValue_16 (by decide) (fun c16 => ?_) (fun c16 => ?_)
    · have hf := iteT hf c16
      refine g_ldc2 (v := 4) F (by decide +kernel) dX4_putValue_29 ?_
      refine g_ldc2 (v := -1) F (by decide +kernel) dX4_putValue_32 ?_
      refine g_lload_n F dX4_putValue_35 rfl 0 rfl ?_
      refine g_lsub F dX4_putValue_36 ?_
      refine g_lmul F dX4_putValue_37 ?_
      refine g_ldc2 (v := 3) F (by decide +kernel) dX4_putValue_38 ?_
      refine g_ladd F dX4_putValue_41 ?_
      obtain ⟨o7, ho7, hf⟩ := bnE hf
      refine g_callPv (n := 1) (As := [.long (((4 : Int64) * ((-1 : Int64) - v6)) + (3 : Int64))]) F (c_X4_putCount l dC dI cI cJ cH a_p a_bases_p a_tops_p a_words_p a_roots_p a_order_p a_numbers_p a_image_p a_other_p a_input_p a_fresh_p a_freshRoots_p a_heads_p a_kept_p a_thrown a_bases a_tops a_words a_roots a_reached a_order a_numbers a_size a_image a_otherSize a_other a_waiting a_input a_at a_ended a_told a_many a_fresh a_freshRoots a_heads a_count a_kept (((4 : Int64) * ((-1 : Int64) - v6)) + (3 : Int64)) o7 ho7) ggX4_putValue_X4_putCount rfl rfl rfl (by decide +kernel) (by decide +kernel) (by decide +kernel) (by decide +kernel) (by decide +kernel) ⟨Nat.le_of_ble_eq_true rfl, Nat.le_of_ble_eq_true rfl⟩ ⟨Nat.le_of_ble_eq_true rfl, Nat.le_of_ble_eq_true rfl⟩ hN 0 rfl rfl rfl ([]) ([]) rfl (fun _ => rfl) rfl (Nat.le_of_ble_eq_true rfl) rfl dX4_putValue_42 (cells' := 0) (slots' := 0) rfl rfl (fun u hp => ?_)
      subst hp
      refine g_ws (ws' := wMd cI a_p a_bases_p a_tops_p a_words_p a_roots_p a_order_p a_numbers_p a_image_p a_other_p a_input_p a_fresh_p a_freshRoots_p a_heads_p a_kept_p a_thrown a_bases a_tops a_words a_roots a_reached a_order a_numbers o7.1 o7.2 a_otherSize a_other a_waiting a_input a_at a_ended a_told a_many a_fresh a_freshRoots a_heads a_count a_kept) rfl ?_
      refine g_goto (tgt := 84) F dX4_putValue_45 (by decide) ?_
      subst hQ
      exact g_vret F hlocks hr (o7.1, o7.2) rfl (Option.some.inj hf).symm dX4_putValue_84
    · have hf := iteF hf c16
      refine g_ldc2 (v := 4) F (by decide +kernel) dX4_putValue_19 ?_
      refine g_lload_n F dX4_putValue_22 rfl 0 rfl ?_
      refine g_lmul F dX4_putValue_23 ?_
      refine g_lconst (v := 1) F dX4_putValue_24 rfl ?_
      refine g_ladd F dX4_putValue_25 ?_
      refine g_goto (tgt := 42) F dX4_putValue_26 (by decide) ?_
      obtain ⟨o8, ho8, hf⟩ := bnE hf
      refine g_callPv (n := 1) (As := [.long (((4 : Int64) * v6) + (1 : Int64))]) F (c_X4_putCount l dC dI cI cJ cH a_p a_bases_p a_tops_p a_words_p a_roots_p a_order_p a_numbers_p a_image_p a_other_p a_input_p a_fresh_p a_freshRoots_p a_heads_p a_kept_p a_thrown a_bases a_tops a_words a_roots a_reached a_order a_numbers a_size a_image a_otherSize a_other a_waiting a_input a_at a_ended a_told a_many a_fresh a_freshRoots a_heads a_count a_kept (((4 : Int64) * v6) + (1 : Int64)) o8 ho8) ggX4_putValue_X4_putCount rfl rfl rfl (by decide +kernel) (by decide +kernel) (by decide +kernel) (by decide +kernel) (by decide +kernel) ⟨Nat.le_of_ble_eq_true rfl, Nat.le_of_ble_eq_true rfl⟩ ⟨Nat.le_of_ble_eq_true rfl, Nat.le_of_ble_eq_true rfl⟩ hN 0 rfl rfl rfl ([]) ([]) rfl (fun _ => rfl) rfl (Nat.le_of_ble_eq_true rfl) rfl dX4_putValue_42 (cells' := 0) (slots' := 0) rfl rfl (fun u hp => ?_)
      subst hp
      refine g_ws (ws' := wMd cI a_p a_bases_p a_tops_p a_words_p a_roots_p a_order_p a_numbers_p a_image_p a_other_p a_input_p a_fresh_p a_freshRoots_p a_heads_p a_kept_p a_thrown a_bases a_tops a_words a_roots a_reached a_order a_numbers o8.1 o8.2 a_otherSize a_other a_waiting a_input a_at a_ended a_told a_many a_fresh a_freshRoots a_heads a_count a_kept) rfl ?_
      refine g_goto (tgt := 84) F dX4_putValue_45 (by decide) ?_
      subst hQ
      exact g_vret F hlocks hr (o8.1, o8.2) rfl (Option.some.inj hf).symm dX4_putValue_84

/-! HeapImagesModel.sumOf([II)I -/
def rm_X4_sumOf : Room := { frames := 0, cells := 0, slots := 0, locals := 0 }
def f_X4_sumOf_L5_s (a_n : Nat) (a : (Nat → Int32)) (y1 : Int32) (rc : Int64 → Int32 → Option Int64) (z2 : Int64) (z4 : Int32) : Option Int64 :=
  if y1 ≤ z4 then some z2 else ck (inR z4 a_n) (nm (z2 + (((a z4.toNatClampNeg).toInt64) * ((z4 + (1 : Int32)).toInt64))) fun v2 => nm (z4 + (1 : Int32)) fun v3 => rc v2 v3)
def f_X4_sumOf_L5 (a_n : Nat) (a : (Nat → Int32)) (y1 : Int32) : Nat → Int64 → Int32 → Option Int64
  | 0, _, _ => none
  | n + 1, z2, z4 => f_X4_sumOf_L5_s a_n a y1 (f_X4_sumOf_L5 a_n a y1 n) z2 z4
set_option maxHeartbeats 4000000 in
theorem w_X4_sumOf_L5 {p : Program} {l : Launch} {e : Env} {s : State} {m : MethodId} {args : Array Value} {below : List Frame} {meth : Method} {c : Code} {A : Nat → Prop} {Q : State → Prop} {dC : Nat → ClassId} {dI : Nat → Nat → Nat} {cI cJ cH : ClassId} {a_p a_n : Nat} {a : (Nat → Int32)} {y1 : Int32} (F : gF p m c cX4_sumOf 5 s args wsX4_sumOf yX4_sumOf.cls (dC, dI) vwCl (gT cI cJ cH) A) (hN : ∀ w ∈ gN, va_Nw w s) : ∀ (n : Nat) (z2 : Int64) (z4 : Int32) (o : Int64), f_X4_sumOf_L5 a_n a y1 n z2 z4 = some o → (gW p l e rm_X4_sumOf s m args below meth c 0 0 Q (dC, dI) vwCl A 5 (wAr cI a_p a_n a) [(2, .long o)] 31 []) → gW p l e rm_X4_sumOf s m args below meth c 0 0 Q (dC, dI) vwCl A 5 (wAr cI a_p a_n a) [(0, .ref a_p), (1, .int y1), (2, .long z2), (4, .int z4)] 5 [] := by
  intro n
  induction n with
  | zero =>
    intro z2 z4 o hf E0
    change none = some o at hf
    cases hf
  | succ n ih =>
    intro z2 z4 o hf E0
    change f_X4_sumOf_L5_s a_n a y1 (f_X4_sumOf_L5 a_n a y1 n) z2 z4 = some o at hf
    unfold f_X4_sumOf_L5_s at hf
    refine g_iload F dX4_sumOf_5 3 rfl ?_
    refine g_iload_n F dX4_sumOf_7 rfl 1 rfl ?_
    refine g_icmp_ge (tgt := 31) F dX4_sumOf_8 (by decide) (fun c8 => ?_) (fun c8 => ?_)
    · have hf := iteT hf c8
      cases hf
      refine g_lv [2] rfl ?_
      exact E0
    · have hf := iteF hf c8
      refine g_lload_n F dX4_sumOf_11 rfl 2 rfl ?_
      refine g_aload_n F dX4_sumOf_12 rfl 0 rfl ?_
      refine g_iload F dX4_sumOf_13 3 rfl ?_
      obtain ⟨h1, hf⟩ := ckE hf
      refine g_iald F 0 0 rfl rfl h1 dX4_sumOf_15 ?_
      refine g_i2l F dX4_sumOf_16 ?_
      refine g_iload F dX4_sumOf_17 3 rfl ?_
      refine g_iconst (v := 1) F dX4_sumOf_19 rfl ?_
      refine g_iadd F dX4_sumOf_20 ?_
      refine g_i2l F dX4_sumOf_21 ?_
      refine g_lmul F dX4_sumOf_22 ?_
      refine g_ladd F dX4_sumOf_23 ?_
      obtain ⟨v2, ev2, hf⟩ := nmE hf
      refine g_nml ev2 ?_
      refine g_lstore_n (lv' := [(2, .long v2), (0, .ref a_p), (1, .int y1), (4, .int z4)]) F dX4_sumOf_24 rfl (by decide) rfl ?_
      obtain ⟨v3, ev3, hf⟩ := nmE hf
      refine g_iinc (j := 3) (lv' := [(4, .int v3), (2, .long v2), (0, .ref a_p), (1, .int y1)]) F dX4_sumOf_25 rfl ev3.symm (by decide) rfl ?_
      refine g_goto (tgt := 5) F dX4_sumOf_28 (by decide) ?_
      refine g_lv [2, 3, 1, 0] rfl ?_
      exact ih _ _ o hf E0
def f_X4_sumOf (a_n : Nat) (a : (Nat → Int32)) (x1 : Int32) : Option Int32 :=
  Option.bind (f_X4_sumOf_L5 a_n a x1 FU (0 : Int64) (0 : Int32)) fun o4 => some ((o4 - o4 / (65521 : Int64) * (65521 : Int64)).toInt32)
set_option maxHeartbeats 4000000 in
set_option maxRecDepth 100000 in
theorem c_X4_sumOf (l : Launch) (dC : Nat → ClassId) (dI : Nat → Nat → Nat) (cI cJ cH : ClassId) (a_p : Nat) (a_n : Nat) (a : (Nat → Int32)) (x1 : Int32) (o : Int32) (hf : f_X4_sumOf a_n a x1 = some o) : ∀ sz : Nat, Met l yX4_sumOf wsX4_sumOf rm_X4_sumOf (gPre [.ref a_p, .int x1] (dC, dI) vwCl (gT cI cJ cH) (wAr cI a_p a_n a) sz) (va_Qi (fun (r : Int32) (u : Unit) => o = r) (gB (dC, dI) vwCl (gT cI cJ cH) (fun (u : Unit) => wAr cI a_p a_n a) (va_A (wAr cI a_p a_n a) sz)) (va_A (wAr cI a_p a_n a) sz)) 0 0 (va_A (wAr cI a_p a_n a) sz) := by
  refine g_met (fun A => va_Qi (fun (r : Int32) (u : Unit) => o = r) (gB (dC, dI) vwCl (gT cI cJ cH) (fun (u : Unit) => wAr cI a_p a_n a) A) A) (by decide) rfl (Nat.le_of_ble_eq_true rfl) ?_
  intro p e s m args below meth c A Q F hlocks hr hname hN hQ
  unfold f_X4_sumOf at hf
  refine g_lvE (lv' := [(0, .ref a_p), (1, .int x1)]) rfl ?_
  refine g_lconst (v := 0) F dX4_sumOf_0 rfl ?_
  refine g_lstore_n (lv' := [(2, .long (0 : Int64)), (0, .ref a_p), (1, .int x1)]) F dX4_sumOf_1 rfl (by decide) rfl ?_
  refine g_iconst (v := 0) F dX4_sumOf_2 rfl ?_
  refine g_istore (lv' := [(4, .int (0 : Int32)), (2, .long (0 : Int64)), (0, .ref a_p), (1, .int x1)]) F dX4_sumOf_3 (by decide) rfl ?_
  obtain ⟨o4, ho4, hf⟩ := bnE hf
  refine g_lv [2, 3, 1, 0] rfl ?_
  refine w_X4_sumOf_L5 F hN FU _ _ o4 ho4 ?_
  refine g_lload_n F dX4_sumOf_31 rfl 0 rfl ?_
  refine g_ldc2 (v := 65521) F (by decide +kernel) dX4_sumOf_32 ?_
  refine g_lrem F dX4_sumOf_35 (by decide) ?_
  refine g_l2i F dX4_sumOf_36 ?_
  subst hQ
  exact g_iret F hlocks hr () rfl (Option.some.inj hf).symm dX4_sumOf_37
