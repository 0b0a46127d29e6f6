/-! HeapImagesModel.isBase(I)Z -/
def rm_X4_isBase : Room := { frames := 0, cells := 0, slots := 0, locals := 0 }
def f_X4_isBase (x0 : Int32) : Option Int32 :=
  if x0 < (4 : Int32) then some (0 : Int32) else if (1000000 : Int32) < x0 then some (0 : Int32) else if (x0 - x0 / (4 : Int32) * (4 : Int32)) = 0 then some (1 : Int32) else some (0 : Int32)
set_option maxHeartbeats 4000000 in
set_option maxRecDepth 100000 in
theorem c_X4_isBase (l : Launch) (dC : Nat → ClassId) (dI : Nat → Nat → Nat) (cI cJ cH : ClassId)    (x0 : Int32) (o : Int32) (hf : f_X4_isBase x0 = some o) : ∀ sz : Nat, Met l yX4_isBase wsX4_isBase rm_X4_isBase (gPre [.int x0] (dC, dI) vwCl (gT cI cJ cH) ([]) sz) (va_Qi (fun (r : Int32) (u : Unit) => o = r) (gB (dC, dI) vwCl (gT cI cJ cH) (fun (u : Unit) => []) (va_A ([]) sz)) (va_A ([]) sz)) 0 0 (va_A ([]) sz) := by
  refine g_met (fun A => va_Qi (fun (r : Int32) (u : Unit) => o = r) (gB (dC, dI) vwCl (gT cI cJ cH) (fun (u : Unit) => []) A) A) (by decide) rfl (Nat.le_of_ble_eq_true rfl) ?_
  intro p e s m args below meth c A Q F hlocks hr hname hN hQ
  unfold f_X4_isBase at hf
  refine g_lvE (lv' := [(0, .int x0)]) rfl ?_
  refine g_iload_n F dX4_isBase_0 rfl 0 rfl ?_
  refine g_iconst (v := 4) F dX4_isBase_1 rfl ?_
  refine g_icmp_lt (tgt := 21) F dX4_isBase_2 (by decide) (fun c2 => ?_) (fun c2 => ?_)
  · have hf := iteT hf c2
    refine g_iconst (v := 0) F dX4_isBase_21 rfl ?_
    subst hQ
    exact g_zret F hlocks hr rfl () rfl (Option.some.inj hf).symm dX4_isBase_22
  · have hf := iteF hf c2
    refine g_iload_n F dX4_isBase_5 rfl 0 rfl ?_
    refine g_ldc (v := 1000000) F (by decide +kernel) dX4_isBase_6 ?_
    refine g_icmp_gt (tgt := 21) F dX4_isBase_8 (by decide) (fun c8 => ?_) (fun c8 => ?_)
    · have hf := iteT hf c8
      refine g_iconst (v := 0) F dX4_isBase_21 rfl ?_
      subst hQ
      exact g_zret F hlocks hr rfl () rfl (Option.some.inj hf).symm dX4_isBase_22
    · have hf := iteF hf c8
      refine g_iload_n F dX4_isBase_11 rfl 0 rfl ?_
      refine g_iconst (v := 4) F dX4_isBase_12 rfl ?_
      refine g_irem F dX4_isBase_13 (by decide) ?_
      refine g_if_ne (tgt := 21) F dX4_isBase_14 (by decide) (fun c14 => ?_) (fun c14 => ?_)
      · have hf := iteF hf c14
        refine g_iconst (v := 0) F dX4_isBase_21 rfl ?_
        subst hQ
        exact g_zret F hlocks hr rfl () rfl (Option.some.inj hf).symm dX4_isBase_22
      · have hf := iteT hf c14
        refine g_iconst (v := 1) F dX4_isBase_17 rfl ?_
        refine g_goto (tgt := 22) F dX4_isBase_18 (by decide) ?_
        subst hQ
        exact g_zret F hlocks hr rfl () rfl (Option.some.inj hf).symm dX4_isBase_22

/-! HeapImagesModel.move(II)I -/
def rm_X4_move : Room := { frames := 7, cells := 0, slots := 0, locals := 160 }
theorem h_X4_move_4 : ∀ w ∈ wsX40, w ∈ wsX4_move := by decide +kernel
def f_X4_move_L77_s (y1 : Int32) (y2 : Int32) (y3 : Int32) (y5 : Int32) (rc : Int32 → Int32 → (Nat → Int32) → Option (Int32 × (Nat → Int32))) (z4 : Int32) (z6 : Int32) (a_words : (Nat → Int32)) : Option (Int32 × (Nat → Int32)) :=
  Option.bind (f_X4_slotsAt a_words y1 y5) fun o6 => if o6 ≤ z6 then some (z4, a_words) else Option.bind (f_X4_kindAt a_words y1 y5) fun o7 => if o7 = (2 : Int32) then some (z4, a_words) else nm (((((256 : Int32) * y1) + y5) + (1 : Int32)) + z6) fun v8 => ck (inR v8 512) (Option.bind (f_X4_isNumber (a_words v8.toNatClampNeg)) fun o10 => if o10 = 0 then ck (inR v8 512) (if (a_words v8.toNatClampNeg) = 0 then nm (z6 + (1 : Int32)) fun v13 => rc z4 v13 a_words else ck (inR v8 512) (ck (inR v8 512) (nm (z4 + (1 : Int32)) fun v16 => nm (z6 + (1 : Int32)) fun v17 => rc v16 v17 (upd a_words v8.toNatClampNeg ((a_words v8.toNatClampNeg) + y3))))) else nm (z6 + (1 : Int32)) fun v11 => rc z4 v11 a_words)
def f_X4_move_L77 (y1 : Int32) (y2 : Int32) (y3 : Int32) (y5 : Int32) : Nat → Int32 → Int32 → (Nat → Int32) → Option (Int32 × (Nat → Int32))
  | 0, _, _, _ => none
  | n + 1, z4, z6, a_words => f_X4_move_L77_s y1 y2 y3 y5 (f_X4_move_L77 y1 y2 y3 y5 n) z4 z6 a_words
set_option maxHeartbeats 4000000 in
theorem w_X4_move_L77 {p : Program} {l : Launch} {e : Env} {s : State} {m : MethodId} {args : Array Value} {below : List Frame} {meth : Method} {c : Code} {A : Nat → Prop} {Q : State → Prop} {dC : Nat → ClassId} {dI : Nat → Nat → Nat} {cI cJ cH : ClassId} {a_p a_bases_p a_tops_p a_words_p a_roots_p a_order_p a_numbers_p a_image_p a_other_p a_input_p a_fresh_p a_freshRoots_p a_heads_p a_kept_p : Nat} {a_thrown : Int32} {a_bases : (Nat → Int32)} {a_tops : (Nat → Int32)} {a_roots : (Nat → Int32)} {a_reached : Int32} {a_order : (Nat → Int32)} {a_numbers : (Nat → Int32)} {a_size : Int32} {a_image : (Nat → Int32)} {a_otherSize : Int32} {a_other : (Nat → Int32)} {a_waiting : Int32} {a_input : (Nat → Int32)} {a_at : Int32} {a_ended : Int32} {a_told : Int32} {a_many : Int32} {a_fresh : (Nat → Int32)} {a_freshRoots : (Nat → Int32)} {a_heads : (Nat → Int32)} {a_count : Int64} {a_kept : (Nat → Int32)} {y1 : Int32} {y2 : Int32} {y3 : Int32} {y5 : Int32} (F : gF p m c cX4_move 8 s args wsX4_move yX4_move.cls (dC, dI) vwCl (gT cI cJ cH) A) (hN : ∀ w ∈ gN, va_Nw w s) : ∀ (n : Nat) (z4 : Int32) (z6 : Int32) (a_words : (Nat → Int32)) (o : (Int32 × (Nat → Int32))), f_X4_move_L77 y1 y2 y3 y5 n z4 z6 a_words = some o → (gW p l e rm_X4_move s m args below meth c 0 0 Q (dC, dI) vwCl A 8 (wMd cI a_p a_bases_p a_tops_p a_words_p a_roots_p a_order_p a_numbers_p a_image_p a_other_p a_input_p a_fresh_p a_freshRoots_p a_heads_p a_kept_p a_thrown a_bases a_tops o.2 a_roots a_reached a_order a_numbers a_size a_image a_otherSize a_other a_waiting a_input a_at a_ended a_told a_many a_fresh a_freshRoots a_heads a_count a_kept) [(0, .ref a_p), (1, .int y1), (2, .int y2), (3, .int y3), (4, .int o.1), (5, .int y5)] 163 []) → gW p l e rm_X4_move s m args below meth c 0 0 Q (dC, dI) vwCl A 8 (wMd cI a_p a_bases_p a_tops_p a_words_p a_roots_p a_order_p a_numbers_p a_image_p a_other_p a_input_p a_fresh_p a_freshRoots_p a_heads_p a_kept_p a_thrown a_bases a_tops a_words a_roots a_reached a_order a_numbers a_size a_image a_otherSize a_other a_waiting a_input a_at a_ended a_told a_many a_fresh a_freshRoots a_heads a_count a_kept) [(0, .ref a_p), (1, .int y1), (2, .int y2), (3, .int y3), (4, .int z4), (5, .int y5), (6, .int z6)] 77 [] := by
  intro n
  induction n with
  | zero =>
    intro z4 z6 a_words o hf E0
    change none = some o at hf
    cases hf
  | succ n ih =>
    intro z4 z6 a_words o hf E0
    change f_X4_move_L77_s y1 y2 y3 y5 (f_X4_move_L77 y1 y2 y3 y5 n) z4 z6 a_words = some o at hf
    unfold f_X4_move_L77_s at hf
    refine g_iload F dX4_move_77 6 rfl ?_
    refine g_aload_n F dX4_move_79 rfl 0 rfl ?_
    refine g_iload_n F dX4_move_80 rfl 1 rfl ?_
    refine g_iload F dX4_move_81 5 rfl ?_
    obtain ⟨o6, ho6, hf⟩ := bnE hf
    refine g_callPi (n := 2) (As := [.int y1, .int y5]) F (c_X4_slotsAt l dC dI cI cJ cH a_p a_bases_p a_tops_p a_words_p a_roots_p a_order_p a_numbers_p a_image_p a_other_p a_input_p a_fresh_p a_freshRoots_p a_heads_p a_kept_p a_thrown a_bases a_tops a_words a_roots a_reached a_order a_numbers a_size a_image a_otherSize a_other a_waiting a_input a_at a_ended a_told a_many a_fresh a_freshRoots a_heads a_count a_kept y1 y5 o6 ho6) ggX4_move_X4_slotsAt rfl rfl rfl (by decide +kernel) (by decide +kernel) (by decide +kernel) (by decide +kernel) (by decide +kernel) ⟨Nat.le_of_ble_eq_true rfl, Nat.le_of_ble_eq_true rfl⟩ ⟨Nat.le_of_ble_eq_true rfl, Nat.le_of_ble_eq_true rfl⟩ hN 0 rfl rfl rfl ([]) ([]) rfl (fun _ => rfl) rfl (Nat.le_of_ble_eq_true rfl) rfl dX4_move_83 (cells' := 0) (slots' := 0) rfl rfl (fun r u hp => ?_)
    subst hp
    refine g_ws (ws' := wMd cI a_p a_bases_p a_tops_p a_words_p a_roots_p a_order_p a_numbers_p a_image_p a_other_p a_input_p a_fresh_p a_freshRoots_p a_heads_p a_kept_p a_thrown a_bases a_tops a_words a_roots a_reached a_order a_numbers a_size a_image a_otherSize a_other a_waiting a_input a_at a_ended a_told a_many a_fresh a_freshRoots a_heads a_count a_kept) rfl ?_
    refine g_icmp_ge (tgt := 163) F dX4_move_86 (by decide) (fun c86 => ?_) (fun c86 => ?_)
    · have hf := iteT hf c86
      cases hf
      refine g_lv [0, 1, 2, 3, 4, 5] rfl ?_
      exact E0
    · have hf := iteF hf c86
      refine g_aload_n F dX4_move_89 rfl 0 rfl ?_
      refine g_iload_n F dX4_move_90 rfl 1 rfl ?_
      refine g_iload F dX4_move_91 5 rfl ?_
      obtain ⟨o7, ho7, hf⟩ := bnE hf
      refine g_callPi (n := 2) (As := [.int y1, .int y5]) F (c_X4_kindAt l dC dI cI cJ cH a_p a_bases_p a_tops_p a_words_p a_roots_p a_order_p a_numbers_p a_image_p a_other_p a_input_p a_fresh_p a_freshRoots_p a_heads_p a_kept_p a_thrown a_bases a_tops a_words a_roots a_reached a_order a_numbers a_size a_image a_otherSize a_other a_waiting a_input a_at a_ended a_told a_many a_fresh a_freshRoots a_heads a_count a_kept y1 y5 o7 ho7) ggX4_move_X4_kindAt rfl rfl rfl (by decide +kernel) (by decide +kernel) (by decide +kernel) (by decide +kernel) (by decide +kernel) ⟨Nat.le_of_ble_eq_true rfl, Nat.le_of_ble_eq_true rfl⟩ ⟨Nat.le_of_ble_eq_true rfl, Nat.le_of_ble_eq_true rfl⟩ hN 0 rfl rfl rfl ([]) ([]) rfl (fun _ => rfl) rfl (Nat.le_of_ble_eq_true rfl) rfl dX4_move_93 (cells' := 0) (slots' := 0) rfl rfl (fun r u hp => ?_)
      subst hp
      refine g_ws (ws' := wMd cI a_p a_bases_p a_tops_p a_words_p a_roots_p a_order_p a_numbers_p a_image_p a_other_p a_input_p a_fresh_p a_freshRoots_p a_heads_p a_kept_p a_thrown a_bases a_tops a_words a_roots a_reached a_order a_numbers a_size a_image a_otherSize a_other a_waiting a_input a_at a_ended a_told a_many a_fresh a_freshRoots a_heads a_count a_kept) rfl ?_
      refine g_iconst (v := 2) F dX4_move_96 rfl ?_
      refine g_icmp_eq (tgt := 163) F dX4_move_97 (by decide) (fun c97 => ?_) (fun c97 => ?_)
      · have hf := iteT hf c97
        cases hf
        refine g_lv [0, 1, 2, 3, 4, 5] rfl ?_
        exact E0
      · have hf := iteF hf c97
        refine g_sipush (v := 256) F dX4_move_100 rfl ?_
        refine g_iload_n F dX4_move_103 rfl 1 rfl ?_
        refine g_imul F dX4_move_104 ?_
        refine g_iload F dX4_move_105 5 rfl ?_
        refine g_iadd F dX4_move_107 ?_
        refine g_iconst (v := 1) F dX4_move_108 rfl ?_
        refine g_iadd F dX4_move_109 ?_
        refine g_iload F dX4_move_110 6 rfl ?_
        refine g_iadd F dX4_move_112 ?_
        obtain ⟨v8, ev8, hf⟩ := nmE hf
        refine g_nmi ev8 ?_
        refine g_istore (lv' := [(7, .int v8), (0, .ref a_p), (1, .int y1), (2, .int y2), (3, .int y3), (4, .int z4), (5, .int y5), (6, .int z6)]) F dX4_move_113 (by decide) rfl ?_
        refine g_aload_n F dX4_move_115 rfl 1 rfl ?_
        refine g_get F h_X4_move_4 0 rfl rfl 3 (by decide) (by decide +kernel) rfl dX4_move_116 ?_
        refine g_iload F dX4_move_119 0 rfl ?_
        obtain ⟨h9, hf⟩ := ckE hf
        refine g_iald F 3 0 rfl rfl h9 dX4_move_121 ?_
        obtain ⟨o10, ho10, hf⟩ := bnE hf
        refine g_callSi (n := 1) (As := [.int (a_words v8.toNatClampNeg)]) F (c_X4_isNumber l dC dI cI cJ cH (a_words v8.toNatClampNeg) o10 ho10) ggX4_move_X4_isNumber rfl rfl rfl (by decide +kernel) (by decide +kernel) (by decide +kernel) (by decide +kernel) ⟨Nat.le_of_ble_eq_true rfl, Nat.le_of_ble_eq_true rfl⟩ ⟨Nat.le_of_ble_eq_true rfl, Nat.le_of_ble_eq_true rfl⟩ hN [] rfl rfl (fun _ => rfl) rfl (Nat.le_of_ble_eq_true rfl) rfl dX4_move_122 (cells' := 0) (slots' := 0) rfl rfl (fun r u hp => ?_)
        subst hp
        refine g_ws (ws' := wMd cI a_p a_bases_p a_tops_p a_words_p a_roots_p a_order_p a_numbers_p a_image_p a_other_p a_input_p a_fresh_p a_freshRoots_p a_heads_p a_kept_p a_thrown a_bases a_tops a_words a_roots a_reached a_order a_numbers a_size a_image a_otherSize a_other a_waiting a_input a_at a_ended a_told a_many a_fresh a_freshRoots a_heads a_count a_kept) rfl ?_
        refine g_if_ne (tgt := 157) F dX4_move_125 (by decide) (fun c125 => ?_) (fun c125 => ?_)
        · have hf := iteF hf c125
          obtain ⟨v11, ev11, hf⟩ := nmE hf
          refine g_iinc (j := 7) (lv' := [(6, .int v11), (7, .int v8), (0, .ref a_p), (1, .int y1), (2, .int y2), (3, .int y3), (4, .int z4), (5, .int y5)]) F dX4_move_157 rfl ev11.symm (by decide) rfl ?_
          refine g_goto (tgt := 77) F dX4_move_160 (by decide) ?_
          refine g_lv [2, 3, 4, 5, 6, 7, 0] rfl ?_
          exact ih _ _ _ o hf E0
        · have hf := iteT hf c125
          refine g_aload_n F dX4_move_128 rfl 1 rfl ?_
          refine g_get F h_X4_move_4 0 rfl rfl 3 (by decide) (by decide +kernel) rfl dX4_move_129 ?_
          refine g_iload F dX4_move_132 0 rfl ?_
          obtain ⟨h12, hf⟩ := ckE hf
          refine g_iald F 3 0 rfl rfl h12 dX4_move_134 ?_
          refine g_if_eq (tgt := 157) F dX4_move_135 (by decide) (fun c135 => ?_) (fun c135 => ?_)
          · have hf := iteT hf c135
            obtain ⟨v13, ev13, hf⟩ := nmE hf
            refine g_iinc (j := 7) (lv' := [(6, .int v13), (7, .int v8), (0, .ref a_p), (1, .int y1), (2, .int y2), (3, .int y3), (4, .int z4), (5, .int y5)]) F dX4_move_157 rfl ev13.symm (by decide) rfl ?_
            refine g_goto (tgt := 77) F dX4_move_160 (by decide) ?_
            refine g_lv [2, 3, 4, 5, 6, 7, 0] rfl ?_
            exact ih _ _ _ o hf E0
          · have hf := iteF hf c135
            refine g_aload_n F dX4_move_138 rfl 1 rfl ?_
            refine g_get F h_X4_move_4 0 rfl rfl 3 (by decide) (by decide +kernel) rfl dX4_move_139 ?_
            refine g_iload F dX4_move_142 0 rfl ?_
            refine g_aload_n F dX4_move_144 rfl 1 rfl ?_
            refine g_get F h_X4_move_4 0 rfl rfl 3 (by decide) (by decide +kernel) rfl dX4_move_145 ?_
            refine g_iload F dX4_move_148 0 rfl ?_
            obtain ⟨h14, hf⟩ := ckE hf
            refine g_iald F 3 0 rfl rfl h14 dX4_move_150 ?_
            refine g_iload_n F dX4_move_151 rfl 4 rfl ?_
            refine g_iadd F dX4_move_152 ?_
            obtain ⟨h15, hf⟩ := ckE hf
            refine g_iast F 3 0 rfl rfl h15 dX4_move_153 (ws' := wMd cI a_p a_bases_p a_tops_p a_words_p a_roots_p a_order_p a_numbers_p a_image_p a_other_p a_input_p a_fresh_p a_freshRoots_p a_heads_p a_kept_p a_thrown a_bases a_tops (upd a_words v8.toNatClampNeg ((a_words v8.toNatClampNeg) + y3)) a_roots a_reached a_order a_numbers a_size a_image a_otherSize a_other a_waiting a_input a_at a_ended a_told a_many a_fresh a_freshRoots a_heads a_count a_kept) rfl ?_
            obtain ⟨v16, ev16, hf⟩ := nmE hf
            refine g_iinc (j := 5) (lv' := [(4, .int v16), (7, .int v8), (0, .ref a_p), (1, .int y1), (2, .int y2), (3, .int y3), (5, .int y5), (6, .int z6)]) F dX4_move_154 rfl ev16.symm (by decide) rfl ?_
            obtain ⟨v17, ev17, hf⟩ := nmE hf
            refine g_iinc (j := 7) (lv' := [(6, .int v17), (4, .int v16), (7, .int v8), (0, .ref a_p), (1, .int y1), (2, .int y2), (3, .int y3), (5, .int y5)]) F dX4_move_157 rfl ev17.symm (by decide) rfl ?_
            refine g_goto (tgt := 77) F dX4_move_160 (by decide) ?_
            refine g_lv [3, 4, 5, 6, 1, 7, 0] rfl ?_
            exact ih _ _ _ o hf E0
def f_X4_move_L63_s (a_tops : (Nat → Int32)) (y1 : Int32) (y2 : Int32) (y3 : Int32) (rc : Int32 → Int32 → (Nat → Int32) → Option (Int32 × (Nat → Int32))) (z4 : Int32) (z5 : Int32) (a_words : (Nat → Int32)) : Option (Int32 × (Nat → Int32)) :=
  ck (inR y1 2) (if (a_tops y1.toNatClampNeg) ≤ z5 then some (z4, a_words) else Option.bind (f_X4_move_L77 y1 y2 y3 z5 FU z4 (0 : Int32) a_words) fun o18 => Option.bind (f_X4_slotsAt o18.2 y1 z5) fun o19 => nm ((z5 + (1 : Int32)) + o19) fun v20 => rc o18.1 v20 o18.2)
def f_X4_move_L63 (a_tops : (Nat → Int32)) (y1 : Int32) (y2 : Int32) (y3 : Int32) : Nat → Int32 → Int32 → (Nat → Int32) → Option (Int32 × (Nat → Int32))
  | 0, _, _, _ => none
  | n + 1, z4, z5, a_words => f_X4_move_L63_s a_tops y1 y2 y3 (f_X4_move_L63 a_tops y1 y2 y3 n) z4 z5 a_words
set_option maxHeartbeats 4000000 in
theorem w_X4_move_L63 {p : Program} {l : Launch} {e : Env} {s : State} {m : MethodId} {args : Array Value} {below : List Frame} {meth : Method} {c : Code} {A : Nat → Prop} {Q : State → Prop} {dC : Nat → ClassId} {dI : Nat → Nat → Nat} {cI cJ cH : ClassId} {a_p a_bases_p a_tops_p a_words_p a_roots_p a_order_p a_numbers_p a_image_p a_other_p a_input_p a_fresh_p a_freshRoots_p a_heads_p a_kept_p : Nat} {a_thrown : Int32} {a_bases : (Nat → Int32)} {a_tops : (Nat → Int32)} {a_roots : (Nat → Int32)} {a_reached : Int32} {a_order : (Nat → Int32)} {a_numbers : (Nat → Int32)} {a_size : Int32} {a_image : (Nat → Int32)} {a_otherSize : Int32} {a_other : (Nat → Int32)} {a_waiting : Int32} {a_input : (Nat → Int32)} {a_at : Int32} {a_ended : Int32} {a_told : Int32} {a_many : Int32} {a_fresh : (Nat → Int32)} {a_freshRoots : (Nat → Int32)} {a_heads : (Nat → Int32)} {a_count : Int64} {a_kept : (Nat → Int32)} {y1 : Int32} {y2 : Int32} {y3 : Int32} (F : gF p m c cX4_move 8 s args wsX4_move yX4_move.cls (dC, dI) vwCl (gT cI cJ cH) A) (hN : ∀ w ∈ gN, va_Nw w s) : ∀ (n : Nat) (z4 : Int32) (z5 : Int32) (a_words : (Nat → Int32)) (o : (Int32 × (Nat → Int32))), f_X4_move_L63 a_tops y1 y2 y3 n z4 z5 a_words = some o → (gW p l e rm_X4_move s m args below meth c 0 0 Q (dC, dI) vwCl A 8 (wMd cI a_p a_bases_p a_tops_p a_words_p a_roots_p a_order_p a_numbers_p a_image_p a_other_p a_input_p a_fresh_p a_freshRoots_p a_heads_p a_kept_p a_thrown a_bases a_tops o.2 a_roots a_reached a_order a_numbers a_size a_image a_otherSize a_other a_waiting a_input a_at a_ended a_told a_many a_fresh a_freshRoots a_heads a_count a_kept) [(0, .ref a_p), (1, .int y1), (2, .int y2), (3, .int y3), (4, .int o.1)] 180 []) → gW p l e rm_X4_move s m args below meth c 0 0 Q (dC, dI) vwCl A 8 (wMd cI a_p a_bases_p a_tops_p a_words_p a_roots_p a_order_p a_numbers_p a_image_p a_other_p a_input_p a_fresh_p a_freshRoots_p a_heads_p a_kept_p a_thrown a_bases a_tops a_words a_roots a_reached a_order a_numbers a_size a_image a_otherSize a_other a_waiting a_input a_at a_ended a_told a_many a_fresh a_freshRoots a_heads a_count a_kept) [(0, .ref a_p), (1, .int y1), (2, .int y2), (3, .int y3), (4, .int z4), (5, .int z5)] 63 [] := by
  intro n
  induction n with
  | zero =>
    intro z4 z5 a_words o hf E0
    change none = some o at hf
    cases hf
  | succ n ih =>
    intro z4 z5 a_words o hf E0
    change f_X4_move_L63_s a_tops y1 y2 y3 (f_X4_move_L63 a_tops y1 y2 y3 n) z4 z5 a_words = some o at hf
    unfold f_X4_move_L63_s at hf
    refine g_iload F dX4_move_63 5 rfl ?_
    refine g_aload_n F dX4_move_65 rfl 0 rfl ?_
    refine g_get F h_X4_move_4 0 rfl rfl 2 (by decide) (by decide +kernel) rfl dX4_move_66 ?_
    refine g_iload_n F dX4_move_69 rfl 1 rfl ?_
    obtain ⟨h5, hf⟩ := ckE hf
    refine g_iald F 2 0 rfl rfl h5 dX4_move_70 ?_
    refine g_icmp_ge (tgt := 180) F dX4_move_71 (by decide) (fun c71 => ?_) (fun c71 => ?_)
    · have hf := iteT hf c71
      cases hf
      refine g_lv [0, 1, 2, 3, 4] rfl ?_
      exact E0
    · have hf := iteF hf c71
      refine g_iconst (v := 0) F dX4_move_74 rfl ?_
      refine g_istore (lv' := [(6, .int (0 : Int32)), (0, .ref a_p), (1, .int y1), (2, .int y2), (3, .int y3), (4, .int z4), (5, .int z5)]) F dX4_move_75 (by decide) rfl ?_
      obtain ⟨o18, ho18, hf⟩ := bnE hf
      refine g_lv [1, 2, 3, 4, 5, 6, 0] rfl ?_
      refine w_X4_move_L77 F hN FU _ _ _ o18 ho18 ?_
      refine g_iload F dX4_move_163 5 rfl ?_
      refine g_iconst (v := 1) F dX4_move_165 rfl ?_
      refine g_iadd F dX4_move_166 ?_
      refine g_aload_n F dX4_move_167 rfl 0 rfl ?_
      refine g_iload_n F dX4_move_168 rfl 1 rfl ?_
      refine g_iload F dX4_move_169 5 rfl ?_
      obtain ⟨o19, ho19, hf⟩ := bnE hf
      refine g_callPi (n := 2) (As := [.int y1, .int z5]) F (c_X4_slotsAt l dC dI cI cJ cH a_p a_bases_p a_tops_p a_words_p a_roots_p a_order_p a_numbers_p a_image_p a_other_p a_input_p a_fresh_p a_freshRoots_p a_heads_p a_kept_p a_thrown a_bases a_tops o18.2 a_roots a_reached a_order a_numbers a_size a_image a_otherSize a_other a_waiting a_input a_at a_ended a_told a_many a_fresh a_freshRoots a_heads a_count a_kept y1 z5 o19 ho19) ggX4_move_X4_slotsAt rfl rfl rfl (by decide +kernel) (by decide +kernel) (by decide +kernel) (by decide +kernel) (by decide +kernel) ⟨Nat.le_of_ble_eq_true rfl, Nat.le_of_ble_eq_true rfl⟩ ⟨Nat.le_of_ble_eq_true rfl, Nat.le_of_ble_eq_true rfl⟩ hN 0 rfl rfl rfl ([]) ([]) rfl (fun _ => rfl) rfl (Nat.le_of_ble_eq_true rfl) rfl dX4_move_171 (cells' := 0) (slots' := 0) rfl rfl (fun r u hp => ?_)
      subst hp
      refine g_ws (ws' := wMd cI a_p a_bases_p a_tops_p a_words_p a_roots_p a_order_p a_numbers_p a_image_p a_other_p a_input_p a_fresh_p a_freshRoots_p a_heads_p a_kept_p a_thrown a_bases a_tops o18.2 a_roots a_reached a_order a_numbers a_size a_image a_otherSize a_other a_waiting a_input a_at a_ended a_told a_many a_fresh a_freshRoots a_heads a_count a_kept) rfl ?_
      refine g_iadd F dX4_move_174 ?_
      obtain ⟨v20, ev20, hf⟩ := nmE hf
      refine g_nmi ev20 ?_
      refine g_istore (lv' := [(5, .int v20), (0, .ref a_p), (1, .int y1), (2, .int y2), (3, .int y3), (4, .int o18.1)]) F dX4_move_175 (by decide) rfl ?_
      refine g_goto (tgt := 63) F dX4_move_177 (by decide) ?_
      refine g_lv [1, 2, 3, 4, 5, 0] rfl ?_
      exact ih _ _ _ o hf E0
def f_X4_move_L183_s (y1 : Int32) (y2 : Int32) (y3 : Int32) (rc : Int32 → Int32 → (Nat → Int32) → Option (Int32 × (Nat → Int32))) (z4 : Int32) (z6 : Int32) (a_roots : (Nat → Int32)) : Option (Int32 × (Nat → Int32)) :=
  if (4 : Int32) ≤ z6 then some (z4, a_roots) else ck (inR (((4 : Int32) * y1) + z6) 8) (nm (a_roots (((4 : Int32) * y1) + z6).toNatClampNeg) fun v23 => Option.bind (f_X4_isNumber v23) fun o24 => if o24 = 0 then if v23 = 0 then nm (z6 + (1 : Int32)) fun v26 => rc z4 v26 a_roots else ck (inR (((4 : Int32) * y1) + z6) 8) (nm (z4 + (1 : Int32)) fun v28 => nm (z6 + (1 : Int32)) fun v29 => rc v28 v29 (upd a_roots (((4 : Int32) * y1) + z6).toNatClampNeg (v23 + y3))) else nm (z6 + (1 : Int32)) fun v25 => rc z4 v25 a_roots)
def f_X4_move_L183 (y1 : Int32) (y2 : Int32) (y3 : Int32) : Nat → Int32 → Int32 → (Nat → Int32) → Option (Int32 × (Nat → Int32))
  | 0, _, _, _ => none
  | n + 1, z4, z6, a_roots => f_X4_move_L183_s y1 y2 y3 (f_X4_move_L183 y1 y2 y3 n) z4 z6 a_roots
set_option maxHeartbeats 4000000 in
theorem w_X4_move_L183 {p : Program} {l : Launch} {e : Env} {s : State} {m : MethodId} {args : Array Value} {below : List Frame} {meth : Method} {c : Code} {A : Nat → Prop} {Q : State → Prop} {dC : Nat → ClassId} {dI : Nat → Nat → Nat} {cI cJ cH : ClassId} {a_p a_bases_p a_tops_p a_words_p a_roots_p a_order_p a_numbers_p a_image_p a_other_p a_input_p a_fresh_p a_freshRoots_p a_heads_p a_kept_p : Nat} {a_thrown : Int32} {a_bases : (Nat → Int32)} {a_tops : (Nat → Int32)} {a_words : (Nat → Int32)} {a_reached : Int32} {a_order : (Nat → Int32)} {a_numbers : (Nat → Int32)} {a_size : Int32} {a_image : (Nat → Int32)} {a_otherSize : Int32} {a_other : (Nat → Int32)} {a_waiting : Int32} {a_input : (Nat → Int32)} {a_at : Int32} {a_ended : Int32} {a_told : Int32} {a_many : Int32} {a_fresh : (Nat → Int32)} {a_freshRoots : (Nat → Int32)} {a_heads : (Nat → Int32)} {a_count : Int64} {a_kept : (Nat → Int32)} {y1 : Int32} {y2 : Int32} {y3 : Int32} (F : gF p m c cX4_move 8 s args wsX4_move yX4_move.cls (dC, dI) vwCl (gT cI cJ cH) A) (hN : ∀ w ∈ gN, va_Nw w s) : ∀ (n : Nat) (z4 : Int32) (z6 : Int32) (a_roots : (Nat → Int32)) (o : (Int32 × (Nat → Int32))), f_X4_move_L183 y1 y2 y3 n z4 z6 a_roots = some o → (gW p l e rm_X4_move s m args below meth c 0 0 Q (dC, dI) vwCl A 8 (wMd cI a_p a_bases_p a_tops_p a_words_p a_roots_p a_order_p a_numbers_p a_image_p a_other_p a_input_p a_fresh_p a_freshRoots_p a_heads_p a_kept_p a_thrown a_bases a_tops a_words o.2 a_reached a_order a_numbers a_size a_image a_otherSize a_other a_waiting a_input a_at a_ended a_told a_many a_fresh a_freshRoots a_heads a_count a_kept) [(0, .ref a_p), (1, .int y1), (2, .int y2), (3, .int y3), (4, .int o.1)] 239 []) → gW p l e rm_X4_move s m args below meth c 0 0 Q (dC, dI) vwCl A 8 (wMd cI a_p a_bases_p a_tops_p a_words_p a_roots_p a_order_p a_numbers_p a_image_p a_other_p a_input_p a_fresh_p a_freshRoots_p a_heads_p a_kept_p a_thrown a_bases a_tops a_words a_roots a_reached a_order a_numbers a_size a_image a_otherSize a_other a_waiting a_input a_at a_ended a_told a_many a_fresh a_freshRoots a_heads a_count a_kept) [(0, .ref a_p), (1, .int y1), (2, .int y2), (3, .int y3), (4, .int z4), (6, .int z6)] 183 [] := by
  intro n
  induction n with
  | zero =>
    intro z4 z6 a_roots o hf E0
    change none = some o at hf
    cases hf
  | succ n ih =>
    intro z4 z6 a_roots o hf E0
    change f_X4_move_L183_s y1 y2 y3 (f_X4_move_L183 y1 y2 y3 n) z4 z6 a_roots = some o at hf
    unfold f_X4_move_L183_s at hf
    refine g_iload F dX4_move_183 5 rfl ?_
    refine g_iconst (v := 4) F dX4_move_185 rfl ?_
    refine g_icmp_ge (tgt := 239) F dX4_move_186 (by decide) (fun c186 => ?_) (fun c186 => ?_)
    · have hf := iteT hf c186
      cases hf
      refine g_lv [0, 1, 2, 3, 4] rfl ?_
      exact E0
    · have hf := iteF hf c186
      refine g_aload_n F dX4_move_189 rfl 0 rfl ?_
      refine g_get F h_X4_move_4 0 rfl rfl 4 (by decide) (by decide +kernel) rfl dX4_move_190 ?_
      refine g_iconst (v := 4) F dX4_move_193 rfl ?_
      refine g_iload_n F dX4_move_194 rfl 1 rfl ?_
      refine g_imul F dX4_move_195 ?_
      refine g_iload F dX4_move_196 5 rfl ?_
      refine g_iadd F dX4_move_198 ?_
      obtain ⟨h22, hf⟩ := ckE hf
      refine g_iald F 4 0 rfl rfl h22 dX4_move_199 ?_
      obtain ⟨v23, ev23, hf⟩ := nmE hf
      refine g_nmi ev23 ?_
      refine g_istore (lv' := [(7, .int v23), (0, .ref a_p), (1, .int y1), (2, .int y2), (3, .int y3), (4, .int z4), (6, .int z6)]) F dX4_move_200 (by decide) rfl ?_
      refine g_iload F dX4_move_202 0 rfl ?_
      obtain ⟨o24, ho24, hf⟩ := bnE hf
      refine g_callSi (n := 1) (As := [.int v23]) F (c_X4_isNumber l dC dI cI cJ cH v23 o24 ho24) ggX4_move_X4_isNumber rfl rfl rfl (by decide +kernel) (by decide +kernel) (by decide +kernel) (by decide +kernel) ⟨Nat.le_of_ble_eq_true rfl, Nat.le_of_ble_eq_true rfl⟩ ⟨Nat.le_of_ble_eq_true rfl, Nat.le_of_ble_eq_true rfl⟩ hN [] rfl rfl (fun _ => rfl) rfl (Nat.le_of_ble_eq_true rfl) rfl dX4_move_204 (cells' := 0) (slots' := 0) rfl rfl (fun r u hp => ?_)
      subst hp
      refine g_ws (ws' := wMd cI a_p a_bases_p a_tops_p a_words_p a_roots_p a_order_p a_numbers_p a_image_p a_other_p a_input_p a_fresh_p a_freshRoots_p a_heads_p a_kept_p a_thrown a_bases a_tops a_words a_roots a_reached a_order a_numbers a_size a_image a_otherSize a_other a_waiting a_input a_at a_ended a_told a_many a_fresh a_freshRoots a_heads a_count a_kept) rfl ?_
      refine g_if_ne (tgt := 233) F dX4_move_207 (by decide) (fun c207 => ?_) (fun c207 => ?_)
      · have hf := iteF hf c207
        obtain ⟨v25, ev25, hf⟩ := nmE hf
        refine g_iinc (j := 6) (lv' := [(6, .int v25), (7, .int v23), (0, .ref a_p), (1, .int y1), (2, .int y2), (3, .int y3), (4, .int z4)]) F dX4_move_233 rfl ev25.symm (by decide) rfl ?_
        refine g_goto (tgt := 183) F dX4_move_236 (by decide) ?_
        refine g_lv [2, 3, 4, 5, 6, 0] rfl ?_
        exact ih _ _ _ o hf E0
      · have hf := iteT hf c207
        refine g_iload F dX4_move_210 0 rfl ?_
        refine g_if_eq (tgt := 233) F dX4_move_212 (by decide) (fun c212 => ?_) (fun c212 => ?_)
        · have hf := iteT hf c212
          obtain ⟨v26, ev26, hf⟩ := nmE hf
          refine g_iinc (j := 6) (lv' := [(6, .int v26), (7, .int v23), (0, .ref a_p), (1, .int y1), (2, .int y2), (3, .int y3), (4, .int z4)]) F dX4_move_233 rfl ev26.symm (by decide) rfl ?_
          refine g_goto (tgt := 183) F dX4_move_236 (by decide) ?_
          refine g_lv [2, 3, 4, 5, 6, 0] rfl ?_
          exact ih _ _ _ o hf E0
        · have hf := iteF hf c212
          refine g_aload_n F dX4_move_215 rfl 1 rfl ?_
          refine g_get F h_X4_move_4 0 rfl rfl 4 (by decide) (by decide +kernel) rfl dX4_move_216 ?_
          refine g_iconst (v := 4) F dX4_move_219 rfl ?_
          refine g_iload_n F dX4_move_220 rfl 2 rfl ?_
          refine g_imul F dX4_move_221 ?_
          refine g_iload F dX4_move_222 6 rfl ?_
          refine g_iadd F dX4_move_224 ?_
          refine g_iload F dX4_move_225 0 rfl ?_
          refine g_iload_n F dX4_move_227 rfl 4 rfl ?_
          refine g_iadd F dX4_move_228 ?_
          obtain ⟨h27, hf⟩ := ckE hf
          refine g_iast F 4 0 rfl rfl h27 dX4_move_229 (ws' := wMd cI a_p a_bases_p a_tops_p a_words_p a_roots_p a_order_p a_numbers_p a_image_p a_other_p a_input_p a_fresh_p a_freshRoots_p a_heads_p a_kept_p a_thrown a_bases a_tops a_words (upd a_roots (((4 : Int32) * y1) + z6).toNatClampNeg (v23 + y3)) a_reached a_order a_numbers a_size a_image a_otherSize a_other a_waiting a_input a_at a_ended a_told a_many a_fresh a_freshRoots a_heads a_count a_kept) rfl ?_
          obtain ⟨v28, ev28, hf⟩ := nmE hf
          refine g_iinc (j := 5) (lv' := [(4, .int v28), (7, .int v23), (0, .ref a_p), (1, .int y1), (2, .int y2), (3, .int y3), (6, .int z6)]) F dX4_move_230 rfl ev28.symm (by decide) rfl ?_
          obtain ⟨v29, ev29, hf⟩ := nmE hf
          refine g_iinc (j := 6) (lv' := [(6, .int v29), (4, .int v28), (7, .int v23), (0, .ref a_p), (1, .int y1), (2, .int y2), (3, .int y3)]) F dX4_move_233 rfl ev29.symm (by decide) rfl ?_
          refine g_goto (tgt := 183) F dX4_move_236 (by decide) ?_
          refine g_lv [3, 4, 5, 6, 1, 0] rfl ?_
          exact ih _ _ _ o hf E0
def f_X4_move (a_thrown : Int32) (a_bases : (Nat → Int32)) (a_tops : (Nat → Int32)) (a_words : (Nat → Int32)) (a_roots : (Nat → Int32)) (x1 : Int32) (x2 : Int32) : Option (Int32 × Int32 × (Nat → Int32) × (Nat → Int32) × (Nat → Int32)) :=
  Option.bind (f_X4_isHeap x1) fun o1 => Option.bind (α := Int32) (if o1 = 0 then some (1 : Int32) else Option.bind (f_X4_isBase x2) fun o32 => if o32 = 0 then some (2 : Int32) else Option.bind (f_X4_firstFault a_bases a_tops a_words a_roots x1) fun o33 => if o33 ≤ 0 then some (0 : Int32) else some (3 : Int32)) fun j2 => if j2 ≤ 0 then ck (inR x1 2) (nm (x2 - (a_bases x1.toNatClampNeg)) fun v4 => Option.bind (f_X4_move_L63 a_tops x1 x2 v4 FU (0 : Int32) (0 : Int32) a_words) fun o21 => Option.bind (f_X4_move_L183 x1 x2 v4 FU o21.1 (0 : Int32) a_roots) fun o30 => ck (inR x1 2) (if v4 = 0 then some ((0 : Int32), j2, upd a_bases x1.toNatClampNeg x2, o21.2, o30.2) else some (o30.1, j2, upd a_bases x1.toNatClampNeg x2, o21.2, o30.2))) else some ((0 : Int32), j2, a_bases, a_words, a_roots)
set_option maxHeartbeats 4000000 in
set_option maxRecDepth 100000 in
theorem c_X4_move (l : Launch) (dC : Nat → ClassId) (dI : Nat → Nat → Nat) (cI cJ cH : ClassId) (a_p a_bases_p a_tops_p a_words_p a_roots_p a_order_p a_numbers_p a_image_p a_other_p a_input_p a_fresh_p a_freshRoots_p a_heads_p a_kept_p : Nat)  (a_thrown : Int32) (a_bases : (Nat → Int32)) (a_tops : (Nat → Int32)) (a_words : (Nat → Int32)) (a_roots : (Nat → Int32)) (a_reached : Int32) (a_order : (Nat → Int32)) (a_numbers : (Nat → Int32)) (a_size : Int32) (a_image : (Nat → Int32)) (a_otherSize : Int32) (a_other : (Nat → Int32)) (a_waiting : Int32) (a_input : (Nat → Int32)) (a_at : Int32) (a_ended : Int32) (a_told : Int32) (a_many : Int32) (a_fresh : (Nat → Int32)) (a_freshRoots : (Nat → Int32)) (a_heads : (Nat → Int32)) (a_count : Int64) (a_kept : (Nat → Int32)) (x1 : Int32) (x2 : Int32) (o : (Int32 × Int32 × (Nat → Int32) × (Nat → Int32) × (Nat → Int32))) (hf : f_X4_move a_thrown a_bases a_tops a_words a_roots x1 x2 = some o) : ∀ sz : Nat, Met l yX4_move wsX4_move rm_X4_move (gPre [.ref a_p, .int x1, .int x2] (dC, dI) vwCl (gT cI cJ cH) (wMd cI a_p a_bases_p a_tops_p a_words_p a_roots_p a_order_p a_numbers_p a_image_p a_other_p a_input_p a_fresh_p a_freshRoots_p a_heads_p a_kept_p a_thrown a_bases a_tops a_words a_roots a_reached a_order a_numbers a_size a_image a_otherSize a_other a_waiting a_input a_at a_ended a_told a_many a_fresh a_freshRoots a_heads a_count a_kept) sz) (va_Qi (fun (r : Int32) (u : (Int32 × (Nat → Int32) × (Nat → Int32) × (Nat → Int32))) => o.1 = r ∧ o.2 = u) (gB (dC, dI) vwCl (gT cI cJ cH) (fun (u : (Int32 × (Nat → Int32) × (Nat → Int32) × (Nat → Int32))) => wMd cI a_p a_bases_p a_tops_p a_words_p a_roots_p a_order_p a_numbers_p a_image_p a_other_p a_input_p a_fresh_p a_freshRoots_p a_heads_p a_kept_p u.1 u.2.1 a_tops u.2.2.1 u.2.2.2 a_reached a_order a_numbers a_size a_image a_otherSize a_other a_waiting a_input a_at a_ended a_told a_many a_fresh a_freshRoots a_heads a_count a_kept) (va_A (wMd cI a_p a_bases_p a_tops_p a_words_p a_roots_p a_order_p a_numbers_p a_image_p a_other_p a_input_p a_fresh_p a_freshRoots_p a_heads_p a_kept_p a_thrown a_bases a_tops a_words a_roots a_reached a_order a_numbers a_size a_image a_otherSize a_other a_waiting a_input a_at a_ended a_told a_many a_fresh a_freshRoots a_heads a_count a_kept) sz)) (va_A (wMd cI a_p a_bases_p a_tops_p a_words_p a_roots_p a_order_p a_numbers_p a_image_p a_other_p a_input_p a_fresh_p a_freshRoots_p a_heads_p a_kept_p a_thrown a_bases a_tops a_words a_roots a_reached a_order a_numbers a_size a_image a_otherSize a_other a_waiting a_input a_at a_ended a_told a_many a_fresh a_freshRoots a_heads a_count a_kept) sz)) 0 0 (va_A (wMd cI a_p a_bases_p a_tops_p a_words_p a_roots_p a_order_p a_numbers_p a_image_p a_other_p a_input_p a_fresh_p a_freshRoots_p a_heads_p a_kept_p a_thrown a_bases a_tops a_words a_roots a_reached a_order a_numbers a_size a_image a_otherSize a_other a_waiting a_input a_at a_ended a_told a_many a_fresh a_freshRoots a_heads a_count a_kept) sz) := by
  refine g_met (fun A => va_Qi (fun (r : Int32) (u : (Int32 × (Nat → Int32) × (Nat → Int32) × (Nat → Int32))) => o.1 = r ∧ o.2 = u) (gB (dC, dI) vwCl (gT cI cJ cH) (fun (u : (Int32 × (Nat → Int32) × (Nat → Int32) × (Nat → Int32))) => wMd cI a_p a_bases_p a_tops_p a_words_p a_roots_p a_order_p a_numbers_p a_image_p a_other_p a_input_p a_fresh_p a_freshRoots_p a_heads_p a_kept_p u.1 u.2.1 a_tops u.2.2.1 u.2.2.2 a_reached a_order a_numbers a_size a_image a_otherSize a_other a_waiting a_input a_at a_ended a_told a_many a_fresh a_freshRoots a_heads a_count a_kept) A) A) (by decide) rfl (Nat.le_of_ble_eq_true rfl) ?_
  intro p e s m args below meth c A Q F hlocks hr hname hN hQ
  unfold f_X4_move at hf
  refine g_lvE (lv' := [(0, .ref a_p), (1, .int x1), (2, .int x2)]) rfl ?_
  refine g_aload_n F dX4_move_0 rfl 0 rfl ?_
  refine g_iload_n F dX4_move_1 rfl 1 rfl ?_
  obtain ⟨o1, ho1, hf⟩ := bnE hf
  refine g_callSi (n := 1) (As := [.int x1]) F (c_X4_isHeap l dC dI cI cJ cH x1 o1 ho1) ggX4_move_X4_isHeap rfl rfl rfl (by decide +kernel) (by decide +kernel) (by decide +kernel) (by decide +kernel) ⟨Nat.le_of_ble_eq_true rfl, Nat.le_of_ble_eq_true rfl⟩ ⟨Nat.le_of_ble_eq_true rfl, Nat.le_of_ble_eq_true rfl⟩ hN [] rfl rfl (fun _ => rfl) rfl (Nat.le_of_ble_eq_true rfl) rfl dX4_move_2 (cells' := 0) (slots' := 0) rfl rfl (fun r u hp => ?_)
  subst hp
  refine g_ws (ws' := wMd cI a_p a_bases_p a_tops_p a_words_p a_roots_p a_order_p a_numbers_p a_image_p a_other_p a_input_p a_fresh_p a_freshRoots_p a_heads_p a_kept_p a_thrown a_bases a_tops a_words a_roots a_reached a_order a_numbers a_size a_image a_otherSize a_other a_waiting a_input a_at a_ended a_told a_many a_fresh a_freshRoots a_heads a_count a_kept) rfl ?_
  obtain ⟨j2, hj2, hf⟩ := bnE hf
  have Kj2 : gW p l e rm_X4_move s m args below meth c 0 0 Q (dC, dI) vwCl A 8 (wMd cI a_p a_bases_p a_tops_p a_words_p a_roots_p a_order_p a_numbers_p a_image_p a_other_p a_input_p a_fresh_p a_freshRoots_p a_heads_p a_kept_p a_thrown a_bases a_tops a_words a_roots a_reached a_order a_numbers a_size a_image a_otherSize a_other a_waiting a_input a_at a_ended a_told a_many a_fresh a_freshRoots a_heads a_count a_kept) [(0, .ref a_p), (1, .int x1), (2, .int x2)] 36 [.int j2, .ref a_p] := by
    refine g_put F h_X4_move_4 tyX4 tyX4_ok nmX4 0 rfl rfl 0 (by decide) (by decide +kernel) rfl rfl rfl (Nat.le_of_ble_eq_true rfl) dX4_move_36 (ws' := wMd cI a_p a_bases_p a_tops_p a_words_p a_roots_p a_order_p a_numbers_p a_image_p a_other_p a_input_p a_fresh_p a_freshRoots_p a_heads_p a_kept_p j2 a_bases a_tops a_words a_roots a_reached a_order a_numbers a_size a_image a_otherSize a_other a_waiting a_input a_at a_ended a_told a_many a_fresh a_freshRoots a_heads a_count a_kept) rfl ?_
    refine g_aload_n F dX4_move_39 rfl 0 rfl ?_
    refine g_get F h_X4_move_4 0 rfl rfl 0 (by decide) (by decide +kernel) rfl dX4_move_40 ?_
    refine g_if_le (tgt := 48) F dX4_move_43 (by decide) (fun c43 => ?_) (fun c43 => ?_)
    · have hf := iteT hf c43
      refine g_iload_n F dX4_move_48 rfl 2 rfl ?_
      refine g_aload_n F dX4_move_49 rfl 0 rfl ?_
      refine g_get F h_X4_move_4 0 rfl rfl 1 (by decide) (by decide +kernel) rfl dX4_move_50 ?_
      refine g_iload_n F dX4_move_53 rfl 1 rfl ?_
      obtain ⟨h3, hf⟩ := ckE hf
      refine g_iald F 1 0 rfl rfl h3 dX4_move_54 ?_
      refine g_isub F dX4_move_55 ?_
      obtain ⟨v4, ev4, hf⟩ := nmE hf
      refine g_nmi ev4 ?_
      refine g_istore_n (lv' := [(3, .int v4), (0, .ref a_p), (1, .int x1), (2, .int x2)]) F dX4_move_56 rfl (by decide) rfl ?_
      refine g_iconst (v := 0) F dX4_move_57 rfl ?_
      refine g_istore (lv' := [(4, .int (0 : Int32)), (3, .int v4), (0, .ref a_p), (1, .int x1), (2, .int x2)]) F dX4_move_58 (by decide) rfl ?_
      refine g_iconst (v := 0) F dX4_move_60 rfl ?_
      refine g_istore (lv' := [(5, .int (0 : Int32)), (4, .int (0 : Int32)), (3, .int v4), (0, .ref a_p), (1, .int x1), (2, .int x2)]) F dX4_move_61 (by decide) rfl ?_
      obtain ⟨o21, ho21, hf⟩ := bnE hf
      refine g_lv [3, 4, 5, 2, 1, 0] rfl ?_
      refine w_X4_move_L63 F hN FU _ _ _ o21 ho21 ?_
      refine g_iconst (v := 0) F dX4_move_180 rfl ?_
      refine g_istore (lv' := [(6, .int (0 : Int32)), (0, .ref a_p), (1, .int x1), (2, .int x2), (3, .int v4), (4, .int o21.1)]) F dX4_move_181 (by decide) rfl ?_
      obtain ⟨o30, ho30, hf⟩ := bnE hf
      refine g_lv [1, 2, 3, 4, 5, 0] rfl ?_
      refine w_X4_move_L183 F hN FU _ _ _ o30 ho30 ?_
      refine g_aload_n F dX4_move_239 rfl 0 rfl ?_
      refine g_get F h_X4_move_4 0 rfl rfl 1 (by decide) (by decide +kernel) rfl dX4_move_240 ?_
      refine g_iload_n F dX4_move_243 rfl 1 rfl ?_
      refine g_iload_n F dX4_move_244 rfl 2 rfl ?_
      obtain ⟨h31, hf⟩ := ckE hf
      refine g_iast F 1 0 rfl rfl h31 dX4_move_245 (ws' := wMd cI a_p a_bases_p a_tops_p a_words_p a_roots_p a_order_p a_numbers_p a_image_p a_other_p a_input_p a_fresh_p a_freshRoots_p a_heads_p a_kept_p j2 (upd a_bases x1.toNatClampNeg x2) a_tops o21.2 o30.2 a_reached a_order a_numbers a_size a_image a_otherSize a_other a_waiting a_input a_at a_ended a_told a_many a_fresh a_freshRoots a_heads a_count a_kept) rfl ?_
      refine g_iload_n F dX4_move_246 rfl 3 rfl ?_
      refine g_if_ne (tgt := 254) F dX4_move_247 (by decide) (fun c247 => ?_) (fun c247 => ?_)
      · have hf := iteF hf c247
        refine g_iload F dX4_move_254 4 rfl ?_
        subst hQ
        exact g_iret F hlocks hr (j2, upd a_bases x1.toNatClampNeg x2, o21.2, o30.2) rfl (pr2 (Option.some.inj hf)) dX4_move_256
      · have hf := iteT hf c247
        refine g_iconst (v := 0) F dX4_move_250 rfl ?_
        refine g_goto (tgt := 256) F dX4_move_251 (by decide) ?_
        subst hQ
        exact g_iret F hlocks hr (j2, upd a_bases x1.toNatClampNeg x2, o21.2, o30.2) rfl (pr2 (Option.some.inj hf)) dX4_move_256
    · have hf := iteF hf c43
      refine g_iconst (v := 0) F dX4_move_46 rfl ?_
      subst hQ
      exact g_iret F hlocks hr (j2, a_bases, a_words, a_roots) rfl (pr2 (Option.some.inj hf)) dX4_move_47
  clear hf
  have hf := hj2
  refine g_if_ne (tgt := 12) F dX4_move_5 (by decide) (fun c5 => ?_) (fun c5 => ?_)
  · have hf := iteF hf c5
    refine g_iload_n F dX4_move_12 rfl 2 rfl ?_
    obtain ⟨o32, ho32, hf⟩ := bnE hf
    refine g_callSi (n := 1) (As := [.int x2]) F (c_X4_isBase l dC dI cI cJ cH x2 o32 ho32) ggX4_move_X4_isBase rfl rfl rfl (by decide +kernel) (by decide +kernel) (by decide +kernel) (by decide +kernel) ⟨Nat.le_of_ble_eq_true rfl, Nat.le_of_ble_eq_true rfl⟩ ⟨Nat.le_of_ble_eq_true rfl, Nat.le_of_ble_eq_true rfl⟩ hN [] rfl rfl (fun _ => rfl) rfl (Nat.le_of_ble_eq_true rfl) rfl dX4_move_13 (cells' := 0) (slots' := 0) rfl rfl (fun r u hp => ?_)
    subst hp
    refine g_ws (ws' := wMd cI a_p a_bases_p a_tops_p a_words_p a_roots_p a_order_p a_numbers_p a_image_p a_other_p a_input_p a_fresh_p a_freshRoots_p a_heads_p a_kept_p a_thrown a_bases a_tops a_words a_roots a_reached a_order a_numbers a_size a_image a_otherSize a_other a_waiting a_input a_at a_ended a_told a_many a_fresh a_freshRoots a_heads a_count a_kept) rfl ?_
    refine g_if_ne (tgt := 23) F dX4_move_16 (by decide) (fun c16 => ?_) (fun c16 => ?_)
    · have hf := iteF hf c16
      refine g_aload_n F dX4_move_23 rfl 0 rfl ?_
      refine g_iload_n F dX4_move_24 rfl 1 rfl ?_
      obtain ⟨o33, ho33, hf⟩ := bnE hf
      refine g_callPi (n := 1) (As := [.int x1]) F (c_X4_firstFault l dC dI cI cJ cH a_p a_bases_p a_tops_p a_words_p a_roots_p a_order_p a_numbers_p a_image_p a_other_p a_input_p a_fresh_p a_freshRoots_p a_heads_p a_kept_p a_thrown a_bases a_tops a_words a_roots a_reached a_order a_numbers a_size a_image a_otherSize a_other a_waiting a_input a_at a_ended a_told a_many a_fresh a_freshRoots a_heads a_count a_kept x1 o33 ho33) ggX4_move_X4_firstFault rfl rfl rfl (by decide +kernel) (by decide +kernel) (by decide +kernel) (by decide +kernel) (by decide +kernel) ⟨Nat.le_of_ble_eq_true rfl, Nat.le_of_ble_eq_true rfl⟩ ⟨Nat.le_of_ble_eq_true rfl, Nat.le_of_ble_eq_true rfl⟩ hN 0 rfl rfl rfl ([]) ([]) rfl (fun _ => rfl) rfl (Nat.le_of_ble_eq_true rfl) rfl dX4_move_25 (cells' := 0) (slots' := 0) rfl rfl (fun r u hp => ?_)
      subst hp
      refine g_ws (ws' := wMd cI a_p a_bases_p a_tops_p a_words_p a_roots_p a_order_p a_numbers_p a_image_p a_other_p a_input_p a_fresh_p a_freshRoots_p a_heads_p a_kept_p a_thrown a_bases a_tops a_words a_roots a_reached a_order a_numbers a_size a_image a_otherSize a_other a_waiting a_input a_at a_ended a_told a_many a_fresh a_freshRoots a_heads a_count a_kept) rfl ?_
      refine g_if_le (tgt := 35) F dX4_move_28 (by decide) (fun c28 => ?_) (fun c28 => ?_)
      · have hf := iteT hf c28
        refine g_iconst (v := 0) F dX4_move_35 rfl ?_
        cases hf
        refine g_lv [0, 1, 2] rfl ?_
        exact Kj2
      · have hf := iteF hf c28
        refine g_iconst (v := 3) F dX4_move_31 rfl ?_
        refine g_goto (tgt := 36) F dX4_move_32 (by decide) ?_
        cases hf
        refine g_lv [0, 1, 2] rfl ?_
        exact Kj2
    · have hf := iteT hf c16
      refine g_iconst (v := 2) F dX4_move_19 rfl ?_
      refine g_goto (tgt := 36) F dX4_move_20 (by decide) ?_
      cases hf
      refine g_lv [0, 1, 2] rfl ?_
      exact Kj2
  · have hf := iteT hf c5
    refine g_iconst (v := 1) F dX4_move_8 rfl ?_
    refine g_goto (tgt := 36) F dX4_move_9 (by decide) ?_
    cases hf
    refine g_lv [0, 1, 2] rfl ?_
    exact Kj2

/-! HeapImagesModel.come(II)V -/
def rm_X4_come : Room := { frames := 1, cells := 0, slots := 0, locals := 20 }
theorem h_X4_come_4 : ∀ w ∈ wsX40, w ∈ wsX4_come := by decide +kernel
def f_X4_come (a_bases : (Nat → Int32)) (a_reached : Int32) (a_order : (Nat → Int32)) (a_numbers : (Nat → Int32)) (x1 : Int32) (x2 : Int32) : Option (Int32 × (Nat → Int32) × (Nat → Int32)) :=
  Option.bind (f_X4_isNumber x2) fun o1 => if o1 = 0 then if x2 = 0 then some (a_reached, a_order, a_numbers) else ck (inR x1 2) (nm ((x2 - (a_bases x1.toNatClampNeg)) / (4 : Int32)) fun v3 => ck (inR v3 256) (if 0 ≤ (a_numbers v3.toNatClampNeg) then some (a_reached, a_order, a_numbers) else ck (inR v3 256) (ck (inR a_reached 256) (some (a_reached + (1 : Int32), upd a_order a_reached.toNatClampNeg v3, upd a_numbers v3.toNatClampNeg a_reached))))) else some (a_reached, a_order, a_numbers)
set_option maxHeartbeats 4000000 in
set_option maxRecDepth 100000 in
theorem c_X4_come (l : Launch) (dC : Nat → ClassId) (dI : Nat → Nat → Nat) (cI cJ cH : ClassId) (a_p a_bases_p a_tops_p a_words_p a_roots_p a_order_p a_numbers_p a_image_p a_other_p a_input_p a_fresh_p a_freshRoots_p a_heads_p a_kept_p : Nat)  (a_thrown : Int32) (a_bases : (Nat → Int32)) (a_tops : (Nat → Int32)) (a_words : (Nat → Int32)) (a_roots : (Nat → Int32)) (a_reached : Int32) (a_order : (Nat → Int32)) (a_numbers : (Nat → Int32)) (a_size : Int32) (a_image : (Nat → Int32)) (a_otherSize : Int32) (a_other : (Nat → Int32)) (a_waiting : Int32) (a_input : (Nat → Int32)) (a_at : Int32) (a_ended : Int32) (a_told : Int32) (a_many : Int32) (a_fresh : (Nat → Int32)) (a_freshRoots : (Nat → Int32)) (a_heads : (Nat → Int32)) (a_count : Int64) (a_kept : (Nat → Int32)) (x1 : Int32) (x2 : Int32) (o : (Int32 × (Nat → Int32) × (Nat → Int32))) (hf : f_X4_come a_bases a_reached a_order a_numbers x1 x2 = some o) : ∀ sz : Nat, Met l yX4_come wsX4_come rm_X4_come (gPre [.ref a_p, .int x1, .int x2] (dC, dI) vwCl (gT cI cJ cH) (wMd cI a_p a_bases_p a_tops_p a_words_p a_roots_p a_order_p a_numbers_p a_image_p a_other_p a_input_p a_fresh_p a_freshRoots_p a_heads_p a_kept_p a_thrown a_bases a_tops a_words a_roots a_reached a_order a_numbers a_size a_image a_otherSize a_other a_waiting a_input a_at a_ended a_told a_many a_fresh a_freshRoots a_heads a_count a_kept) sz) (va_Qv (fun (u : (Int32 × (Nat → Int32) × (Nat → Int32))) => o = u) (gB (dC, dI) vwCl (gT cI cJ cH) (fun (u : (Int32 × (Nat → Int32) × (Nat → Int32))) => wMd cI a_p a_bases_p a_tops_p a_words_p a_roots_p a_order_p a_numbers_p a_image_p a_other_p a_input_p a_fresh_p a_freshRoots_p a_heads_p a_kept_p a_thrown a_bases a_tops a_words a_roots u.1 u.2.1 u.2.2 a_size a_image a_otherSize a_other a_waiting a_input a_at a_ended a_told a_many a_fresh a_freshRoots a_heads a_count a_kept) (va_A (wMd cI a_p a_bases_p a_tops_p a_words_p a_roots_p a_order_p a_numbers_p a_image_p a_other_p a_input_p a_fresh_p a_freshRoots_p a_heads_p a_kept_p a_thrown a_bases a_tops a_words a_roots a_reached a_order a_numbers a_size a_image a_otherSize a_other a_waiting a_input a_at a_ended a_told a_many a_fresh a_freshRoots a_heads a_count a_kept) sz)) (va_A (wMd cI a_p a_bases_p a_tops_p a_words_p a_roots_p a_order_p a_numbers_p a_image_p a_other_p a_input_p a_fresh_p a_freshRoots_p a_heads_p a_kept_p a_thrown a_bases a_tops a_words a_roots a_reached a_order a_numbers a_size a_image a_otherSize a_other a_waiting a_input a_at a_ended a_told a_many a_fresh a_freshRoots a_heads a_count a_kept) sz)) 0 0 (va_A (wMd cI a_p a_bases_p a_tops_p a_words_p a_roots_p a_order_p a_numbers_p a_image_p a_other_p a_input_p a_fresh_p a_freshRoots_p a_heads_p a_kept_p a_thrown a_bases a_tops a_words a_roots a_reached a_order a_numbers a_size a_image a_otherSize a_other a_waiting a_input a_at a_ended a_told a_many a_fresh a_freshRoots a_heads a_count a_kept) sz) := by
  refine g_met (fun A => va_Qv (fun (u : (Int32 × (Nat → Int32) × (Nat → Int32))) => o = u) (gB (dC, dI) vwCl (gT cI cJ cH) (fun (u : (Int32 × (Nat → Int32) × (Nat → Int32))) => wMd cI a_p a_bases_p a_tops_p a_words_p a_roots_p a_order_p a_numbers_p a_image_p a_other_p a_input_p a_fresh_p a_freshRoots_p a_heads_p a_kept_p a_thrown a_bases a_tops a_words a_roots u.1 u.2.1 u.2.2 a_size a_image a_otherSize a_other a_waiting a_input a_at a_ended a_told a_many a_fresh a_freshRoots a_heads a_count a_kept) A) A) (by decide) rfl (Nat.le_of_ble_eq_true rfl) ?_
  intro p e s m args below meth c A Q F hlocks hr hname hN hQ
  unfold f_X4_come at hf
  refine g_lvE (lv' := [(0, .ref a_p), (1, .int x1), (2, .int x2)]) rfl ?_
  refine g_iload_n F dX4_come_0 rfl 2 rfl ?_
  obtain ⟨o1, ho1, hf⟩ := bnE hf
  refine g_callSi (n := 1) (As := [.int x2]) F (c_X4_isNumber l dC dI cI cJ cH x2 o1 ho1) ggX4_come_X4_isNumber rfl rfl rfl (by decide +kernel) (by decide +kernel) (by decide +kernel) (by decide +kernel) ⟨Nat.le_of_ble_eq_true rfl, Nat.le_of_ble_eq_true rfl⟩ ⟨Nat.le_of_ble_eq_true rfl, Nat.le_of_ble_eq_true rfl⟩ hN [] rfl rfl (fun _ => rfl) rfl (Nat.le_of_ble_eq_true rfl) rfl dX4_come_1 (cells' := 0) (slots' := 0) rfl rfl (fun r u hp => ?_)
  subst hp
  refine g_ws (ws' := wMd cI a_p a_bases_p a_tops_p a_words_p a_roots_p a_order_p a_numbers_p a_image_p a_other_p a_input_p a_fresh_p a_freshRoots_p a_heads_p a_kept_p a_thrown a_bases a_tops a_words a_roots a_reached a_order a_numbers a_size a_image a_otherSize a_other a_waiting a_input a_at a_ended a_told a_many a_fresh a_freshRoots a_heads a_count a_kept) rfl ?_
  refine g_if_ne (tgt := 11) F dX4_come_4 (by decide) (fun c4 => ?_) (fun c4 => ?_)
  · have hf := iteF hf c4
    subst hQ
    exact g_vret F hlocks hr (a_reached, a_order, a_numbers) rfl (Option.some.inj hf).symm dX4_come_11
  · have hf := iteT hf c4
    refine g_iload_n F dX4_come_7 rfl 2 rfl ?_
    refine g_if_ne (tgt := 12) F dX4_come_8 (by decide) (fun c8 => ?_) (fun c8 => ?_)
    · have hf := iteF hf c8
      refine g_iload_n F dX4_come_12 rfl 2 rfl ?_
      refine g_aload_n F dX4_come_13 rfl 0 rfl ?_
      refine g_get F h_X4_come_4 0 rfl rfl 1 (by decide) (by decide +kernel) rfl dX4_come_14 ?_
      refine g_iload_n F dX4_come_17 rfl 1 rfl ?_
      obtain ⟨h2, hf⟩ := ckE hf
      refine g_iald F 1 0 rfl rfl h2 dX4_come_18 ?_
      refine g_isub F dX4_come_19 ?_
      refine g_iconst (v := 4) F dX4_come_20 rfl ?_
      refine g_idiv F dX4_come_21 (by decide) ?_
      obtain ⟨v3, ev3, hf⟩ := nmE hf
      refine g_nmi ev3 ?_
      refine g_istore_n (lv' := [(3, .int v3), (0, .ref a_p), (1, .int x1), (2, .int x2)]) F dX4_come_22 rfl (by decide) rfl ?_
      refine g_aload_n F dX4_come_23 rfl 1 rfl ?_
      refine g_get F h_X4_come_4 0 rfl rfl 7 (by decide) (by decide +kernel) rfl dX4_come_24 ?_
      refine g_iload_n F dX4_come_27 rfl 0 rfl ?_
      obtain ⟨h4, hf⟩ := ckE hf
      refine g_iald F 6 0 rfl rfl h4 dX4_come_28 ?_
      refine g_if_ge (tgt := 62) F dX4_come_29 (by decide) (fun c29 => ?_) (fun c29 => ?_)
      · have hf := iteT hf c29
        subst hQ
        exact g_vret F hlocks hr (a_reached, a_order, a_numbers) rfl (Option.some.inj hf).symm dX4_come_62
      · have hf := iteF hf c29
        refine g_aload_n F dX4_come_32 rfl 1 rfl ?_
        refine g_get F h_X4_come_4 0 rfl rfl 7 (by decide) (by decide +kernel) rfl dX4_come_33 ?_
        refine g_iload_n F dX4_come_36 rfl 0 rfl ?_
        refine g_aload_n F dX4_come_37 rfl 1 rfl ?_
        refine g_get F h_X4_come_4 0 rfl rfl 5 (by decide) (by decide +kernel) rfl dX4_come_38 ?_
        obtain ⟨h5, hf⟩ := ckE hf
        refine g_iast F 6 0 rfl rfl h5 dX4_come_41 (ws' := wMd cI a_p a_bases_p a_tops_p a_words_p a_roots_p a_order_p a_numbers_p a_image_p a_other_p a_input_p a_fresh_p a_freshRoots_p a_heads_p a_kept_p a_thrown a_bases a_tops a_words a_roots a_reached a_order (upd a_numbers v3.toNatClampNeg a_reached) a_size a_image a_otherSize a_other a_waiting a_input a_at a_ended a_told a_many a_fresh a_freshRoots a_heads a_count a_kept) rfl ?_
        refine g_aload_n F dX4_come_42 rfl 1 rfl ?_
        refine g_get F h_X4_come_4 0 rfl rfl 6 (by decide) (by decide +kernel) rfl dX4_come_43 ?_
        refine g_aload_n F dX4_come_46 rfl 1 rfl ?_
        refine g_get F h_X4_come_4 0 rfl rfl 5 (by decide) (by decide +kernel) rfl dX4_come_47 ?_
        refine g_iload_n F dX4_come_50 rfl 0 rfl ?_
        obtain ⟨h6, hf⟩ := ckE hf
        refine g_iast F 5 0 rfl rfl h6 dX4_come_51 (ws' := wMd cI a_p a_bases_p a_tops_p a_words_p a_roots_p a_order_p a_numbers_p a_image_p a_other_p a_input_p a_fresh_p a_freshRoots_p a_heads_p a_kept_p a_thrown a_bases a_tops a_words a_roots a_reached (upd a_order a_reached.toNatClampNeg v3) (upd a_numbers v3.toNatClampNeg a_reached) a_size a_image a_otherSize a_other a_waiting a_input a_at a_ended a_told a_many a_fresh a_freshRoots a_heads a_count a_kept) rfl ?_
        refine g_aload_n F dX4_come_52 rfl 1 rfl ?_
        refine g_dup F dX4_come_53 rfl ?_
        refine g_get F h_X4_come_4 0 rfl rfl 5 (by decide) (by decide +kernel) rfl dX4_come_54 ?_
        refine g_iconst (v := 1) F dX4_come_57 rfl ?_
        refine g_iadd F dX4_come_58 ?_
        refine g_put F h_X4_come_4 tyX4 tyX4_ok nmX4 0 rfl rfl 5 (by decide) (by decide +kernel) rfl rfl rfl (Nat.le_of_ble_eq_true rfl) dX4_come_59 (ws' := wMd cI a_p a_bases_p a_tops_p a_words_p a_roots_p a_order_p a_numbers_p a_image_p a_other_p a_input_p a_fresh_p a_freshRoots_p a_heads_p a_kept_p a_thrown a_bases a_tops a_words a_roots (a_reached + (1 : Int32)) (upd a_order a_reached.toNatClampNeg v3) (upd a_numbers v3.toNatClampNeg a_reached) a_size a_image a_otherSize a_other a_waiting a_input a_at a_ended a_told a_many a_fresh a_freshRoots a_heads a_count a_kept) rfl ?_
        subst hQ
        exact g_vret F hlocks hr (a_reached + (1 : Int32), upd a_order a_reached.toNatClampNeg v3, upd a_numbers v3.toNatClampNeg a_reached) rfl (Option.some.inj hf).symm dX4_come_62
    · have hf := iteT hf c8
      subst hQ
      exact g_vret F hlocks hr (a_reached, a_order, a_numbers) rfl (Option.some.inj hf).symm dX4_come_11

/-! HeapImagesModel.reach(I)V -/
def rm_X4_reach : Room := { frames := 2, cells := 0, slots := 0, locals := 43 }
theorem h_X4_reach_4 : ∀ w ∈ wsX40, w ∈ wsX4_reach := by decide +kernel
def f_X4_reach_L2_s (y1 : Int32) (rc : Int32 → (Nat → Int32) → Option (Nat → Int32)) (z2 : Int32) (a_numbers : (Nat → Int32)) : Option (Nat → Int32) :=
  if (256 : Int32) ≤ z2 then some a_numbers else ck (inR z2 256) (nm (z2 + (1 : Int32)) fun v2 => rc v2 (upd a_numbers z2.toNatClampNeg (-1 : Int32)))
def f_X4_reach_L2 (y1 : Int32) : Nat → Int32 → (Nat → Int32) → Option (Nat → Int32)
  | 0, _, _ => none
  | n + 1, z2, a_numbers => f_X4_reach_L2_s y1 (f_X4_reach_L2 y1 n) z2 a_numbers
set_option maxHeartbeats 4000000 in
theorem w_X4_reach_L2 {p : Program} {l : Launch} {e : Env} {s : State} {m : MethodId} {args : Array Value} {below : List Frame} {meth : Method} {c : Code} {A : Nat → Prop} {Q : State → Prop} {dC : Nat → ClassId} {dI : Nat → Nat → Nat} {cI cJ cH : ClassId} {a_p a_bases_p a_tops_p a_words_p a_roots_p a_order_p a_numbers_p a_image_p a_other_p a_input_p a_fresh_p a_freshRoots_p a_heads_p a_kept_p : Nat} {a_thrown : Int32} {a_bases : (Nat → Int32)} {a_tops : (Nat → Int32)} {a_words : (Nat → Int32)} {a_roots : (Nat → Int32)} {a_reached : Int32} {a_order : (Nat → Int32)} {a_size : Int32} {a_image : (Nat → Int32)} {a_otherSize : Int32} {a_other : (Nat → Int32)} {a_waiting : Int32} {a_input : (Nat → Int32)} {a_at : Int32} {a_ended : Int32} {a_told : Int32} {a_many : Int32} {a_fresh : (Nat → Int32)} {a_freshRoots : (Nat → Int32)} {a_heads : (Nat → Int32)} {a_count : Int64} {a_kept : (Nat → Int32)} {y1 : Int32} (F : gF p m c cX4_reach 5 s args wsX4_reach yX4_reach.cls (dC, dI) vwCl (gT cI cJ cH) A) (hN : ∀ w ∈ gN, va_Nw w s) : ∀ (n : Nat) (z2 : Int32) (a_numbers : (Nat → Int32)) (o : (Nat → Int32)), f_X4_reach_L2 y1 n z2 a_numbers = some o → (gW p l e rm_X4_reach s m args below meth c 0 0 Q (dC, dI) vwCl A 5 (wMd cI a_p a_bases_p a_tops_p a_words_p a_roots_p a_order_p a_numbers_p a_image_p a_other_p a_input_p a_fresh_p a_freshRoots_p a_heads_p a_kept_p a_thrown a_bases a_tops a_words a_roots a_reached a_order o a_size a_image a_otherSize a_other a_waiting a_input a_at a_ended a_told a_many a_fresh a_freshRoots a_heads a_count a_kept) [(0, .ref a_p), (1, .int y1)] 22 []) → gW p l e rm_X4_reach s m args below meth c 0 0 Q (dC, dI) vwCl A 5 (wMd cI a_p a_bases_p a_tops_p a_words_p a_roots_p a_order_p a_numbers_p a_image_p a_other_p a_input_p a_fresh_p a_freshRoots_p a_heads_p a_kept_p a_thrown a_bases a_tops a_words a_roots a_reached a_order a_numbers a_size a_image a_otherSize a_other a_waiting a_input a_at a_ended a_told a_many a_fresh a_freshRoots a_heads a_count a_kept) [(0, .ref a_p), (1, .int y1), (2, .int z2)] 2 [] := by
  intro n
  induction n with
  | zero =>
    intro z2 a_numbers o hf E0
    change none = some o at hf
    cases hf
  | succ n ih =>
    intro z2 a_numbers o hf E0
    change f_X4_reach_L2_s y1 (f_X4_reach_L2 y1 n) z2 a_numbers = some o at hf
    unfold f_X4_reach_L2_s at hf
    refine g_iload_n F dX4_reach_2 rfl 2 rfl ?_
    refine g_sipush (v := 256) F dX4_reach_3 rfl ?_
    refine g_icmp_ge (tgt := 22) F dX4_reach_6 (by decide) (fun c6 => ?_) (fun c6 => ?_)
    · have hf := iteT hf c6
      cases hf
      refine g_lv [0, 1] rfl ?_
      exact E0
    · have hf := iteF hf c6
      refine g_aload_n F dX4_reach_9 rfl 0 rfl ?_
      refine g_get F h_X4_reach_4 0 rfl rfl 7 (by decide) (by decide +kernel) rfl dX4_reach_10 ?_
      refine g_iload_n F dX4_reach_13 rfl 2 rfl ?_
      refine g_iconst (v := -1) F dX4_reach_14 rfl ?_
      obtain ⟨h1, hf⟩ := ckE hf
      refine g_iast F 6 0 rfl rfl h1 dX4_reach_15 (ws' := wMd cI a_p a_bases_p a_tops_p a_words_p a_roots_p a_order_p a_numbers_p a_image_p a_other_p a_input_p a_fresh_p a_freshRoots_p a_heads_p a_kept_p a_thrown a_bases a_tops a_words a_roots a_reached a_order (upd a_numbers z2.toNatClampNeg (-1 : Int32)) a_size a_image a_otherSize a_other a_waiting a_input a_at a_ended a_told a_many a_fresh a_freshRoots a_heads a_count a_kept) rfl ?_
      obtain ⟨v2, ev2, hf⟩ := nmE hf
      refine g_iinc (j := 2) (lv' := [(2, .int v2), (0, .ref a_p), (1, .int y1)]) F dX4_reach_16 rfl ev2.symm (by decide) rfl ?_
      refine g_goto (tgt := 2) F dX4_reach_19 (by decide) ?_
      refine g_lv [1, 2, 0] rfl ?_
      exact ih _ _ o hf E0
def f_X4_reach_L29_s (a_bases : (Nat → Int32)) (a_roots : (Nat → Int32)) (y1 : Int32) (rc : Int32 → Int32 → (Nat → Int32) → (Nat → Int32) → Option (Int32 × (Nat → Int32) × (Nat → Int32))) (z2 : Int32) (a_reached : Int32) (a_order : (Nat → Int32)) (a_numbers : (Nat → Int32)) : Option (Int32 × (Nat → Int32) × (Nat → Int32)) :=
  if (4 : Int32) ≤ z2 then some (a_reached, a_order, a_numbers) else ck (inR (((4 : Int32) * y1) + z2) 8) (Option.bind (f_X4_come a_bases a_reached a_order a_numbers y1 (a_roots (((4 : Int32) * y1) + z2).toNatClampNeg)) fun o5 => nm (z2 + (1 : Int32)) fun v6 => rc v6 o5.1 o5.2.1 o5.2.2)
def f_X4_reach_L29 (a_bases : (Nat → Int32)) (a_roots : (Nat → Int32)) (y1 : Int32) : Nat → Int32 → Int32 → (Nat → Int32) → (Nat → Int32) → Option (Int32 × (Nat → Int32) × (Nat → Int32))
  | 0, _, _, _, _ => none
  | n + 1, z2, a_reached, a_order, a_numbers => f_X4_reach_L29_s a_bases a_roots y1 (f_X4_reach_L29 a_bases a_roots y1 n) z2 a_reached a_order a_numbers
set_option maxHeartbeats 4000000 in
theorem w_X4_reach_L29 {p : Program} {l : Launch} {e : Env} {s : State} {m : MethodId} {args : Array Value} {below : List Frame} {meth : Method} {c : Code} {A : Nat → Prop} {Q : State → Prop} {dC : Nat → ClassId} {dI : Nat → Nat → Nat} {cI cJ cH : ClassId} {a_p a_bases_p a_tops_p a_words_p a_roots_p a_order_p a_numbers_p a_image_p a_other_p a_input_p a_fresh_p a_freshRoots_p a_heads_p a_kept_p : Nat} {a_thrown : Int32} {a_bases : (Nat → Int32)} {a_tops : (Nat → Int32)} {a_words : (Nat → Int32)} {a_roots : (Nat → Int32)} {a_size : Int32} {a_image : (Nat → Int32)} {a_otherSize : Int32} {a_other : (Nat → Int32)} {a_waiting : Int32} {a_input : (Nat → Int32)} {a_at : Int32} {a_ended : Int32} {a_told : Int32} {a_many : Int32} {a_fresh : (Nat → Int32)} {a_freshRoots : (Nat → Int32)} {a_heads : (Nat → Int32)} {a_count : Int64} {a_kept : (Nat → Int32)} {y1 : Int32} (F : gF p m c cX4_reach 5 s args wsX4_reach yX4_reach.cls (dC, dI) vwCl (gT cI cJ cH) A) (hN : ∀ w ∈ gN, va_Nw w s) : ∀ (n : Nat) (z2 : Int32) (a_reached : Int32) (a_order : (Nat → Int32)) (a_numbers : (Nat → Int32)) (o : (Int32 × (Nat → Int32) × (Nat → Int32))), f_X4_reach_L29 a_bases a_roots y1 n z2 a_reached a_order a_numbers = some o → (gW p l e rm_X4_reach s m args below meth c 0 0 Q (dC, dI) vwCl A 5 (wMd cI a_p a_bases_p a_tops_p a_words_p a_roots_p a_order_p a_numbers_p a_image_p a_other_p a_input_p a_fresh_p a_freshRoots_p a_heads_p a_kept_p a_thrown a_bases a_tops a_words a_roots o.1 o.2.1 o.2.2 a_size a_image a_otherSize a_other a_waiting a_input a_at a_ended a_told a_many a_fresh a_freshRoots a_heads a_count a_kept) [(0, .ref a_p), (1, .int y1)] 55 []) → gW p l e rm_X4_reach s m args below meth c 0 0 Q (dC, dI) vwCl A 5 (wMd cI a_p a_bases_p a_tops_p a_words_p a_roots_p a_order_p a_numbers_p a_image_p a_other_p a_input_p a_fresh_p a_freshRoots_p a_heads_p a_kept_p a_thrown a_bases a_tops a_words a_roots a_reached a_order a_numbers a_size a_image a_otherSize a_other a_waiting a_input a_at a_ended a_told a_many a_fresh a_freshRoots a_heads a_count a_kept) [(0, .ref a_p), (1, .int y1), (2, .int z2)] 29 [] := by
  intro n
  induction n with
  | zero =>
    intro z2 a_reached a_order a_numbers o hf E0
    change none = some o at hf
    cases hf
  | succ n ih =>
    intro z2 a_reached a_order a_numbers o hf E0
    change f_X4_reach_L29_s a_bases a_roots y1 (f_X4_reach_L29 a_bases a_roots y1 n) z2 a_reached a_order a_numbers = some o at hf
    unfold f_X4_reach_L29_s at hf
    refine g_iload_n F dX4_reach_29 rfl 2 rfl ?_
    refine g_iconst (v := 4) F dX4_reach_30 rfl ?_
    refine g_icmp_ge (tgt := 55) F dX4_reach_31 (by decide) (fun c31 => ?_) (fun c31 => ?_)
    · have hf := iteT hf c31
      cases hf
      refine g_lv [0, 1] rfl ?_
      exact E0
    · have hf := iteF hf c31
      refine g_aload_n F dX4_reach_34 rfl 0 rfl ?_
      refine g_iload_n F dX4_reach_35 rfl 1 rfl ?_
      refine g_aload_n F dX4_reach_36 rfl 0 rfl ?_
      refine g_get F h_X4_reach_4 0 rfl rfl 4 (by decide) (by decide +kernel) rfl dX4_reach_37 ?_
      refine g_iconst (v := 4) F dX4_reach_40 rfl ?_
      refine g_iload_n F dX4_reach_41 rfl 1 rfl ?_
      refine g_imul F dX4_reach_42 ?_
      refine g_iload_n F dX4_reach_43 rfl 2 rfl ?_
      refine g_iadd F dX4_reach_44 ?_
      obtain ⟨h4, hf⟩ := ckE hf
      refine g_iald F 4 0 rfl rfl h4 dX4_reach_45 ?_
      obtain ⟨o5, ho5, hf⟩ := bnE hf
      refine g_callPv (n := 2) (As := [.int y1, .int (a_roots (((4 : Int32) * y1) + z2).toNatClampNeg)]) F (c_X4_come l dC dI cI cJ cH a_p a_bases_p a_tops_p a_words_p a_roots_p a_order_p a_numbers_p a_image_p a_other_p a_input_p a_fresh_p a_freshRoots_p a_heads_p a_kept_p a_thrown a_bases a_tops a_words a_roots a_reached a_order a_numbers a_size a_image a_otherSize a_other a_waiting a_input a_at a_ended a_told a_many a_fresh a_freshRoots a_heads a_count a_kept y1 (a_roots (((4 : Int32) * y1) + z2).toNatClampNeg) o5 ho5) ggX4_reach_X4_come rfl rfl rfl (by decide +kernel) (by decide +kernel) (by decide +kernel) (by decide +kernel) (by decide +kernel) ⟨Nat.le_of_ble_eq_true rfl, Nat.le_of_ble_eq_true rfl⟩ ⟨Nat.le_of_ble_eq_true rfl, Nat.le_of_ble_eq_true rfl⟩ hN 0 rfl rfl rfl ([]) ([]) rfl (fun _ => rfl) rfl (Nat.le_of_ble_eq_true rfl) rfl dX4_reach_46 (cells' := 0) (slots' := 0) rfl rfl (fun u hp => ?_)
      subst hp
      refine g_ws (ws' := wMd cI a_p a_bases_p a_tops_p a_words_p a_roots_p a_order_p a_numbers_p a_image_p a_other_p a_input_p a_fresh_p a_freshRoots_p a_heads_p a_kept_p a_thrown a_bases a_tops a_words a_roots o5.1 o5.2.1 o5.2.2 a_size a_image a_otherSize a_other a_waiting a_input a_at a_ended a_told a_many a_fresh a_freshRoots a_heads a_count a_kept) rfl ?_
      obtain ⟨v6, ev6, hf⟩ := nmE hf
      refine g_iinc (j := 2) (lv' := [(2, .int v6), (0, .ref a_p), (1, .int y1)]) F dX4_reach_49 rfl ev6.symm (by decide) rfl ?_
      refine g_goto (tgt := 29) F dX4_reach_52 (by decide) ?_
      refine g_lv [1, 2, 0] rfl ?_
      exact ih _ _ _ _ o hf E0
def f_X4_reach_L75_s (a_bases : (Nat → Int32)) (a_words : (Nat → Int32)) (y1 : Int32) (y2 : Int32) (y3 : Int32) (rc : Int32 → Int32 → (Nat → Int32) → (Nat → Int32) → Option (Int32 × (Nat → Int32) × (Nat → Int32))) (z4 : Int32) (a_reached : Int32) (a_order : (Nat → Int32)) (a_numbers : (Nat → Int32)) : Option (Int32 × (Nat → Int32) × (Nat → Int32)) :=
  Option.bind (f_X4_slotsAt a_words y1 y3) fun o10 => if o10 ≤ z4 then some (a_reached, a_order, a_numbers) else Option.bind (f_X4_kindAt a_words y1 y3) fun o11 => if o11 = (2 : Int32) then some (a_reached, a_order, a_numbers) else ck (inR (((((256 : Int32) * y1) + y3) + (1 : Int32)) + z4) 512) (Option.bind (f_X4_come a_bases a_reached a_order a_numbers y1 (a_words (((((256 : Int32) * y1) + y3) + (1 : Int32)) + z4).toNatClampNeg)) fun o13 => nm (z4 + (1 : Int32)) fun v14 => rc v14 o13.1 o13.2.1 o13.2.2)
def f_X4_reach_L75 (a_bases : (Nat → Int32)) (a_words : (Nat → Int32)) (y1 : Int32) (y2 : Int32) (y3 : Int32) : Nat → Int32 → Int32 → (Nat → Int32) → (Nat → Int32) → Option (Int32 × (Nat → Int32) × (Nat → Int32))
  | 0, _, _, _, _ => none
  | n + 1, z4, a_reached, a_order, a_numbers => f_X4_reach_L75_s a_bases a_words y1 y2 y3 (f_X4_reach_L75 a_bases a_words y1 y2 y3 n) z4 a_reached a_order a_numbers
set_option maxHeartbeats 4000000 in
theorem w_X4_reach_L75 {p : Program} {l : Launch} {e : Env} {s : State} {m : MethodId} {args : Array Value} {below : List Frame} {meth : Method} {c : Code} {A : Nat → Prop} {Q : State → Prop} {dC : Nat → ClassId} {dI : Nat → Nat → Nat} {cI cJ cH : ClassId} {a_p a_bases_p a_tops_p a_words_p a_roots_p a_order_p a_numbers_p a_image_p a_other_p a_input_p a_fresh_p a_freshRoots_p a_heads_p a_kept_p : Nat} {a_thrown : Int32} {a_bases : (Nat → Int32)} {a_tops : (Nat → Int32)} {a_words : (Nat → Int32)} {a_roots : (Nat → Int32)} {a_size : Int32} {a_image : (Nat → Int32)} {a_otherSize : Int32} {a_other : (Nat → Int32)} {a_waiting : Int32} {a_input : (Nat → Int32)} {a_at : Int32} {a_ended : Int32} {a_told : Int32} {a_many : Int32} {a_fresh : (Nat → Int32)} {a_freshRoots : (Nat → Int32)} {a_heads : (Nat → Int32)} {a_count : Int64} {a_kept : (Nat → Int32)} {y1 : Int32} {y2 : Int32} {y3 : Int32} (F : gF p m c cX4_reach 5 s args wsX4_reach yX4_reach.cls (dC, dI) vwCl (gT cI cJ cH) A) (hN : ∀ w ∈ gN, va_Nw w s) : ∀ (n : Nat) (z4 : Int32) (a_reached : Int32) (a_order : (Nat → Int32)) (a_numbers : (Nat → Int32)) (o : (Int32 × (Nat → Int32) × (Nat → Int32))), f_X4_reach_L75 a_bases a_words y1 y2 y3 n z4 a_reached a_order a_numbers = some o → (gW p l e rm_X4_reach s m args below meth c 0 0 Q (dC, dI) vwCl A 5 (wMd cI a_p a_bases_p a_tops_p a_words_p a_roots_p a_order_p a_numbers_p a_image_p a_other_p a_input_p a_fresh_p a_freshRoots_p a_heads_p a_kept_p a_thrown a_bases a_tops a_words a_roots o.1 o.2.1 o.2.2 a_size a_image a_otherSize a_other a_waiting a_input a_at a_ended a_told a_many a_fresh a_freshRoots a_heads a_count a_kept) [(0, .ref a_p), (1, .int y1), (2, .int y2)] 124 []) → gW p l e rm_X4_reach s m args below meth c 0 0 Q (dC, dI) vwCl A 5 (wMd cI a_p a_bases_p a_tops_p a_words_p a_roots_p a_order_p a_numbers_p a_image_p a_other_p a_input_p a_fresh_p a_freshRoots_p a_heads_p a_kept_p a_thrown a_bases a_tops a_words a_roots a_reached a_order a_numbers a_size a_image a_otherSize a_other a_waiting a_input a_at a_ended a_told a_many a_fresh a_freshRoots a_heads a_count a_kept) [(0, .ref a_p), (1, .int y1), (2, .int y2), (3, .int y3), (4, .int z4)] 75 [] := by
  intro n
  induction n with
  | zero =>
    intro z4 a_reached a_order a_numbers o hf E0
    change none = some o at hf
    cases hf
  | succ n ih =>
    intro z4 a_reached a_order a_numbers o hf E0
    change f_X4_reach_L75_s a_bases a_words y1 y2 y3 (f_X4_reach_L75 a_bases a_words y1 y2 y3 n) z4 a_reached a_order a_numbers = some o at hf
    unfold f_X4_reach_L75_s at hf
    refine g_iload F dX4_reach_75 4 rfl ?_
    refine g_aload_n F dX4_reach_77 rfl 0 rfl ?_
    refine g_iload_n F dX4_reach_78 rfl 1 rfl ?_
    refine g_iload_n F dX4_reach_79 rfl 3 rfl ?_
    obtain ⟨o10, ho10, hf⟩ := bnE hf
    refine g_callPi (n := 2) (As := [.int y1, .int y3]) F (c_X4_slotsAt l dC dI cI cJ cH a_p a_bases_p a_tops_p a_words_p a_roots_p a_order_p a_numbers_p a_image_p a_other_p a_input_p a_fresh_p a_freshRoots_p a_heads_p a_kept_p a_thrown a_bases a_tops a_words a_roots a_reached a_order a_numbers a_size a_image a_otherSize a_other a_waiting a_input a_at a_ended a_told a_many a_fresh a_freshRoots a_heads a_count a_kept y1 y3 o10 ho10) ggX4_reach_X4_slotsAt rfl rfl rfl (by decide +kernel) (by decide +kernel) (by decide +kernel) (by decide +kernel) (by decide +kernel) ⟨Nat.le_of_ble_eq_true rfl, Nat.le_of_ble_eq_true rfl⟩ ⟨Nat.le_of_ble_eq_true rfl, Nat.le_of_ble_eq_true rfl⟩ hN 0 rfl rfl rfl ([]) ([]) rfl (fun _ => rfl) rfl (Nat.le_of_ble_eq_true rfl) rfl dX4_reach_80 (cells' := 0) (slots' := 0) rfl rfl (fun r u hp => ?_)
    subst hp
    refine g_ws (ws' := wMd cI a_p a_bases_p a_tops_p a_words_p a_roots_p a_order_p a_numbers_p a_image_p a_other_p a_input_p a_fresh_p a_freshRoots_p a_heads_p a_kept_p a_thrown a_bases a_tops a_words a_roots a_reached a_order a_numbers a_size a_image a_otherSize a_other a_waiting a_input a_at a_ended a_told a_many a_fresh a_freshRoots a_heads a_count a_kept) rfl ?_
    refine g_icmp_ge (tgt := 124) F dX4_reach_83 (by decide) (fun c83 => ?_) (fun c83 => ?_)
    · have hf := iteT hf c83
      cases hf
      refine g_lv [0, 1, 2] rfl ?_
      exact E0
    · have hf := iteF hf c83
      refine g_aload_n F dX4_reach_86 rfl 0 rfl ?_
      refine g_iload_n F dX4_reach_87 rfl 1 rfl ?_
      refine g_iload_n F dX4_reach_88 rfl 3 rfl ?_
      obtain ⟨o11, ho11, hf⟩ := bnE hf
      refine g_callPi (n := 2) (As := [.int y1, .int y3]) F (c_X4_kindAt l dC dI cI cJ cH a_p a_bases_p a_tops_p a_words_p a_roots_p a_order_p a_numbers_p a_image_p a_other_p a_input_p a_fresh_p a_freshRoots_p a_heads_p a_kept_p a_thrown a_bases a_tops a_words a_roots a_reached a_order a_numbers a_size a_image a_otherSize a_other a_waiting a_input a_at a_ended a_told a_many a_fresh a_freshRoots a_heads a_count a_kept y1 y3 o11 ho11) ggX4_reach_X4_kindAt rfl rfl rfl (by decide +kernel) (by decide +kernel) (by decide +kernel) (by decide +kernel) (by decide +kernel) ⟨Nat.le_of_ble_eq_true rfl, Nat.le_of_ble_eq_true rfl⟩ ⟨Nat.le_of_ble_eq_true rfl, Nat.le_of_ble_eq_true rfl⟩ hN 0 rfl rfl rfl ([]) ([]) rfl (fun _ => rfl) rfl (Nat.le_of_ble_eq_true rfl) rfl dX4_reach_89 (cells' := 0) (slots' := 0) rfl rfl (fun r u hp => ?_)
      subst hp
      refine g_ws (ws' := wMd cI a_p a_bases_p a_tops_p a_words_p a_roots_p a_order_p a_numbers_p a_image_p a_other_p a_input_p a_fresh_p a_freshRoots_p a_heads_p a_kept_p a_thrown a_bases a_tops a_words a_roots a_reached a_order a_numbers a_size a_image a_otherSize a_other a_waiting a_input a_at a_ended a_told a_many a_fresh a_freshRoots a_heads a_count a_kept) rfl ?_
      refine g_iconst (v := 2) F dX4_reach_92 rfl ?_
      refine g_icmp_eq (tgt := 124) F dX4_reach_93 (by decide) (fun c93 => ?_) (fun c93 => ?_)
      · have hf := iteT hf c93
        cases hf
        refine g_lv [0, 1, 2] rfl ?_
        exact E0
      · have hf := iteF hf c93
        refine g_aload_n F dX4_reach_96 rfl 0 rfl ?_
        refine g_iload_n F dX4_reach_97 rfl 1 rfl ?_
        refine g_aload_n F dX4_reach_98 rfl 0 rfl ?_
        refine g_get F h_X4_reach_4 0 rfl rfl 3 (by decide) (by decide +kernel) rfl dX4_reach_99 ?_
        refine g_sipush (v := 256) F dX4_reach_102 rfl ?_
        refine g_iload_n F dX4_reach_105 rfl 1 rfl ?_
        refine g_imul F dX4_reach_106 ?_
        refine g_iload_n F dX4_reach_107 rfl 3 rfl ?_
        refine g_iadd F dX4_reach_108 ?_
        refine g_iconst (v := 1) F dX4_reach_109 rfl ?_
        refine g_iadd F dX4_reach_110 ?_
        refine g_iload F dX4_reach_111 4 rfl ?_
        refine g_iadd F dX4_reach_113 ?_
        obtain ⟨h12, hf⟩ := ckE hf
        refine g_iald F 3 0 rfl rfl h12 dX4_reach_114 ?_
        obtain ⟨o13, ho13, hf⟩ := bnE hf
        refine g_callPv (n := 2) (As := [.int y1, .int (a_words (((((256 : Int32) * y1) + y3) + (1 : Int32)) + z4).toNatClampNeg)]) F (c_X4_come l dC dI cI cJ cH a_p a_bases_p a_tops_p a_words_p a_roots_p a_order_p a_numbers_p a_image_p a_other_p a_input_p a_fresh_p a_freshRoots_p a_heads_p a_kept_p a_thrown a_bases a_tops a_words a_roots a_reached a_order a_numbers a_size a_image a_otherSize a_other a_waiting a_input a_at a_ended a_told a_many a_fresh a_freshRoots a_heads a_count a_kept y1 (a_words (((((256 : Int32) * y1) + y3) + (1 : Int32)) + z4).toNatClampNeg) o13 ho13) ggX4_reach_X4_come rfl rfl rfl (by decide +kernel) (by decide +kernel) (by decide +kernel) (by decide +kernel) (by decide +kernel) ⟨Nat.le_of_ble_eq_true rfl, Nat.le_of_ble_eq_true rfl⟩ ⟨Nat.le_of_ble_eq_true rfl, Nat.le_of_ble_eq_true rfl⟩ hN 0 rfl rfl rfl ([]) ([]) rfl (fun _ => rfl) rfl (Nat.le_of_ble_eq_true rfl) rfl dX4_reach_115 (cells' := 0) (slots' := 0) rfl rfl (fun u hp => ?_)
        subst hp
        refine g_ws (ws' := wMd cI a_p a_bases_p a_tops_p a_words_p a_roots_p a_order_p a_numbers_p a_image_p a_other_p a_input_p a_fresh_p a_freshRoots_p a_heads_p a_kept_p a_thrown a_bases a_tops a_words a_roots o13.1 o13.2.1 o13.2.2 a_size a_image a_otherSize a_other a_waiting a_input a_at a_ended a_told a_many a_fresh a_freshRoots a_heads a_count a_kept) rfl ?_
        obtain ⟨v14, ev14, hf⟩ := nmE hf
        refine g_iinc (j := 4) (lv' := [(4, .int v14), (0, .ref a_p), (1, .int y1), (2, .int y2), (3, .int y3)]) F dX4_reach_118 rfl ev14.symm (by decide) rfl ?_
        refine g_goto (tgt := 75) F dX4_reach_121 (by decide) ?_
        refine g_lv [1, 2, 3, 4, 0] rfl ?_
        exact ih _ _ _ _ o hf E0
def f_X4_reach_L57_s (a_bases : (Nat → Int32)) (a_words : (Nat → Int32)) (y1 : Int32) (rc : Int32 → Int32 → (Nat → Int32) → (Nat → Int32) → Option (Int32 × (Nat → Int32) × (Nat → Int32))) (z2 : Int32) (a_reached : Int32) (a_order : (Nat → Int32)) (a_numbers : (Nat → Int32)) : Option (Int32 × (Nat → Int32) × (Nat → Int32)) :=
  if a_reached ≤ z2 then some (a_reached, a_order, a_numbers) else ck (inR z2 256) (nm (a_order z2.toNatClampNeg) fun v9 => Option.bind (f_X4_reach_L75 a_bases a_words y1 z2 v9 FU (0 : Int32) a_reached a_order a_numbers) fun o15 => nm (z2 + (1 : Int32)) fun v16 => rc v16 o15.1 o15.2.1 o15.2.2)
def f_X4_reach_L57 (a_bases : (Nat → Int32)) (a_words : (Nat → Int32)) (y1 : Int32) : Nat → Int32 → Int32 → (Nat → Int32) → (Nat → Int32) → Option (Int32 × (Nat → Int32) × (Nat → Int32))
  | 0, _, _, _, _ => none
  | n + 1, z2, a_reached, a_order, a_numbers => f_X4_reach_L57_s a_bases a_words y1 (f_X4_reach_L57 a_bases a_words y1 n) z2 a_reached a_order a_numbers
set_option maxHeartbeats 4000000 in
theorem w_X4_reach_L57 {p : Program} {l : Launch} {e : Env} {s : State} {m : MethodId} {args : Array Value} {below : List Frame} {meth : Method} {c : Code} {A : Nat → Prop} {Q : State → Prop} {dC : Nat → ClassId} {dI : Nat → Nat → Nat} {cI cJ cH : ClassId} {a_p a_bases_p a_tops_p a_words_p a_roots_p a_order_p a_numbers_p a_image_p a_other_p a_input_p a_fresh_p a_freshRoots_p a_heads_p a_kept_p : Nat} {a_thrown : Int32} {a_bases : (Nat → Int32)} {a_tops : (Nat → Int32)} {a_words : (Nat → Int32)} {a_roots : (Nat → Int32)} {a_size : Int32} {a_image : (Nat → Int32)} {a_otherSize : Int32} {a_other : (Nat → Int32)} {a_waiting : Int32} {a_input : (Nat → Int32)} {a_at : Int32} {a_ended : Int32} {a_told : Int32} {a_many : Int32} {a_fresh : (Nat → Int32)} {a_freshRoots : (Nat → Int32)} {a_heads : (Nat → Int32)} {a_count : Int64} {a_kept : (Nat → Int32)} {y1 : Int32} (F : gF p m c cX4_reach 5 s args wsX4_reach yX4_reach.cls (dC, dI) vwCl (gT cI cJ cH) A) (hN : ∀ w ∈ gN, va_Nw w s) : ∀ (n : Nat) (z2 : Int32) (a_reached : Int32) (a_order : (Nat → Int32)) (a_numbers : (Nat → Int32)) (o : (Int32 × (Nat → Int32) × (Nat → Int32))), f_X4_reach_L57 a_bases a_words y1 n z2 a_reached a_order a_numbers = some o → (gW p l e rm_X4_reach s m args below meth c 0 0 Q (dC, dI) vwCl A 5 (wMd cI a_p a_bases_p a_tops_p a_words_p a_roots_p a_order_p a_numbers_p a_image_p a_other_p a_input_p a_fresh_p a_freshRoots_p a_heads_p a_kept_p a_thrown a_bases a_tops a_words a_roots o.1 o.2.1 o.2.2 a_size a_image a_otherSize a_other a_waiting a_input a_at a_ended a_told a_many a_fresh a_freshRoots a_heads a_count a_kept) [] 130 []) → gW p l e rm_X4_reach s m args below meth c 0 0 Q (dC, dI) vwCl A 5 (wMd cI a_p a_bases_p a_tops_p a_words_p a_roots_p a_order_p a_numbers_p a_image_p a_other_p a_input_p a_fresh_p a_freshRoots_p a_heads_p a_kept_p a_thrown a_bases a_tops a_words a_roots a_reached a_order a_numbers a_size a_image a_otherSize a_other a_waiting a_input a_at a_ended a_told a_many a_fresh a_freshRoots a_heads a_count a_kept) [(0, .ref a_p), (1, .int y1), (2, .int z2)] 57 [] := by
  intro n
  induction n with
  | zero =>
    intro z2 a_reached a_order a_numbers o hf E0
    change none = some o at hf
    cases hf
  | succ n ih =>
    intro z2 a_reached a_order a_numbers o hf E0
    change f_X4_reach_L57_s a_bases a_words y1 (f_X4_reach_L57 a_bases a_words y1 n) z2 a_reached a_order a_numbers = some o at hf
    unfold f_X4_reach_L57_s at hf
    refine g_iload_n F dX4_reach_57 rfl 2 rfl ?_
    refine g_aload_n F dX4_reach_58 rfl 0 rfl ?_
    refine g_get F h_X4_reach_4 0 rfl rfl 5 (by decide) (by decide +kernel) rfl dX4_reach_59 ?_
    refine g_icmp_ge (tgt := 130) F dX4_reach_62 (by decide) (fun c62 => ?_) (fun c62 => ?_)
    · have hf := iteT hf c62
      cases hf
      refine g_lv [] rfl ?_
      exact E0
    · have hf := iteF hf c62
      refine g_aload_n F dX4_reach_65 rfl 0 rfl ?_
      refine g_get F h_X4_reach_4 0 rfl rfl 6 (by decide) (by decide +kernel) rfl dX4_reach_66 ?_
      refine g_iload_n F dX4_reach_69 rfl 2 rfl ?_
      obtain ⟨h8, hf⟩ := ckE hf
      refine g_iald F 5 0 rfl rfl h8 dX4_reach_70 ?_
      obtain ⟨v9, ev9, hf⟩ := nmE hf
      refine g_nmi ev9 ?_
      refine g_istore_n (lv' := [(3, .int v9), (0, .ref a_p), (1, .int y1), (2, .int z2)]) F dX4_reach_71 rfl (by decide) rfl ?_
      refine g_iconst (v := 0) F dX4_reach_72 rfl ?_
      refine g_istore (lv' := [(4, .int (0 : Int32)), (3, .int v9), (0, .ref a_p), (1, .int y1), (2, .int z2)]) F dX4_reach_73 (by decide) rfl ?_
      obtain ⟨o15, ho15, hf⟩ := bnE hf
      refine g_lv [2, 3, 4, 1, 0] rfl ?_
      refine w_X4_reach_L75 F hN FU _ _ _ _ o15 ho15 ?_
      obtain ⟨v16, ev16, hf⟩ := nmE hf
      refine g_iinc (j := 2) (lv' := [(2, .int v16), (0, .ref a_p), (1, .int y1)]) F dX4_reach_124 rfl ev16.symm (by decide) rfl ?_
      refine g_goto (tgt := 57) F dX4_reach_127 (by decide) ?_
      refine g_lv [1, 2, 0] rfl ?_
      exact ih _ _ _ _ o hf E0
def f_X4_reach (a_bases : (Nat → Int32)) (a_words : (Nat → Int32)) (a_roots : (Nat → Int32)) (a_reached : Int32) (a_order : (Nat → Int32)) (a_numbers : (Nat → Int32)) (x1 : Int32) : Option (Int32 × (Nat → Int32) × (Nat → Int32)) :=
  Option.bind (f_X4_reach_L2 x1 FU (0 : Int32) a_numbers) fun o3 => Option.bind (f_X4_reach_L29 a_bases a_roots x1 FU (0 : Int32) (0 : Int32) a_order o3) fun o7 => Option.bind (f_X4_reach_L57 a_bases a_words x1 FU (0 : Int32) o7.1 o7.2.1 o7.2.2) fun o17 => some (o17.1, o17.2.1, o17.2.2)
set_option maxHeartbeats 4000000 in
set_option maxRecDepth 100000 in
theorem c_X4_reach (l : Launch) (dC : Nat → ClassId) (dI : Nat → Nat → Nat) (cI cJ cH : ClassId) (a_p a_bases_p a_tops_p a_words_p a_roots_p a_order_p a_numbers_p a_image_p a_other_p a_input_p a_fresh_p a_freshRoots_p a_heads_p a_kept_p : Nat)  (a_thrown : Int32) (a_bases : (Nat → Int32)) (a_tops : (Nat → Int32)) (a_words : (Nat → Int32)) (a_roots : (Nat → Int32)) (a_reached : Int32) (a_order : (Nat → Int32)) (a_numbers : (Nat → Int32)) (a_size : Int32) (a_image : (Nat → Int32)) (a_otherSize : Int32) (a_other : (Nat → Int32)) (a_waiting : Int32) (a_input : (Nat → Int32)) (a_at : Int32) (a_ended : Int32) (a_told : Int32) (a_many : Int32) (a_fresh : (Nat → Int32)) (a_freshRoots : (Nat → Int32)) (a_heads : (Nat → Int32)) (a_count : Int64) (a_kept : (Nat → Int32)) (x1 : Int32) (o : (Int32 × (Nat → Int32) × (Nat → Int32))) (hf : f_X4_reach a_bases a_words a_roots a_reached a_order a_numbers x1 = some o) : ∀ sz : Nat, Met l yX4_reach wsX4_reach rm_X4_reach (gPre [.ref a_p, .int x1] (dC, dI) vwCl (gT cI cJ cH) (wMd cI a_p a_bases_p a_tops_p a_words_p a_roots_p a_order_p a_numbers_p a_image_p a_other_p a_input_p a_fresh_p a_freshRoots_p a_heads_p a_kept_p a_thrown a_bases a_tops a_words a_roots a_reached a_order a_numbers a_size a_image a_otherSize a_other a_waiting a_input a_at a_ended a_told a_many a_fresh a_freshRoots a_heads a_count a_kept) sz) (va_Qv (fun (u : (Int32 × (Nat → Int32) × (Nat → Int32))) => o = u) (gB (dC, dI) vwCl (gT cI cJ cH) (fun (u : (Int32 × (Nat → Int32) × (Nat → Int32))) => wMd cI a_p a_bases_p a_tops_p a_words_p a_roots_p a_order_p a_numbers_p a_image_p a_other_p a_input_p a_fresh_p a_freshRoots_p a_heads_p a_kept_p a_thrown a_bases a_tops a_words a_roots u.1 u.2.1 u.2.2 a_size a_image a_otherSize a_other a_waiting a_input a_at a_ended a_told a_many a_fresh a_freshRoots a_heads a_count a_kept) (va_A (wMd cI a_p a_bases_p a_tops_p a_words_p a_roots_p a_order_p a_numbers_p a_image_p a_other_p a_input_p a_fresh_p a_freshRoots_p a_heads_p a_kept_p a_thrown a_bases a_tops a_words a_roots a_reached a_order a_numbers a_size a_image a_otherSize a_other a_waiting a_input a_at a_ended a_told a_many a_fresh a_freshRoots a_heads a_count a_kept) sz)) (va_A (wMd cI a_p a_bases_p a_tops_p a_words_p a_roots_p a_order_p a_numbers_p a_image_p a_other_p a_input_p a_fresh_p a_freshRoots_p a_heads_p a_kept_p a_thrown a_bases a_tops a_words a_roots a_reached a_order a_numbers a_size a_image a_otherSize a_other a_waiting a_input a_at a_ended a_told a_many a_fresh a_freshRoots a_heads a_count a_kept) sz)) 0 0 (va_A (wMd cI a_p a_bases_p a_tops_p a_words_p a_roots_p a_order_p a_numbers_p a_image_p a_other_p a_input_p a_fresh_p a_freshRoots_p a_heads_p a_kept_p a_thrown a_bases a_tops a_words a_roots a_reached a_order a_numbers a_size a_image a_otherSize a_other a_waiting a_input a_at a_ended a_told a_many a_fresh a_freshRoots a_heads a_count a_kept) sz) := by
  refine g_met (fun A => va_Qv (fun (u : (Int32 × (Nat → Int32) × (Nat → Int32))) => o = u) (gB (dC, dI) vwCl (gT cI cJ cH) (fun (u : (Int32 × (Nat → Int32) × (Nat → Int32))) => wMd cI a_p a_bases_p a_tops_p a_words_p a_roots_p a_order_p a_numbers_p a_image_p a_other_p a_input_p a_fresh_p a_freshRoots_p a_heads_p a_kept_p a_thrown a_bases a_tops a_words a_roots u.1 u.2.1 u.2.2 a_size a_image a_otherSize a_other a_waiting a_input a_at a_ended a_told a_many a_fresh a_freshRoots a_heads a_count a_kept) A) A) (by decide) rfl (Nat.le_of_ble_eq_true rfl) ?_
  intro p e s m args below meth c A Q F hlocks hr hname hN hQ
  unfold f_X4_reach at hf
  refine g_lvE (lv' := [(0, .ref a_p), (1, .int x1)]) rfl ?_
  refine g_iconst (v := 0) F dX4_reach_0 rfl ?_
  refine g_istore_n (lv' := [(2, .int (0 : Int32)), (0, .ref a_p), (1, .int x1)]) F dX4_reach_1 rfl (by decide) rfl ?_
  obtain ⟨o3, ho3, hf⟩ := bnE hf
  refine g_lv [1, 2, 0] rfl ?_
  refine w_X4_reach_L2 F hN FU _ _ o3 ho3 ?_
  refine g_aload_n F dX4_reach_22 rfl 0 rfl ?_
  refine g_iconst (v := 0) F dX4_reach_23 rfl ?_
  refine g_put F h_X4_reach_4 tyX4 tyX4_ok nmX4 0 rfl rfl 5 (by decide) (by decide +kernel) rfl rfl rfl (Nat.le_of_ble_eq_true rfl) dX4_reach_24 (ws' := wMd cI a_p a_bases_p a_tops_p a_words_p a_roots_p a_order_p a_numbers_p a_image_p a_other_p a_input_p a_fresh_p a_freshRoots_p a_heads_p a_kept_p a_thrown a_bases a_tops a_words a_roots (0 : Int32) a_order o3 a_size a_image a_otherSize a_other a_waiting a_input a_at a_ended a_told a_many a_fresh a_freshRoots a_heads a_count a_kept) rfl ?_
  refine g_iconst (v := 0) F dX4_reach_27 rfl ?_
  refine g_istore_n (lv' := [(2, .int (0 : Int32)), (0, .ref a_p), (1, .int x1)]) F dX4_reach_28 rfl (by decide) rfl ?_
  obtain ⟨o7, ho7, hf⟩ := bnE hf
  refine g_lv [1, 2, 0] rfl ?_
  refine w_X4_reach_L29 F hN FU _ _ _ _ o7 ho7 ?_
  refine g_iconst (v := 0) F dX4_reach_55 rfl ?_
  refine g_istore_n (lv' := [(2, .int (0 : Int32)), (0, .ref a_p), (1, .int x1)]) F dX4_reach_56 rfl (by decide) rfl ?_
  obtain ⟨o17, ho17, hf⟩ := bnE hf
  refine g_lv [1, 2, 0] rfl ?_
  refine w_X4_reach_L57 F hN FU _ _ _ _ o17 ho17 ?_
  subst hQ
  exact g_vret F hlocks hr (o17.1, o17.2.1, o17.2.2) rfl (Option.some.inj hf).symm dX4_reach_130

/-! HeapImagesModel.moved(II)I -/
def rm_X4_moved : Room := { frames := 1, cells := 0, slots := 0, locals := 20 }
theorem h_X4_moved_4 : ∀ w ∈ wsX40, w ∈ wsX4_moved := by decide +kernel
def f_X4_moved (a_bases : (Nat → Int32)) (a_heads : (Nat → Int32)) (x1 : Int32) (x2 : Int32) : Option Int32 :=
  Option.bind (f_X4_isNumber x2) fun o1 => if o1 = 0 then if x2 = 0 then some x2 else ck (inR x1 2) (ck (inR x1 2) (ck (inR ((x2 - (a_bases x1.toNatClampNeg)) / (4 : Int32)) 256) (some ((a_bases x1.toNatClampNeg) + ((4 : Int32) * (a_heads ((x2 - (a_bases x1.toNatClampNeg)) / (4 : Int32)).toNatClampNeg)))))) else some x2
set_option maxHeartbeats 4000000 in
set_option maxRecDepth 100000 in
theorem c_X4_moved (l : Launch) (dC : Nat → ClassId) (dI : Nat → Nat → Nat) (cI cJ cH : ClassId) (a_p a_bases_p a_tops_p a_words_p a_roots_p a_order_p a_numbers_p a_image_p a_other_p a_input_p a_fresh_p a_freshRoots_p a_heads_p a_kept_p : Nat)  (a_thrown : Int32) (a_bases : (Nat → Int32)) (a_tops : (Nat → Int32)) (a_words : (Nat → Int32)) (a_roots : (Nat → Int32)) (a_reached : Int32) (a_order : (Nat → Int32)) (a_numbers : (Nat → Int32)) (a_size : Int32) (a_image : (Nat → Int32)) (a_otherSize : Int32) (a_other : (Nat → Int32)) (a_waiting : Int32) (a_input : (Nat → Int32)) (a_at : Int32) (a_ended : Int32) (a_told : Int32) (a_many : Int32) (a_fresh : (Nat → Int32)) (a_freshRoots : (Nat → Int32)) (a_heads : (Nat → Int32)) (a_count : Int64) (a_kept : (Nat → Int32)) (x1 : Int32) (x2 : Int32) (o : Int32) (hf : f_X4_moved a_bases a_heads x1 x2 = some o) : ∀ sz : Nat, Met l yX4_moved wsX4_moved rm_X4_moved (gPre [.ref a_p, .int x1, .int x2] (dC, dI) vwCl (gT cI cJ cH) (wMd cI a_p a_bases_p a_tops_p a_words_p a_roots_p a_order_p a_numbers_p a_image_p a_other_p a_input_p a_fresh_p a_freshRoots_p a_heads_p a_kept_p a_thrown a_bases a_tops a_words a_roots a_reached a_order a_numbers a_size a_image a_otherSize a_other a_waiting a_input a_at a_ended a_told a_many a_fresh a_freshRoots a_heads a_count a_kept) sz) (va_Qi (fun (r : Int32) (u : Unit) => o = r) (gB (dC, dI) vwCl (gT cI cJ cH) (fun (u : Unit) => wMd cI a_p a_bases_p a_tops_p a_words_p a_roots_p a_order_p a_numbers_p a_image_p a_other_p a_input_p a_fresh_p a_freshRoots_p a_heads_p a_kept_p a_thrown a_bases a_tops a_words a_roots a_reached a_order a_numbers a_size a_image a_otherSize a_other a_waiting a_input a_at a_ended a_told a_many a_fresh a_freshRoots a_heads a_count a_kept) (va_A (wMd cI a_p a_bases_p a_tops_p a_words_p a_roots_p a_order_p a_numbers_p a_image_p a_other_p a_input_p a_fresh_p a_freshRoots_p a_heads_p a_kept_p a_thrown a_bases a_tops a_words a_roots a_reached a_order a_numbers a_size a_image a_otherSize a_other a_waiting a_input a_at a_ended a_told a_many a_fresh a_freshRoots a_heads a_count a_kept) sz)) (va_A (wMd cI a_p a_bases_p a_tops_p a_words_p a_roots_p a_order_p a_numbers_p a_image_p a_other_p a_input_p a_fresh_p a_freshRoots_p a_heads_p a_kept_p a_thrown a_bases a_tops a_words a_roots a_reached a_order a_numbers a_size a_image a_otherSize a_other a_waiting a_input a_at a_ended a_told a_many a_fresh a_freshRoots a_heads a_count a_kept) sz)) 0 0 (va_A (wMd cI a_p a_bases_p a_tops_p a_words_p a_roots_p a_order_p a_numbers_p a_image_p a_other_p a_input_p a_fresh_p a_freshRoots_p a_heads_p a_kept_p a_thrown a_bases a_tops a_words a_roots a_reached a_order a_numbers a_size a_image a_otherSize a_other a_waiting a_input a_at a_ended a_told a_many a_fresh a_freshRoots a_heads a_count a_kept) sz) := by
  refine g_met (fun A => va_Qi (fun (r : Int32) (u : Unit) => o = r) (gB (dC, dI) vwCl (gT cI cJ cH) (fun (u : Unit) => wMd cI a_p a_bases_p a_tops_p a_words_p a_roots_p a_order_p a_numbers_p a_image_p a_other_p a_input_p a_fresh_p a_freshRoots_p a_heads_p a_kept_p a_thrown a_bases a_tops a_words a_roots a_reached a_order a_numbers a_size a_image a_otherSize a_other a_waiting a_input a_at a_ended a_told a_many a_fresh a_freshRoots a_heads a_count a_kept) A) A) (by decide) rfl (Nat.le_of_ble_eq_true rfl) ?_
  intro p e s m args below meth c A Q F hlocks hr hname hN hQ
  unfold f_X4_moved at hf
  refine g_lvE (lv' := [(0, .ref a_p), (1, .int x1), (2, .int x2)]) rfl ?_
  refine g_iload_n F dX4_moved_0 rfl 2 rfl ?_
  obtain ⟨o1, ho1, hf⟩ := bnE hf
  refine g_callSi (n := 1) (As := [.int x2]) F (c_X4_isNumber l dC dI cI cJ cH x2 o1 ho1) ggX4_moved_X4_isNumber rfl rfl rfl (by decide +kernel) (by decide +kernel) (by decide +kernel) (by decide +kernel) ⟨Nat.le_of_ble_eq_true rfl, Nat.le_of_ble_eq_true rfl⟩ ⟨Nat.le_of_ble_eq_true rfl, Nat.le_of_ble_eq_true rfl⟩ hN [] rfl rfl (fun _ => rfl) rfl (Nat.le_of_ble_eq_true rfl) rfl dX4_moved_1 (cells' := 0) (slots' := 0) rfl rfl (fun r u hp => ?_)
  subst hp
  refine g_ws (ws' := wMd cI a_p a_bases_p a_tops_p a_words_p a_roots_p a_order_p a_numbers_p a_image_p a_other_p a_input_p a_fresh_p a_freshRoots_p a_heads_p a_kept_p a_thrown a_bases a_tops a_words a_roots a_reached a_order a_numbers a_size a_image a_otherSize a_other a_waiting a_input a_at a_ended a_told a_many a_fresh a_freshRoots a_heads a_count a_kept) rfl ?_
  refine g_if_ne (tgt := 11) F dX4_moved_4 (by decide) (fun c4 => ?_) (fun c4 => ?_)
  · have hf := iteF hf c4
    refine g_iload_n F dX4_moved_11 rfl 2 rfl ?_
    refine g_goto (tgt := 39) F dX4_moved_12 (by decide) ?_
    subst hQ
    exact g_iret F hlocks hr () rfl (Option.some.inj hf).symm dX4_moved_39
  · have hf := iteT hf c4
    refine g_iload_n F dX4_moved_7 rfl 2 rfl ?_
    refine g_if_ne (tgt := 15) F dX4_moved_8 (by decide) (fun c8 => ?_) (fun c8 => ?_)
    · have hf := iteF hf c8
      refine g_aload_n F dX4_moved_15 rfl 0 rfl ?_
      refine g_get F h_X4_moved_4 0 rfl rfl 1 (by decide) (by decide +kernel) rfl dX4_moved_16 ?_
      refine g_iload_n F dX4_moved_19 rfl 1 rfl ?_
      obtain ⟨h2, hf⟩ := ckE hf
      refine g_iald F 1 0 rfl rfl h2 dX4_moved_20 ?_
      refine g_iconst (v := 4) F dX4_moved_21 rfl ?_
      refine g_aload_n F dX4_moved_22 rfl 0 rfl ?_
      refine g_get F h_X4_moved_4 0 rfl rfl 20 (by decide) (by decide +kernel) rfl dX4_moved_23 ?_
      refine g_iload_n F dX4_moved_26 rfl 2 rfl ?_
      refine g_aload_n F dX4_moved_27 rfl 0 rfl ?_
      refine g_get F h_X4_moved_4 0 rfl rfl 1 (by decide) (by decide +kernel) rfl dX4_moved_28 ?_
      refine g_iload_n F dX4_moved_31 rfl 1 rfl ?_
      obtain ⟨h3, hf⟩ := ckE hf
      refine g_iald F 1 0 rfl rfl h3 dX4_moved_32 ?_
      refine g_isub F dX4_moved_33 ?_
      refine g_iconst (v := 4) F dX4_moved_34 rfl ?_
      refine g_idiv F dX4_moved_35 (by decide) ?_
      obtain ⟨h4, hf⟩ := ckE hf
      refine g_iald F 12 0 rfl rfl h4 dX4_moved_36 ?_
      refine g_imul F dX4_moved_37 ?_
      refine g_iadd F dX4_moved_38 ?_
      subst hQ
      exact g_iret F hlocks hr () rfl (Option.some.inj hf).symm dX4_moved_39
    · have hf := iteT hf c8
      refine g_iload_n F dX4_moved_11 rfl 2 rfl ?_
      refine g_goto (tgt := 39) F dX4_moved_12 (by decide) ?_
      subst hQ
      exact g_iret F hlocks hr () rfl (Option.some.inj hf).symm dX4_moved_39
