/-! HeapImagesModel.nextCount()I -/
def rm_X4_nextCount : Room := { frames := 2, cells := 0, slots := 0, locals := 41 }
theorem h_X4_nextCount_4 : ∀ w ∈ wsX40, w ∈ wsX4_nextCount := by decide +kernel
def f_X4_nextCount_L18_s (a_waiting : Int32) (a_input : (Nat → Int32)) (y1 : Int32) (rc : Int64 → Int32 → Int32 → Int32 → Int32 → Int64 → Option (Int32 × Int32 × Int64)) (z2 : Int64) (z4 : Int32) (z5 : Int32) (a_at : Int32) (a_ended : Int32) (a_count : Int64) : Option (Int32 × Int32 × Int64) :=
  if z5 = 0 then some (a_at, a_ended, a_count) else if 0 ≤ a_ended then some (a_at, a_ended, a_count) else Option.bind (f_X4_nextByte a_waiting a_input a_at a_ended) fun o1 => if 0 ≤ o1.2.2 then rc z2 z4 z5 o1.2.1 o1.2.2 a_count else nm (z4 + (1 : Int32)) fun v2 => nm (z2 * (128 : Int64)) fun v3 => Option.bind (α := Int32) (if o1.1 ≤ (127 : Int32) then some (0 : Int32) else some (1 : Int32)) fun j4 => if j4 = 0 then if o1.1 = 0 then if (1 : Int32) < v2 then Option.bind (f_X4_stop o1.2.2 y1) fun o8 => rc v3 v2 j4 o1.2.1 o8 (a_count + (((o1.1 - o1.1 / (128 : Int32) * (128 : Int32)).toInt64) * z2)) else if 0 ≤ (lg_cmp (a_count + (((o1.1 - o1.1 / (128 : Int32) * (128 : Int32)).toInt64) * z2)) (8589934592 : Int64)) then Option.bind (f_X4_stop o1.2.2 y1) fun o9 => rc v3 v2 j4 o1.2.1 o9 (a_count + (((o1.1 - o1.1 / (128 : Int32) * (128 : Int32)).toInt64) * z2)) else if v2 = (6 : Int32) then Option.bind (f_X4_stop o1.2.2 y1) fun o10 => rc v3 v2 j4 o1.2.1 o10 (a_count + (((o1.1 - o1.1 / (128 : Int32) * (128 : Int32)).toInt64) * z2)) else rc v3 v2 j4 o1.2.1 o1.2.2 (a_count + (((o1.1 - o1.1 / (128 : Int32) * (128 : Int32)).toInt64) * z2)) else if 0 ≤ (lg_cmp (a_count + (((o1.1 - o1.1 / (128 : Int32) * (128 : Int32)).toInt64) * z2)) (8589934592 : Int64)) then Option.bind (f_X4_stop o1.2.2 y1) fun o6 => rc v3 v2 j4 o1.2.1 o6 (a_count + (((o1.1 - o1.1 / (128 : Int32) * (128 : Int32)).toInt64) * z2)) else if v2 = (6 : Int32) then Option.bind (f_X4_stop o1.2.2 y1) fun o7 => rc v3 v2 j4 o1.2.1 o7 (a_count + (((o1.1 - o1.1 / (128 : Int32) * (128 : Int32)).toInt64) * z2)) else rc v3 v2 j4 o1.2.1 o1.2.2 (a_count + (((o1.1 - o1.1 / (128 : Int32) * (128 : Int32)).toInt64) * z2)) else if v2 = (6 : Int32) then Option.bind (f_X4_stop o1.2.2 y1) fun o5 => rc v3 v2 j4 o1.2.1 o5 (a_count + (((o1.1 - o1.1 / (128 : Int32) * (128 : Int32)).toInt64) * z2)) else rc v3 v2 j4 o1.2.1 o1.2.2 (a_count + (((o1.1 - o1.1 / (128 : Int32) * (128 : Int32)).toInt64) * z2))
def f_X4_nextCount_L18 (a_waiting : Int32) (a_input : (Nat → Int32)) (y1 : Int32) : Nat → Int64 → Int32 → Int32 → Int32 → Int32 → Int64 → Option (Int32 × Int32 × Int64)
  | 0, _, _, _, _, _, _ => none
  | n + 1, z2, z4, z5, a_at, a_ended, a_count => f_X4_nextCount_L18_s a_waiting a_input y1 (f_X4_nextCount_L18 a_waiting a_input y1 n) z2 z4 z5 a_at a_ended a_count
set_option maxHeartbeats 4000000 in
theorem w_X4_nextCount_L18 {p : Program} {l : Launch} {e : Env} {s : State} {m : MethodId} {args : Array Value} {below : List Frame} {meth : Method} {c : Code} {A : Nat → Prop} {Q : State → Prop} {dC : Nat → ClassId} {dI : Nat → Nat → Nat} {cI cJ cH : ClassId} {a_p a_bases_p a_tops_p a_words_p a_roots_p a_order_p a_numbers_p a_image_p a_other_p a_input_p a_fresh_p a_freshRoots_p a_heads_p a_kept_p : Nat} {a_thrown : Int32} {a_bases : (Nat → Int32)} {a_tops : (Nat → Int32)} {a_words : (Nat → Int32)} {a_roots : (Nat → Int32)} {a_reached : Int32} {a_order : (Nat → Int32)} {a_numbers : (Nat → Int32)} {a_size : Int32} {a_image : (Nat → Int32)} {a_otherSize : Int32} {a_other : (Nat → Int32)} {a_waiting : Int32} {a_input : (Nat → Int32)} {a_told : Int32} {a_many : Int32} {a_fresh : (Nat → Int32)} {a_freshRoots : (Nat → Int32)} {a_heads : (Nat → Int32)} {a_kept : (Nat → Int32)} {y1 : Int32} (F : gF p m c cX4_nextCount 7 s args wsX4_nextCount yX4_nextCount.cls (dC, dI) vwCl (gT cI cJ cH) A) (hN : ∀ w ∈ gN, va_Nw w s) : ∀ (n : Nat) (z2 : Int64) (z4 : Int32) (z5 : Int32) (a_at : Int32) (a_ended : Int32) (a_count : Int64) (o : (Int32 × Int32 × Int64)), f_X4_nextCount_L18 a_waiting a_input y1 n z2 z4 z5 a_at a_ended a_count = some o → (gW p l e rm_X4_nextCount s m args below meth c 0 0 Q (dC, dI) vwCl A 7 (wMd cI a_p a_bases_p a_tops_p a_words_p a_roots_p a_order_p a_numbers_p a_image_p a_other_p a_input_p a_fresh_p a_freshRoots_p a_heads_p a_kept_p a_thrown a_bases a_tops a_words a_roots a_reached a_order a_numbers a_size a_image a_otherSize a_other a_waiting a_input o.1 o.2.1 a_told a_many a_fresh a_freshRoots a_heads o.2.2 a_kept) [(1, .int y1)] 126 []) → gW p l e rm_X4_nextCount s m args below meth c 0 0 Q (dC, dI) vwCl A 7 (wMd cI a_p a_bases_p a_tops_p a_words_p a_roots_p a_order_p a_numbers_p a_image_p a_other_p a_input_p a_fresh_p a_freshRoots_p a_heads_p a_kept_p a_thrown a_bases a_tops a_words a_roots a_reached a_order a_numbers a_size a_image a_otherSize a_other a_waiting a_input a_at a_ended a_told a_many a_fresh a_freshRoots a_heads a_count a_kept) [(0, .ref a_p), (1, .int y1), (2, .long z2), (4, .int z4), (5, .int z5)] 18 [] := by
  intro n
  induction n with
  | zero =>
    intro z2 z4 z5 a_at a_ended a_count o hf E0
    change none = some o at hf
    cases hf
  | succ n ih =>
    intro z2 z4 z5 a_at a_ended a_count o hf E0
    change f_X4_nextCount_L18_s a_waiting a_input y1 (f_X4_nextCount_L18 a_waiting a_input y1 n) z2 z4 z5 a_at a_ended a_count = some o at hf
    unfold f_X4_nextCount_L18_s at hf
    refine g_iload F dX4_nextCount_18 4 rfl ?_
    refine g_if_eq (tgt := 126) F dX4_nextCount_20 (by decide) (fun c20 => ?_) (fun c20 => ?_)
    · have hf := iteT hf c20
      cases hf
      refine g_lv [1] rfl ?_
      exact E0
    · have hf := iteF hf c20
      refine g_aload_n F dX4_nextCount_23 rfl 0 rfl ?_
      refine g_get F h_X4_nextCount_4 0 rfl rfl 15 (by decide) (by decide +kernel) rfl dX4_nextCount_24 ?_
      refine g_if_ge (tgt := 126) F dX4_nextCount_27 (by decide) (fun c27 => ?_) (fun c27 => ?_)
      · have hf := iteT hf c27
        cases hf
        refine g_lv [1] rfl ?_
        exact E0
      · have hf := iteF hf c27
        refine g_aload_n F dX4_nextCount_30 rfl 0 rfl ?_
        obtain ⟨o1, ho1, hf⟩ := bnE hf
        refine g_callPi (n := 0) (As := []) F (c_X4_nextByte l dC dI cI cJ cH a_p a_bases_p a_tops_p a_words_p a_roots_p a_order_p a_numbers_p a_image_p a_other_p a_input_p a_fresh_p a_freshRoots_p a_heads_p a_kept_p a_thrown a_bases a_tops a_words a_roots a_reached a_order a_numbers a_size a_image a_otherSize a_other a_waiting a_input a_at a_ended a_told a_many a_fresh a_freshRoots a_heads a_count a_kept o1 ho1) ggX4_nextCount_X4_nextByte rfl rfl rfl (by decide +kernel) (by decide +kernel) (by decide +kernel) (by decide +kernel) (by decide +kernel) ⟨Nat.le_of_ble_eq_true rfl, Nat.le_of_ble_eq_true rfl⟩ ⟨Nat.le_of_ble_eq_true rfl, Nat.le_of_ble_eq_true rfl⟩ hN 0 rfl rfl rfl ([]) ([]) rfl (fun _ => rfl) rfl (Nat.le_of_ble_eq_true rfl) rfl dX4_nextCount_31 (cells' := 0) (slots' := 0) rfl rfl (fun r u hp => ?_)
        obtain ⟨hp1, hp2⟩ := hp
        subst hp1
        subst hp2
        refine g_ws (ws' := wMd cI a_p a_bases_p a_tops_p a_words_p a_roots_p a_order_p a_numbers_p a_image_p a_other_p a_input_p a_fresh_p a_freshRoots_p a_heads_p a_kept_p a_thrown a_bases a_tops a_words a_roots a_reached a_order a_numbers a_size a_image a_otherSize a_other a_waiting a_input o1.2.1 o1.2.2 a_told a_many a_fresh a_freshRoots a_heads a_count a_kept) rfl ?_
        refine g_istore (lv' := [(6, .int o1.1), (0, .ref a_p), (1, .int y1), (2, .long z2), (4, .int z4), (5, .int z5)]) F dX4_nextCount_34 (by decide) rfl ?_
        refine g_aload_n F dX4_nextCount_36 rfl 1 rfl ?_
        refine g_get F h_X4_nextCount_4 0 rfl rfl 15 (by decide) (by decide +kernel) rfl dX4_nextCount_37 ?_
        refine g_if_ge (tgt := 123) F dX4_nextCount_40 (by decide) (fun c40 => ?_) (fun c40 => ?_)
        · have hf := iteT hf c40
          refine g_goto (tgt := 18) F dX4_nextCount_123 (by decide) ?_
          refine g_lv [1, 2, 3, 4, 5] rfl ?_
          exact ih _ _ _ _ _ _ o hf E0
        · have hf := iteF hf c40
          obtain ⟨v2, ev2, hf⟩ := nmE hf
          refine g_iinc (j := 4) (lv' := [(4, .int v2), (6, .int o1.1), (0, .ref a_p), (1, .int y1), (2, .long z2), (5, .int z5)]) F dX4_nextCount_43 rfl ev2.symm (by decide) rfl ?_
          refine g_aload_n F dX4_nextCount_46 rfl 2 rfl ?_
          refine g_aload_n F dX4_nextCount_47 rfl 2 rfl ?_
          refine g_get F h_X4_nextCount_4 0 rfl rfl 21 (by decide) (by decide +kernel) rfl dX4_nextCount_48 ?_
          refine g_iload F dX4_nextCount_51 1 rfl ?_
          refine g_sipush (v := 128) F dX4_nextCount_53 rfl ?_
          refine g_irem F dX4_nextCount_56 (by decide) ?_
          refine g_i2l F dX4_nextCount_57 ?_
          refine g_lload_n F dX4_nextCount_58 rfl 4 rfl ?_
          refine g_lmul F dX4_nextCount_59 ?_
          refine g_ladd F dX4_nextCount_60 ?_
          refine g_put F h_X4_nextCount_4 tyX4 tyX4_ok nmX4 0 rfl rfl 21 (by decide) (by decide +kernel) rfl rfl rfl (Nat.le_of_ble_eq_true rfl) dX4_nextCount_61 (ws' := wMd cI a_p a_bases_p a_tops_p a_words_p a_roots_p a_order_p a_numbers_p a_image_p a_other_p a_input_p a_fresh_p a_freshRoots_p a_heads_p a_kept_p a_thrown a_bases a_tops a_words a_roots a_reached a_order a_numbers a_size a_image a_otherSize a_other a_waiting a_input o1.2.1 o1.2.2 a_told a_many a_fresh a_freshRoots a_heads (a_count + (((o1.1 - o1.1 / (128 : Int32) * (128 : Int32)).toInt64) * z2)) a_kept) rfl ?_
          refine g_lload_n F dX4_nextCount_64 rfl 4 rfl ?_
          refine g_ldc2 (v := 128) F (by decide +kernel) dX4_nextCount_65 ?_
          refine g_lmul F dX4_nextCount_68 ?_
          obtain ⟨v3, ev3, hf⟩ := nmE hf
          refine g_nml ev3 ?_
          refine g_lstore_n (lv' := [(2, .long v3), (4, .int v2), (6, .int o1.1), (0, .ref a_p), (1, .int y1), (5, .int z5)]) F dX4_nextCount_69 rfl (by decide) rfl ?_
          refine g_iload F dX4_nextCount_70 2 rfl ?_
          refine g_bipush (v := 127) F dX4_nextCount_72 rfl ?_
          obtain ⟨j4, hj4, hf⟩ := bnE hf
          have Kj4 : gW p l e rm_X4_nextCount s m args below meth c 0 0 Q (dC, dI) vwCl A 7 (wMd cI a_p a_bases_p a_tops_p a_words_p a_roots_p a_order_p a_numbers_p a_image_p a_other_p a_input_p a_fresh_p a_freshRoots_p a_heads_p a_kept_p a_thrown a_bases a_tops a_words a_roots a_reached a_order a_numbers a_size a_image a_otherSize a_other a_waiting a_input o1.2.1 o1.2.2 a_told a_many a_fresh a_freshRoots a_heads (a_count + (((o1.1 - o1.1 / (128 : Int32) * (128 : Int32)).toInt64) * z2)) a_kept) [(0, .ref a_p), (1, .int y1), (2, .long v3), (4, .int v2), (6, .int o1.1)] 82 [.int j4] := by
            refine g_istore (lv' := [(5, .int j4), (0, .ref a_p), (1, .int y1), (2, .long v3), (4, .int v2), (6, .int o1.1)]) F dX4_nextCount_82 (by decide) rfl ?_
            refine g_iload F dX4_nextCount_84 0 rfl ?_
            refine g_if_ne (tgt := 111) F dX4_nextCount_86 (by decide) (fun c86 => ?_) (fun c86 => ?_)
            · have hf := iteF hf c86
              refine g_iload F dX4_nextCount_111 4 rfl ?_
              refine g_bipush (v := 6) F dX4_nextCount_113 rfl ?_
              refine g_icmp_ne (tgt := 123) F dX4_nextCount_115 (by decide) (fun c115 => ?_) (fun c115 => ?_)
              · have hf := iteF hf c115
                refine g_goto (tgt := 18) F dX4_nextCount_123 (by decide) ?_
                refine g_lv [1, 2, 3, 4, 0] rfl ?_
                exact ih _ _ _ _ _ _ o hf E0
              · have hf := iteT hf c115
                refine g_aload_n F dX4_nextCount_118 rfl 1 rfl ?_
                refine g_iload_n F dX4_nextCount_119 rfl 2 rfl ?_
                obtain ⟨o5, ho5, hf⟩ := bnE hf
                refine g_callPv (n := 1) (As := [.int y1]) F (c_X4_stop l dC dI cI cJ cH a_p a_bases_p a_tops_p a_words_p a_roots_p a_order_p a_numbers_p a_image_p a_other_p a_input_p a_fresh_p a_freshRoots_p a_heads_p a_kept_p a_thrown a_bases a_tops a_words a_roots a_reached a_order a_numbers a_size a_image a_otherSize a_other a_waiting a_input o1.2.1 o1.2.2 a_told a_many a_fresh a_freshRoots a_heads (a_count + (((o1.1 - o1.1 / (128 : Int32) * (128 : Int32)).toInt64) * z2)) a_kept y1 o5 ho5) ggX4_nextCount_X4_stop rfl rfl rfl (by decide +kernel) (by decide +kernel) (by decide +kernel) (by decide +kernel) (by decide +kernel) ⟨Nat.le_of_ble_eq_true rfl, Nat.le_of_ble_eq_true rfl⟩ ⟨Nat.le_of_ble_eq_true rfl, Nat.le_of_ble_eq_true rfl⟩ hN 0 rfl rfl rfl ([]) ([]) rfl (fun _ => rfl) rfl (Nat.le_of_ble_eq_true rfl) rfl dX4_nextCount_120 (cells' := 0) (slots' := 0) rfl rfl (fun u hp => ?_)
                subst hp
                refine g_ws (ws' := wMd cI a_p a_bases_p a_tops_p a_words_p a_roots_p a_order_p a_numbers_p a_image_p a_other_p a_input_p a_fresh_p a_freshRoots_p a_heads_p a_kept_p a_thrown a_bases a_tops a_words a_roots a_reached a_order a_numbers a_size a_image a_otherSize a_other a_waiting a_input o1.2.1 o5 a_told a_many a_fresh a_freshRoots a_heads (a_count + (((o1.1 - o1.1 / (128 : Int32) * (128 : Int32)).toInt64) * z2)) a_kept) rfl ?_
                refine g_goto (tgt := 18) F dX4_nextCount_123 (by decide) ?_
                refine g_lv [1, 2, 3, 4, 0] rfl ?_
                exact ih _ _ _ _ _ _ o hf E0
            · have hf := iteT hf c86
              refine g_iload F dX4_nextCount_89 5 rfl ?_
              refine g_if_ne (tgt := 100) F dX4_nextCount_91 (by decide) (fun c91 => ?_) (fun c91 => ?_)
              · have hf := iteF hf c91
                refine g_aload_n F dX4_nextCount_100 rfl 1 rfl ?_
                refine g_get F h_X4_nextCount_4 0 rfl rfl 21 (by decide) (by decide +kernel) rfl dX4_nextCount_101 ?_
                refine g_ldc2 (v := 8589934592) F (by decide +kernel) dX4_nextCount_104 ?_
                refine g_lcmp F dX4_nextCount_107 ?_
                refine g_if_ge (tgt := 118) F dX4_nextCount_108 (by decide) (fun c108 => ?_) (fun c108 => ?_)
                · have hf := iteT hf c108
                  refine g_aload_n F dX4_nextCount_118 rfl 1 rfl ?_
                  refine g_iload_n F dX4_nextCount_119 rfl 2 rfl ?_
                  obtain ⟨o6, ho6, hf⟩ := bnE hf
                  refine g_callPv (n := 1) (As := [.int y1]) F (c_X4_stop l dC dI cI cJ cH a_p a_bases_p a_tops_p a_words_p a_roots_p a_order_p a_numbers_p a_image_p a_other_p a_input_p a_fresh_p a_freshRoots_p a_heads_p a_kept_p a_thrown a_bases a_tops a_words a_roots a_reached a_order a_numbers a_size a_image a_otherSize a_other a_waiting a_input o1.2.1 o1.2.2 a_told a_many a_fresh a_freshRoots a_heads (a_count + (((o1.1 - o1.1 / (128 : Int32) * (128 : Int32)).toInt64) * z2)) a_kept y1 o6 ho6) ggX4_nextCount_X4_stop rfl rfl rfl (by decide +kernel) (by decide +kernel) (by decide +kernel) (by decide +kernel) (by decide +kernel) ⟨Nat.le_of_ble_eq_true rfl, Nat.le_of_ble_eq_true rfl⟩ ⟨Nat.le_of_ble_eq_true rfl, Nat.le_of_ble_eq_true rfl⟩ hN 0 rfl rfl rfl ([]) ([]) rfl (fun _ => rfl) rfl (Nat.le_of_ble_eq_true rfl) rfl dX4_nextCount_120 (cells' := 0) (slots' := 0) rfl rfl (fun u hp => ?_)
                  subst hp
                  refine g_ws (ws' := wMd cI a_p a_bases_p a_tops_p a_words_p a_roots_p a_order_p a_numbers_p a_image_p a_other_p a_input_p a_fresh_p a_freshRoots_p a_heads_p a_kept_p a_thrown a_bases a_tops a_words a_roots a_reached a_order a_numbers a_size a_image a_otherSize a_other a_waiting a_input o1.2.1 o6 a_told a_many a_fresh a_freshRoots a_heads (a_count + (((o1.1 - o1.1 / (128 : Int32) * (128 : Int32)).toInt64) * z2)) a_kept) rfl ?_
                  refine g_goto (tgt := 18) F dX4_nextCount_123 (by decide) ?_
                  refine g_lv [1, 2, 3, 4, 0] rfl ?_
                  exact ih _ _ _ _ _ _ o hf E0
                · have hf := iteF hf c108
                  refine g_iload F dX4_nextCount_111 4 rfl ?_
                  refine g_bipush (v := 6) F dX4_nextCount_113 rfl ?_
                  refine g_icmp_ne (tgt := 123) F dX4_nextCount_115 (by decide) (fun c115 => ?_) (fun c115 => ?_)
                  · have hf := iteF hf c115
                    refine g_goto (tgt := 18) F dX4_nextCount_123 (by decide) ?_
                    refine g_lv [1, 2, 3, 4, 0] rfl ?_
                    exact ih _ _ _ _ _ _ o hf E0
                  · have hf := iteT hf c115
                    refine g_aload_n F dX4_nextCount_118 rfl 1 rfl ?_
                    refine g_iload_n F dX4_nextCount_119 rfl 2 rfl ?_
                    obtain ⟨o7, ho7, hf⟩ := bnE hf
                    refine g_callPv (n := 1) (As := [.int y1]) F (c_X4_stop l dC dI cI cJ cH a_p a_bases_p a_tops_p a_words_p a_roots_p a_order_p a_numbers_p a_image_p a_other_p a_input_p a_fresh_p a_freshRoots_p a_heads_p a_kept_p a_thrown a_bases a_tops a_words a_roots a_reached a_order a_numbers a_size a_image a_otherSize a_other a_waiting a_input o1.2.1 o1.2.2 a_told a_many a_fresh a_freshRoots a_heads (a_count + (((o1.1 - o1.1 / (128 : Int32) * (128 : Int32)).toInt64) * z2)) a_kept y1 o7 ho7) ggX4_nextCount_X4_stop rfl rfl rfl (by decide +kernel) (by decide +kernel) (by decide +kernel) (by decide +kernel) (by decide +kernel) ⟨Nat.le_of_ble_eq_true rfl, Nat.le_of_ble_eq_true rfl⟩ ⟨Nat.le_of_ble_eq_true rfl, Nat.le_of_ble_eq_true rfl⟩ hN 0 rfl rfl rfl ([]) ([]) rfl (fun _ => rfl) rfl (Nat.le_of_ble_eq_true rfl) rfl dX4_nextCount_120 (cells' := 0) (slots' := 0) rfl rfl (fun u hp => ?_)
                    subst hp
                    refine g_ws (ws' := wMd cI a_p a_bases_p a_tops_p a_words_p a_roots_p a_order_p a_numbers_p a_image_p a_other_p a_input_p a_fresh_p a_freshRoots_p a_heads_p a_kept_p a_thrown a_bases a_tops a_words a_roots a_reached a_order a_numbers a_size a_image a_otherSize a_other a_waiting a_input o1.2.1 o7 a_told a_many a_fresh a_freshRoots a_heads (a_count + (((o1.1 - o1.1 / (128 : Int32) * (128 : Int32)).toInt64) * z2)) a_kept) rfl ?_
                    refine g_goto (tgt := 18) F dX4_nextCount_123 (by decide) ?_
                    refine g_lv [1, 2, 3, 4, 0] rfl ?_
                    exact ih _ _ _ _ _ _ o hf E0
              · have hf := iteT hf c91
                refine g_iload F dX4_nextCount_94 4 rfl ?_
                refine g_iconst (v := 1) F dX4_nextCount_96 rfl ?_
                refine g_icmp_gt (tgt := 118) F dX4_nextCount_97 (by decide) (fun c97 => ?_) (fun c97 => ?_)
                · have hf := iteT hf c97
                  refine g_aload_n F dX4_nextCount_118 rfl 1 rfl ?_
                  refine g_iload_n F dX4_nextCount_119 rfl 2 rfl ?_
                  obtain ⟨o8, ho8, hf⟩ := bnE hf
                  refine g_callPv (n := 1) (As := [.int y1]) F (c_X4_stop l dC dI cI cJ cH a_p a_bases_p a_tops_p a_words_p a_roots_p a_order_p a_numbers_p a_image_p a_other_p a_input_p a_fresh_p a_freshRoots_p a_heads_p a_kept_p a_thrown a_bases a_tops a_words a_roots a_reached a_order a_numbers a_size a_image a_otherSize a_other a_waiting a_input o1.2.1 o1.2.2 a_told a_many a_fresh a_freshRoots a_heads (a_count + (((o1.1 - o1.1 / (128 : Int32) * (128 : Int32)).toInt64) * z2)) a_kept y1 o8 ho8) ggX4_nextCount_X4_stop rfl rfl rfl (by decide +kernel) (by decide +kernel) (by decide +kernel) (by decide +kernel) (by decide +kernel) ⟨Nat.le_of_ble_eq_true rfl, Nat.le_of_ble_eq_true rfl⟩ ⟨Nat.le_of_ble_eq_true rfl, Nat.le_of_ble_eq_true rfl⟩ hN 0 rfl rfl rfl ([]) ([]) rfl (fun _ => rfl) rfl (Nat.le_of_ble_eq_true rfl) rfl dX4_nextCount_120 (cells' := 0) (slots' := 0) rfl rfl (fun u hp => ?_)
                  subst hp
                  refine g_ws (ws' := wMd cI a_p a_bases_p a_tops_p a_words_p a_roots_p a_order_p a_numbers_p a_image_p a_other_p a_input_p a_fresh_p a_freshRoots_p a_heads_p a_kept_p a_thrown a_bases a_tops a_words a_roots a_reached a_order a_numbers a_size a_image a_otherSize a_other a_waiting a_input o1.2.1 o8 a_told a_many a_fresh a_freshRoots a_heads (a_count + (((o1.1 - o1.1 / (128 : Int32) * (128 : Int32)).toInt64) * z2)) a_kept) rfl ?_
                  refine g_goto (tgt := 18) F dX4_nextCount_123 (by decide) ?_
                  refine g_lv [1, 2, 3, 4, 0] rfl ?_
                  exact ih _ _ _ _ _ _ o hf E0
                · have hf := iteF hf c97
                  refine g_aload_n F dX4_nextCount_100 rfl 1 rfl ?_
                  refine g_get F h_X4_nextCount_4 0 rfl rfl 21 (by decide) (by decide +kernel) rfl dX4_nextCount_101 ?_
                  refine g_ldc2 (v := 8589934592) F (by decide +kernel) dX4_nextCount_104 ?_
                  refine g_lcmp F dX4_nextCount_107 ?_
                  refine g_if_ge (tgt := 118) F dX4_nextCount_108 (by decide) (fun c108 => ?_) (fun c108 => ?_)
                  · have hf := iteT hf c108
                    refine g_aload_n F dX4_nextCount_118 rfl 1 rfl ?_
                    refine g_iload_n F dX4_nextCount_119 rfl 2 rfl ?_
                    obtain ⟨o9, ho9, hf⟩ := bnE hf
                    refine g_callPv (n := 1) (As := [.int y1]) F (c_X4_stop l dC dI cI cJ cH a_p a_bases_p a_tops_p a_words_p a_roots_p a_order_p a_numbers_p a_image_p a_other_p a_input_p a_fresh_p a_freshRoots_p a_heads_p a_kept_p a_thrown a_bases a_tops a_words a_roots a_reached a_order a_numbers a_size a_image a_otherSize a_other a_waiting a_input o1.2.1 o1.2.2 a_told a_many a_fresh a_freshRoots a_heads (a_count + (((o1.1 - o1.1 / (128 : Int32) * (128 : Int32)).toInt64) * z2)) a_kept y1 o9 ho9) ggX4_nextCount_X4_stop rfl rfl rfl (by decide +kernel) (by decide +kernel) (by decide +kernel) (by decide +kernel) (by decide +kernel) ⟨Nat.le_of_ble_eq_true rfl, Nat.le_of_ble_eq_true rfl⟩ ⟨Nat.le_of_ble_eq_true rfl, Nat.le_of_ble_eq_true rfl⟩ hN 0 rfl rfl rfl ([]) ([]) rfl (fun _ => rfl) rfl (Nat.le_of_ble_eq_true rfl) rfl dX4_nextCount_120 (cells' := 0) (slots' := 0) rfl rfl (fun u hp => ?_)
                    subst hp
                    refine g_ws (ws' := wMd cI a_p a_bases_p a_tops_p a_words_p a_roots_p a_order_p a_numbers_p a_image_p a_other_p a_input_p a_fresh_p a_freshRoots_p a_heads_p a_kept_p a_thrown a_bases a_tops a_words a_roots a_reached a_order a_numbers a_size a_image a_otherSize a_other a_waiting a_input o1.2.1 o9 a_told a_many a_fresh a_freshRoots a_heads (a_count + (((o1.1 - o1.1 / (128 : Int32) * (128 : Int32)).toInt64) * z2)) a_kept) rfl ?_
                    refine g_goto (tgt := 18) F dX4_nextCount_123 (by decide) ?_
                    refine g_lv [1, 2, 3, 4, 0] rfl ?_
                    exact ih _ _ _ _ _ _ o hf E0
                  · have hf := iteF hf c108
                    refine g_iload F dX4_nextCount_111 4 rfl ?_
                    refine g_bipush (v := 6) F dX4_nextCount_113 rfl ?_
                    refine g_icmp_ne (tgt := 123) F dX4_nextCount_115 (by decide) (fun c115 => ?_) (fun c115 => ?_)
                    · have hf := iteF hf c115
                      refine g_goto (tgt := 18) F dX4_nextCount_123 (by decide) ?_
                      refine g_lv [1, 2, 3, 4, 0] rfl ?_
                      exact ih _ _ _ _ _ _ o hf E0
                    · have hf := iteT hf c115
                      refine g_aload_n F dX4_nextCount_118 rfl 1 rfl ?_
                      refine g_iload_n F dX4_nextCount_119 rfl 2 rfl ?_
                      obtain ⟨o10, ho10, hf⟩ := bnE hf
                      refine g_callPv (n := 1) (As := [.int y1]) F (c_X4_stop l dC dI cI cJ cH a_p a_bases_p a_tops_p a_words_p a_roots_p a_order_p a_numbers_p a_image_p a_other_p a_input_p a_fresh_p a_freshRoots_p a_heads_p a_kept_p a_thrown a_bases a_tops a_words a_roots a_reached a_order a_numbers a_size a_image a_otherSize a_other a_waiting a_input o1.2.1 o1.2.2 a_told a_many a_fresh a_freshRoots a_heads (a_count + (((o1.1 - o1.1 / (128 : Int32) * (128 : Int32)).toInt64) * z2)) a_kept y1 o10 ho10) ggX4_nextCount_X4_stop rfl rfl rfl (by decide +kernel) (by decide +kernel) (by decide +kernel) (by decide +kernel) (by decide +kernel) ⟨Nat.le_of_ble_eq_true rfl, Nat.le_of_ble_eq_true rfl⟩ ⟨Nat.le_of_ble_eq_true rfl, Nat.le_of_ble_eq_true rfl⟩ hN 0 rfl rfl rfl ([]) ([]) rfl (fun _ => rfl) rfl (Nat.le_of_ble_eq_true rfl) rfl dX4_nextCount_120 (cells' := 0) (slots' := 0) rfl rfl (fun u hp => ?_)
                      subst hp
                      refine g_ws (ws' := wMd cI a_p a_bases_p a_tops_p a_words_p a_roots_p a_order_p a_numbers_p a_image_p a_other_p a_input_p a_fresh_p a_freshRoots_p a_heads_p a_kept_p a_thrown a_bases a_tops a_words a_roots a_reached a_order a_numbers a_size a_image a_otherSize a_other a_waiting a_input o1.2.1 o10 a_told a_many a_fresh a_freshRoots a_heads (a_count + (((o1.1 - o1.1 / (128 : Int32) * (128 : Int32)).toInt64) * z2)) a_kept) rfl ?_
                      refine g_goto (tgt := 18) F dX4_nextCount_123 (by decide) ?_
                      refine g_lv [1, 2, 3, 4, 0] rfl ?_
                      exact ih _ _ _ _ _ _ o hf E0
          clear hf
          have hf := hj4
          refine g_icmp_le (tgt := 81) F dX4_nextCount_74 (by decide) (fun c74 => ?_) (fun c74 => ?_)
          · have hf := iteT hf c74
            refine g_iconst (v := 0) F dX4_nextCount_81 rfl ?_
            cases hf
            refine g_lv [3, 4, 0, 1, 2] rfl ?_
            exact Kj4
          · have hf := iteF hf c74
            refine g_iconst (v := 1) F dX4_nextCount_77 rfl ?_
            refine g_goto (tgt := 82) F dX4_nextCount_78 (by decide) ?_
            cases hf
            refine g_lv [3, 4, 0, 1, 2] rfl ?_
            exact Kj4
def f_X4_nextCount (a_waiting : Int32) (a_input : (Nat → Int32)) (a_at : Int32) (a_ended : Int32) (a_count : Int64) : Option (Int32 × Int32 × Int32 × Int64) :=
  Option.bind (f_X4_nextCount_L18 a_waiting a_input a_at FU (1 : Int64) (0 : Int32) (1 : Int32) a_at a_ended (0 : Int64)) fun o11 => some (a_at, o11.1, o11.2.1, o11.2.2)
set_option maxHeartbeats 4000000 in
set_option maxRecDepth 100000 in
theorem c_X4_nextCount (l : Launch) (dC : Nat → ClassId) (dI : Nat → Nat → Nat) (cI cJ cH : ClassId) (a_p a_bases_p a_tops_p a_words_p a_roots_p a_order_p a_numbers_p a_image_p a_other_p a_input_p a_fresh_p a_freshRoots_p a_heads_p a_kept_p : Nat)  (a_thrown : Int32) (a_bases : (Nat → Int32)) (a_tops : (Nat → Int32)) (a_words : (Nat → Int32)) (a_roots : (Nat → Int32)) (a_reached : Int32) (a_order : (Nat → Int32)) (a_numbers : (Nat → Int32)) (a_size : Int32) (a_image : (Nat → Int32)) (a_otherSize : Int32) (a_other : (Nat → Int32)) (a_waiting : Int32) (a_input : (Nat → Int32)) (a_at : Int32) (a_ended : Int32) (a_told : Int32) (a_many : Int32) (a_fresh : (Nat → Int32)) (a_freshRoots : (Nat → Int32)) (a_heads : (Nat → Int32)) (a_count : Int64) (a_kept : (Nat → Int32))  (o : (Int32 × Int32 × Int32 × Int64)) (hf : f_X4_nextCount a_waiting a_input a_at a_ended a_count = some o) : ∀ sz : Nat, Met l yX4_nextCount wsX4_nextCount rm_X4_nextCount (gPre [.ref a_p] (dC, dI) vwCl (gT cI cJ cH) (wMd cI a_p a_bases_p a_tops_p a_words_p a_roots_p a_order_p a_numbers_p a_image_p a_other_p a_input_p a_fresh_p a_freshRoots_p a_heads_p a_kept_p a_thrown a_bases a_tops a_words a_roots a_reached a_order a_numbers a_size a_image a_otherSize a_other a_waiting a_input a_at a_ended a_told a_many a_fresh a_freshRoots a_heads a_count a_kept) sz) (va_Qi (fun (r : Int32) (u : (Int32 × Int32 × Int64)) => o.1 = r ∧ o.2 = u) (gB (dC, dI) vwCl (gT cI cJ cH) (fun (u : (Int32 × Int32 × Int64)) => wMd cI a_p a_bases_p a_tops_p a_words_p a_roots_p a_order_p a_numbers_p a_image_p a_other_p a_input_p a_fresh_p a_freshRoots_p a_heads_p a_kept_p a_thrown a_bases a_tops a_words a_roots a_reached a_order a_numbers a_size a_image a_otherSize a_other a_waiting a_input u.1 u.2.1 a_told a_many a_fresh a_freshRoots a_heads u.2.2 a_kept) (va_A (wMd cI a_p a_bases_p a_tops_p a_words_p a_roots_p a_order_p a_numbers_p a_image_p a_other_p a_input_p a_fresh_p a_freshRoots_p a_heads_p a_kept_p a_thrown a_bases a_tops a_words a_roots a_reached a_order a_numbers a_size a_image a_otherSize a_other a_waiting a_input a_at a_ended a_told a_many a_fresh a_freshRoots a_heads a_count a_kept) sz)) (va_A (wMd cI a_p a_bases_p a_tops_p a_words_p a_roots_p a_order_p a_numbers_p a_image_p a_other_p a_input_p a_fresh_p a_freshRoots_p a_heads_p a_kept_p a_thrown a_bases a_tops a_words a_roots a_reached a_order a_numbers a_size a_image a_otherSize a_other a_waiting a_input a_at a_ended a_told a_many a_fresh a_freshRoots a_heads a_count a_kept) sz)) 0 0 (va_A (wMd cI a_p a_bases_p a_tops_p a_words_p a_roots_p a_order_p a_numbers_p a_image_p a_other_p a_input_p a_fresh_p a_freshRoots_p a_heads_p a_kept_p a_thrown a_bases a_tops a_words a_roots a_reached a_order a_numbers a_size a_image a_otherSize a_other a_waiting a_input a_at a_ended a_told a_many a_fresh a_freshRoots a_heads a_count a_kept) sz) := by
  refine g_met (fun A => va_Qi (fun (r : Int32) (u : (Int32 × Int32 × Int64)) => o.1 = r ∧ o.2 = u) (gB (dC, dI) vwCl (gT cI cJ cH) (fun (u : (Int32 × Int32 × Int64)) => wMd cI a_p a_bases_p a_tops_p a_words_p a_roots_p a_order_p a_numbers_p a_image_p a_other_p a_input_p a_fresh_p a_freshRoots_p a_heads_p a_kept_p a_thrown a_bases a_tops a_words a_roots a_reached a_order a_numbers a_size a_image a_otherSize a_other a_waiting a_input u.1 u.2.1 a_told a_many a_fresh a_freshRoots a_heads u.2.2 a_kept) A) A) (by decide) rfl (Nat.le_of_ble_eq_true rfl) ?_
  intro p e s m args below meth c A Q F hlocks hr hname hN hQ
  unfold f_X4_nextCount at hf
  refine g_lvE (lv' := [(0, .ref a_p)]) rfl ?_
  refine g_aload_n F dX4_nextCount_0 rfl 0 rfl ?_
  refine g_get F h_X4_nextCount_4 0 rfl rfl 14 (by decide) (by decide +kernel) rfl dX4_nextCount_1 ?_
  refine g_istore_n (lv' := [(1, .int a_at), (0, .ref a_p)]) F dX4_nextCount_4 rfl (by decide) rfl ?_
  refine g_aload_n F dX4_nextCount_5 rfl 1 rfl ?_
  refine g_lconst (v := 0) F dX4_nextCount_6 rfl ?_
  refine g_put F h_X4_nextCount_4 tyX4 tyX4_ok nmX4 0 rfl rfl 21 (by decide) (by decide +kernel) rfl rfl rfl (Nat.le_of_ble_eq_true rfl) dX4_nextCount_7 (ws' := wMd cI a_p a_bases_p a_tops_p a_words_p a_roots_p a_order_p a_numbers_p a_image_p a_other_p a_input_p a_fresh_p a_freshRoots_p a_heads_p a_kept_p a_thrown a_bases a_tops a_words a_roots a_reached a_order a_numbers a_size a_image a_otherSize a_other a_waiting a_input a_at a_ended a_told a_many a_fresh a_freshRoots a_heads (0 : Int64) a_kept) rfl ?_
  refine g_lconst (v := 1) F dX4_nextCount_10 rfl ?_
  refine g_lstore_n (lv' := [(2, .long (1 : Int64)), (1, .int a_at), (0, .ref a_p)]) F dX4_nextCount_11 rfl (by decide) rfl ?_
  refine g_iconst (v := 0) F dX4_nextCount_12 rfl ?_
  refine g_istore (lv' := [(4, .int (0 : Int32)), (2, .long (1 : Int64)), (1, .int a_at), (0, .ref a_p)]) F dX4_nextCount_13 (by decide) rfl ?_
  refine g_iconst (v := 1) F dX4_nextCount_15 rfl ?_
  refine g_istore (lv' := [(5, .int (1 : Int32)), (4, .int (0 : Int32)), (2, .long (1 : Int64)), (1, .int a_at), (0, .ref a_p)]) F dX4_nextCount_16 (by decide) rfl ?_
  obtain ⟨o11, ho11, hf⟩ := bnE hf
  refine g_lv [4, 3, 2, 1, 0] rfl ?_
  refine w_X4_nextCount_L18 F hN FU _ _ _ _ _ _ o11 ho11 ?_
  refine g_iload_n F dX4_nextCount_126 rfl 0 rfl ?_
  subst hQ
  exact g_iret F hlocks hr (o11.1, o11.2.1, o11.2.2) rfl (pr2 (Option.some.inj hf)) dX4_nextCount_127

/-! HeapImagesModel.nextValue(I)I -/
def rm_X4_nextValue : Room := { frames := 3, cells := 0, slots := 0, locals := 67 }
theorem h_X4_nextValue_4 : ∀ w ∈ wsX40, w ∈ wsX4_nextValue := by decide +kernel
def f_X4_nextValue (a_waiting : Int32) (a_input : (Nat → Int32)) (a_at : Int32) (a_ended : Int32) (a_told : Int32) (a_many : Int32) (a_count : Int64) (x1 : Int32) : Option (Int32 × Int32 × Int32 × Int32 × Int64) :=
  Option.bind (f_X4_nextCount a_waiting a_input a_at a_ended a_count) fun o1 => if o1.2.2.1 < 0 then Option.bind (α := Int32) (if (lg_cmp (o1.2.2.2 - o1.2.2.2 / (2 : Int64) * (2 : Int64)) (1 : Int64)) = 0 then some (1 : Int32) else some (0 : Int32)) fun j2 => if j2 = 0 then if x1 = (1 : Int32) then Option.bind (f_X4_stop o1.2.2.1 o1.1) fun o6 => some ((0 : Int32), o1.2.1, o6, a_told, o1.2.2.2) else if (lg_cmp o1.2.2.2 (0 : Int64)) = 0 then some ((0 : Int32), o1.2.1, o1.2.2.1, a_told, o1.2.2.2) else nm ((o1.2.2.2 / (2 : Int64)) - (1 : Int64)) fun v3 => if 0 < (lg_cmp v3 a_told.toInt64) then Option.bind (f_X4_stop o1.2.2.1 o1.1) fun o4 => some ((0 : Int32), o1.2.1, o4, a_told, o1.2.2.2) else if (lg_cmp v3 a_many.toInt64) < 0 then if (lg_cmp v3 a_told.toInt64) = 0 then some (((-2 : Int64) * (v3 + (1 : Int64))).toInt32, o1.2.1, o1.2.2.1, a_told + (1 : Int32), o1.2.2.2) else some (((-2 : Int64) * (v3 + (1 : Int64))).toInt32, o1.2.1, o1.2.2.1, a_told, o1.2.2.2) else Option.bind (f_X4_stop o1.2.2.1 o1.1) fun o5 => some ((0 : Int32), o1.2.1, o5, a_told, o1.2.2.2) else if x1 = 0 then Option.bind (f_X4_stop o1.2.2.1 o1.1) fun o7 => some ((0 : Int32), o1.2.1, o7, a_told, o1.2.2.2) else if (lg_cmp o1.2.2.2 (4294967296 : Int64)) < 0 then if (lg_cmp (o1.2.2.2 - o1.2.2.2 / (4 : Int64) * (4 : Int64)) (1 : Int64)) = 0 then nm (o1.2.2.2 / (4 : Int64)) fun v9 => some ((((2 : Int64) * v9) + (1 : Int64)).toInt32, o1.2.1, o1.2.2.1, a_told, o1.2.2.2) else nm ((-1 : Int64) - (o1.2.2.2 / (4 : Int64))) fun v8 => some ((((2 : Int64) * v8) + (1 : Int64)).toInt32, o1.2.1, o1.2.2.1, a_told, o1.2.2.2) else Option.bind (f_X4_stop o1.2.2.1 o1.1) fun o10 => some ((0 : Int32), o1.2.1, o10, a_told, o1.2.2.2) else some ((0 : Int32), o1.2.1, o1.2.2.1, a_told, o1.2.2.2)
set_option maxHeartbeats 4000000 in
set_option maxRecDepth 100000 in
theorem c_X4_nextValue (l : Launch) (dC : Nat → ClassId) (dI : Nat → Nat → Nat) (cI cJ cH : ClassId) (a_p a_bases_p a_tops_p a_words_p a_roots_p a_order_p a_numbers_p a_image_p a_other_p a_input_p a_fresh_p a_freshRoots_p a_heads_p a_kept_p : Nat)  (a_thrown : Int32) (a_bases : (Nat → Int32)) (a_tops : (Nat → Int32)) (a_words : (Nat → Int32)) (a_roots : (Nat → Int32)) (a_reached : Int32) (a_order : (Nat → Int32)) (a_numbers : (Nat → Int32)) (a_size : Int32) (a_image : (Nat → Int32)) (a_otherSize : Int32) (a_other : (Nat → Int32)) (a_waiting : Int32) (a_input : (Nat → Int32)) (a_at : Int32) (a_ended : Int32) (a_told : Int32) (a_many : Int32) (a_fresh : (Nat → Int32)) (a_freshRoots : (Nat → Int32)) (a_heads : (Nat → Int32)) (a_count : Int64) (a_kept : (Nat → Int32)) (x1 : Int32) (o : (Int32 × Int32 × Int32 × Int32 × Int64)) (hf : f_X4_nextValue a_waiting a_input a_at a_ended a_told a_many a_count x1 = some o) : ∀ sz : Nat, Met l yX4_nextValue wsX4_nextValue rm_X4_nextValue (gPre [.ref a_p, .int x1] (dC, dI) vwCl (gT cI cJ cH) (wMd cI a_p a_bases_p a_tops_p a_words_p a_roots_p a_order_p a_numbers_p a_image_p a_other_p a_input_p a_fresh_p a_freshRoots_p a_heads_p a_kept_p a_thrown a_bases a_tops a_words a_roots a_reached a_order a_numbers a_size a_image a_otherSize a_other a_waiting a_input a_at a_ended a_told a_many a_fresh a_freshRoots a_heads a_count a_kept) sz) (va_Qi (fun (r : Int32) (u : (Int32 × Int32 × Int32 × Int64)) => o.1 = r ∧ o.2 = u) (gB (dC, dI) vwCl (gT cI cJ cH) (fun (u : (Int32 × Int32 × Int32 × Int64)) => wMd cI a_p a_bases_p a_tops_p a_words_p a_roots_p a_order_p a_numbers_p a_image_p a_other_p a_input_p a_fresh_p a_freshRoots_p a_heads_p a_kept_p a_thrown a_bases a_tops a_words a_roots a_reached a_order a_numbers a_size a_image a_otherSize a_other a_waiting a_input u.1 u.2.1 u.2.2.1 a_many a_fresh a_freshRoots a_heads u.2.2.2 a_kept) (va_A (wMd cI a_p a_bases_p a_tops_p a_words_p a_roots_p a_order_p a_numbers_p a_image_p a_other_p a_input_p a_fresh_p a_freshRoots_p a_heads_p a_kept_p a_thrown a_bases a_tops a_words a_roots a_reached a_order a_numbers a_size a_image a_otherSize a_other a_waiting a_input a_at a_ended a_told a_many a_fresh a_freshRoots a_heads a_count a_kept) sz)) (va_A (wMd cI a_p a_bases_p a_tops_p a_words_p a_roots_p a_order_p a_numbers_p a_image_p a_other_p a_input_p a_fresh_p a_freshRoots_p a_heads_p a_kept_p a_thrown a_bases a_tops a_words a_roots a_reached a_order a_numbers a_size a_image a_otherSize a_other a_waiting a_input a_at a_ended a_told a_many a_fresh a_freshRoots a_heads a_count a_kept) sz)) 0 0 (va_A (wMd cI a_p a_bases_p a_tops_p a_words_p a_roots_p a_order_p a_numbers_p a_image_p a_other_p a_input_p a_fresh_p a_freshRoots_p a_heads_p a_kept_p a_thrown a_bases a_tops a_words a_roots a_reached a_order a_numbers a_size a_image a_otherSize a_other a_waiting a_input a_at a_ended a_told a_many a_fresh a_freshRoots a_heads a_count a_kept) sz) := by
  refine g_met (fun A => va_Qi (fun (r : Int32) (u : (Int32 × Int32 × Int32 × Int64)) => o.1 = r ∧ o.2 = u) (gB (dC, dI) vwCl (gT cI cJ cH) (fun (u : (Int32 × Int32 × Int32 × Int64)) => wMd cI a_p a_bases_p a_tops_p a_words_p a_roots_p a_order_p a_numbers_p a_image_p a_other_p a_input_p a_fresh_p a_freshRoots_p a_heads_p a_kept_p a_thrown a_bases a_tops a_words a_roots a_reached a_order a_numbers a_size a_image a_otherSize a_other a_waiting a_input u.1 u.2.1 u.2.2.1 a_many a_fresh a_freshRoots a_heads u.2.2.2 a_kept) A) A) (by decide) rfl (Nat.le_of_ble_eq_true rfl) ?_
  intro p e s m args below meth c A Q F hlocks hr hname hN hQ
  unfold f_X4_nextValue at hf
  refine g_lvE (lv' := [(0, .ref a_p), (1, .int x1)]) rfl ?_
  refine g_aload_n F dX4_nextValue_0 rfl 0 rfl ?_
  obtain ⟨o1, ho1, hf⟩ := bnE hf
  refine g_callPi (n := 0) (As := []) F (c_X4_nextCount l dC dI cI cJ cH a_p a_bases_p a_tops_p a_words_p a_roots_p a_order_p a_numbers_p a_image_p a_other_p a_input_p a_fresh_p a_freshRoots_p a_heads_p a_kept_p a_thrown a_bases a_tops a_words a_roots a_reached a_order a_numbers a_size a_image a_otherSize a_other a_waiting a_input a_at a_ended a_told a_many a_fresh a_freshRoots a_heads a_count a_kept o1 ho1) ggX4_nextValue_X4_nextCount rfl rfl rfl (by decide +kernel) (by decide +kernel) (by decide +kernel) (by decide +kernel) (by decide +kernel) ⟨Nat.le_of_ble_eq_true rfl, Nat.le_of_ble_eq_true rfl⟩ ⟨Nat.le_of_ble_eq_true rfl, Nat.le_of_ble_eq_true rfl⟩ hN 0 rfl rfl rfl ([]) ([]) rfl (fun _ => rfl) rfl (Nat.le_of_ble_eq_true rfl) rfl dX4_nextValue_1 (cells' := 0) (slots' := 0) rfl rfl (fun r u hp => ?_)
  obtain ⟨hp1, hp2⟩ := hp
  subst hp1
  subst hp2
  refine g_ws (ws' := wMd cI a_p a_bases_p a_tops_p a_words_p a_roots_p a_order_p a_numbers_p a_image_p a_other_p a_input_p a_fresh_p a_freshRoots_p a_heads_p a_kept_p a_thrown a_bases a_tops a_words a_roots a_reached a_order a_numbers a_size a_image a_otherSize a_other a_waiting a_input o1.2.1 o1.2.2.1 a_told a_many a_fresh a_freshRoots a_heads o1.2.2.2 a_kept) rfl ?_
  refine g_istore_n (lv' := [(2, .int o1.1), (0, .ref a_p), (1, .int x1)]) F dX4_nextValue_4 rfl (by decide) rfl ?_
  refine g_aload_n F dX4_nextValue_5 rfl 1 rfl ?_
  refine g_get F h_X4_nextValue_4 0 rfl rfl 15 (by decide) (by decide +kernel) rfl dX4_nextValue_6 ?_
  refine g_if_lt (tgt := 14) F dX4_nextValue_9 (by decide) (fun c9 => ?_) (fun c9 => ?_)
  · have hf := iteT hf c9
    refine g_aload_n F dX4_nextValue_14 rfl 1 rfl ?_
    refine g_get F h_X4_nextValue_4 0 rfl rfl 21 (by decide) (by decide +kernel) rfl dX4_nextValue_15 ?_
    refine g_ldc2 (v := 2) F (by decide +kernel) dX4_nextValue_18 ?_
    refine g_lrem F dX4_nextValue_21 (by decide) ?_
    refine g_lconst (v := 1) F dX4_nextValue_22 rfl ?_
    refine g_lcmp F dX4_nextValue_23 ?_
    obtain ⟨j2, hj2, hf⟩ := bnE hf
    have Kj2 : gW p l e rm_X4_nextValue s m args below meth c 0 0 Q (dC, dI) vwCl A 6 (wMd cI a_p a_bases_p a_tops_p a_words_p a_roots_p a_order_p a_numbers_p a_image_p a_other_p a_input_p a_fresh_p a_freshRoots_p a_heads_p a_kept_p a_thrown a_bases a_tops a_words a_roots a_reached a_order a_numbers a_size a_image a_otherSize a_other a_waiting a_input o1.2.1 o1.2.2.1 a_told a_many a_fresh a_freshRoots a_heads o1.2.2.2 a_kept) [(0, .ref a_p), (1, .int x1), (2, .int o1.1)] 32 [.int j2] := by
      refine g_istore_n (lv' := [(3, .int j2), (0, .ref a_p), (1, .int x1), (2, .int o1.1)]) F dX4_nextValue_32 rfl (by decide) rfl ?_
      refine g_iload_n F dX4_nextValue_33 rfl 0 rfl ?_
      refine g_if_eq (tgt := 107) F dX4_nextValue_34 (by decide) (fun c34 => ?_) (fun c34 => ?_)
      · have hf := iteT hf c34
        refine g_iload_n F dX4_nextValue_107 rfl 2 rfl ?_
        refine g_iconst (v := 1) F dX4_nextValue_108 rfl ?_
        refine g_icmp_ne (tgt := 119) F dX4_nextValue_109 (by decide) (fun c109 => ?_) (fun c109 => ?_)
        · have hf := iteF hf c109
          refine g_aload_n F dX4_nextValue_119 rfl 1 rfl ?_
          refine g_get F h_X4_nextValue_4 0 rfl rfl 21 (by decide) (by decide +kernel) rfl dX4_nextValue_120 ?_
          refine g_lconst (v := 0) F dX4_nextValue_123 rfl ?_
          refine g_lcmp F dX4_nextValue_124 ?_
          refine g_if_ne (tgt := 130) F dX4_nextValue_125 (by decide) (fun c125 => ?_) (fun c125 => ?_)
          · have hf := iteF hf c125
            refine g_aload_n F dX4_nextValue_130 rfl 1 rfl ?_
            refine g_get F h_X4_nextValue_4 0 rfl rfl 21 (by decide) (by decide +kernel) rfl dX4_nextValue_131 ?_
            refine g_ldc2 (v := 2) F (by decide +kernel) dX4_nextValue_134 ?_
            refine g_ldiv F dX4_nextValue_137 (by decide) ?_
            refine g_lconst (v := 1) F dX4_nextValue_138 rfl ?_
            refine g_lsub F dX4_nextValue_139 ?_
            obtain ⟨v3, ev3, hf⟩ := nmE hf
            refine g_nml ev3 ?_
            refine g_lstore (lv' := [(4, .long v3), (3, .int j2), (0, .ref a_p), (1, .int x1), (2, .int o1.1)]) F dX4_nextValue_140 (by decide) rfl ?_
            refine g_lload F dX4_nextValue_142 0 rfl ?_
            refine g_aload_n F dX4_nextValue_144 rfl 2 rfl ?_
            refine g_get F h_X4_nextValue_4 0 rfl rfl 16 (by decide) (by decide +kernel) rfl dX4_nextValue_145 ?_
            refine g_i2l F dX4_nextValue_148 ?_
            refine g_lcmp F dX4_nextValue_149 ?_
            refine g_if_gt (tgt := 164) F dX4_nextValue_150 (by decide) (fun c150 => ?_) (fun c150 => ?_)
            · have hf := iteT hf c150
              refine g_aload_n F dX4_nextValue_164 rfl 2 rfl ?_
              refine g_iload_n F dX4_nextValue_165 rfl 4 rfl ?_
              obtain ⟨o4, ho4, hf⟩ := bnE hf
              refine g_callPv (n := 1) (As := [.int o1.1]) F (c_X4_stop l dC dI cI cJ cH a_p a_bases_p a_tops_p a_words_p a_roots_p a_order_p a_numbers_p a_image_p a_other_p a_input_p a_fresh_p a_freshRoots_p a_heads_p a_kept_p a_thrown a_bases a_tops a_words a_roots a_reached a_order a_numbers a_size a_image a_otherSize a_other a_waiting a_input o1.2.1 o1.2.2.1 a_told a_many a_fresh a_freshRoots a_heads o1.2.2.2 a_kept o1.1 o4 ho4) ggX4_nextValue_X4_stop rfl rfl rfl (by decide +kernel) (by decide +kernel) (by decide +kernel) (by decide +kernel) (by decide +kernel) ⟨Nat.le_of_ble_eq_true rfl, Nat.le_of_ble_eq_true rfl⟩ ⟨Nat.le_of_ble_eq_true rfl, Nat.le_of_ble_eq_true rfl⟩ hN 0 rfl rfl rfl ([]) ([]) rfl (fun _ => rfl) rfl (Nat.le_of_ble_eq_true rfl) rfl dX4_nextValue_166 (cells' := 0) (slots' := 0) rfl rfl (fun u hp => ?_)
              subst hp
              refine g_ws (ws' := wMd cI a_p a_bases_p a_tops_p a_words_p a_roots_p a_order_p a_numbers_p a_image_p a_other_p a_input_p a_fresh_p a_freshRoots_p a_heads_p a_kept_p a_thrown a_bases a_tops a_words a_roots a_reached a_order a_numbers a_size a_image a_otherSize a_other a_waiting a_input o1.2.1 o4 a_told a_many a_fresh a_freshRoots a_heads o1.2.2.2 a_kept) rfl ?_
              refine g_iconst (v := 0) F dX4_nextValue_169 rfl ?_
              subst hQ
              exact g_iret F hlocks hr (o1.2.1, o4, a_told, o1.2.2.2) rfl (pr2 (Option.some.inj hf)) dX4_nextValue_170
            · have hf := iteF hf c150
              refine g_lload F dX4_nextValue_153 0 rfl ?_
              refine g_aload_n F dX4_nextValue_155 rfl 2 rfl ?_
              refine g_get F h_X4_nextValue_4 0 rfl rfl 17 (by decide) (by decide +kernel) rfl dX4_nextValue_156 ?_
              refine g_i2l F dX4_nextValue_159 ?_
              refine g_lcmp F dX4_nextValue_160 ?_
              refine g_if_lt (tgt := 171) F dX4_nextValue_161 (by decide) (fun c161 => ?_) (fun c161 => ?_)
              · have hf := iteT hf c161
                refine g_aload_n F dX4_nextValue_171 rfl 2 rfl ?_
                refine g_lload F dX4_nextValue_172 0 rfl ?_
                refine g_aload_n F dX4_nextValue_174 rfl 2 rfl ?_
                refine g_get F h_X4_nextValue_4 0 rfl rfl 16 (by decide) (by decide +kernel) rfl dX4_nextValue_175 ?_
                refine g_i2l F dX4_nextValue_178 ?_
                refine g_lcmp F dX4_nextValue_179 ?_
                refine g_if_ne (tgt := 192) F dX4_nextValue_180 (by decide) (fun c180 => ?_) (fun c180 => ?_)
                · have hf := iteF hf c180
                  refine g_aload_n F dX4_nextValue_192 rfl 2 rfl ?_
                  refine g_get F h_X4_nextValue_4 0 rfl rfl 16 (by decide) (by decide +kernel) rfl dX4_nextValue_193 ?_
                  refine g_put F h_X4_nextValue_4 tyX4 tyX4_ok nmX4 0 rfl rfl 16 (by decide) (by decide +kernel) rfl rfl rfl (Nat.le_of_ble_eq_true rfl) dX4_nextValue_196 (ws' := wMd cI a_p a_bases_p a_tops_p a_words_p a_roots_p a_order_p a_numbers_p a_image_p a_other_p a_input_p a_fresh_p a_freshRoots_p a_heads_p a_kept_p a_thrown a_bases a_tops a_words a_roots a_reached a_order a_numbers a_size a_image a_otherSize a_other a_waiting a_input o1.2.1 o1.2.2.1 a_told a_many a_fresh a_freshRoots a_heads o1.2.2.2 a_kept) rfl ?_
                  refine g_ldc2 (v := -2) F (by decide +kernel) dX4_nextValue_199 ?_
                  refine g_lload F dX4_nextValue_202 0 rfl ?_
                  refine g_lconst (v := 1) F dX4_nextValue_204 rfl ?_
                  refine g_ladd F dX4_nextValue_205 ?_
                  refine g_lmul F dX4_nextValue_206 ?_
                  refine g_l2i F dX4_nextValue_207 ?_
                  subst hQ
                  exact g_iret F hlocks hr (o1.2.1, o1.2.2.1, a_told, o1.2.2.2) rfl (pr2 (Option.some.inj hf)) dX4_nextValue_208
                · have hf := iteT hf c180
                  refine g_aload_n F dX4_nextValue_183 rfl 2 rfl ?_
                  refine g_get F h_X4_nextValue_4 0 rfl rfl 16 (by decide) (by decide +kernel) rfl dX4_nextValue_184 ?_
                  refine g_iconst (v := 1) F dX4_nextValue_187 rfl ?_
                  refine g_iadd F dX4_nextValue_188 ?_
                  refine g_goto (tgt := 196) F dX4_nextValue_189 (by decide) ?_
                  refine g_put F h_X4_nextValue_4 tyX4 tyX4_ok nmX4 0 rfl rfl 16 (by decide) (by decide +kernel) rfl rfl rfl (Nat.le_of_ble_eq_true rfl) dX4_nextValue_196 (ws' := wMd cI a_p a_bases_p a_tops_p a_words_p a_roots_p a_order_p a_numbers_p a_image_p a_other_p a_input_p a_fresh_p a_freshRoots_p a_heads_p a_kept_p a_thrown a_bases a_tops a_words a_roots a_reached a_order a_numbers a_size a_image a_otherSize a_other a_waiting a_input o1.2.1 o1.2.2.1 (a_told + (1 : Int32)) a_many a_fresh a_freshRoots a_heads o1.2.2.2 a_kept) rfl ?_
                  refine g_ldc2 (v := -2) F (by decide +kernel) dX4_nextValue_199 ?_
                  refine g_lload F dX4_nextValue_202 0 rfl ?_
                  refine g_lconst (v := 1) F dX4_nextValue_204 rfl ?_
                  refine g_ladd F dX4_nextValue_205 ?_
                  refine g_lmul F dX4_nextValue_206 ?_
                  refine g_l2i F dX4_nextValue_207 ?_
                  subst hQ
                  exact g_iret F hlocks hr (o1.2.1, o1.2.2.1, a_told + (1 : Int32), o1.2.2.2) rfl (pr2 (Option.some.inj hf)) dX4_nextValue_208
              · have hf := iteF hf c161
                refine g_aload_n F dX4_nextValue_164 rfl 2 rfl ?_
                refine g_iload_n F dX4_nextValue_165 rfl 4 rfl ?_
                obtain ⟨o5, ho5, hf⟩ := bnE hf
                refine g_callPv (n := 1) (As := [.int o1.1]) F (c_X4_stop l dC dI cI cJ cH a_p a_bases_p a_tops_p a_words_p a_roots_p a_order_p a_numbers_p a_image_p a_other_p a_input_p a_fresh_p a_freshRoots_p a_heads_p a_kept_p a_thrown a_bases a_tops a_words a_roots a_reached a_order a_numbers a_size a_image a_otherSize a_other a_waiting a_input o1.2.1 o1.2.2.1 a_told a_many a_fresh a_freshRoots a_heads o1.2.2.2 a_kept o1.1 o5 ho5) ggX4_nextValue_X4_stop rfl rfl rfl (by decide +kernel) (by decide +kernel) (by decide +kernel) (by decide +kernel) (by decide +kernel) ⟨Nat.le_of_ble_eq_true rfl, Nat.le_of_ble_eq_true rfl⟩ ⟨Nat.le_of_ble_eq_true rfl, Nat.le_of_ble_eq_true rfl⟩ hN 0 rfl rfl rfl ([]) ([]) rfl (fun _ => rfl) rfl (Nat.le_of_ble_eq_true rfl) rfl dX4_nextValue_166 (cells' := 0) (slots' := 0) rfl rfl (fun u hp => ?_)
                subst hp
                refine g_ws (ws' := wMd cI a_p a_bases_p a_tops_p a_words_p a_roots_p a_order_p a_numbers_p a_image_p a_other_p a_input_p a_fresh_p a_freshRoots_p a_heads_p a_kept_p a_thrown a_bases a_tops a_words a_roots a_reached a_order a_numbers a_size a_image a_otherSize a_other a_waiting a_input o1.2.1 o5 a_told a_many a_fresh a_freshRoots a_heads o1.2.2.2 a_kept) rfl ?_
                refine g_iconst (v := 0) F dX4_nextValue_169 rfl ?_
                subst hQ
                exact g_iret F hlocks hr (o1.2.1, o5, a_told, o1.2.2.2) rfl (pr2 (Option.some.inj hf)) dX4_nextValue_170
          · have hf := iteT hf c125
            refine g_iconst (v := 0) F dX4_nextValue_128 rfl ?_
            subst hQ
            exact g_iret F hlocks hr (o1.2.1, o1.2.2.1, a_told, o1.2.2.2) rfl (pr2 (Option.some.inj hf)) dX4_nextValue_129
        · have hf := iteT hf c109
          refine g_aload_n F dX4_nextValue_112 rfl 1 rfl ?_
          refine g_iload_n F dX4_nextValue_113 rfl 3 rfl ?_
          obtain ⟨o6, ho6, hf⟩ := bnE hf
          refine g_callPv (n := 1) (As := [.int o1.1]) F (c_X4_stop l dC dI cI cJ cH a_p a_bases_p a_tops_p a_words_p a_roots_p a_order_p a_numbers_p a_image_p a_other_p a_input_p a_fresh_p a_freshRoots_p a_heads_p a_kept_p a_thrown a_bases a_tops a_words a_roots a_reached a_order a_numbers a_size a_image a_otherSize a_other a_waiting a_input o1.2.1 o1.2.2.1 a_told a_many a_fresh a_freshRoots a_heads o1.2.2.2 a_kept o1.1 o6 ho6) ggX4_nextValue_X4_stop rfl rfl rfl (by decide +kernel) (by decide +kernel) (by decide +kernel) (by decide +kernel) (by decide +kernel) ⟨Nat.le_of_ble_eq_true rfl, Nat.le_of_ble_eq_true rfl⟩ ⟨Nat.le_of_ble_eq_true rfl, Nat.le_of_ble_eq_true rfl⟩ hN 0 rfl rfl rfl ([]) ([]) rfl (fun _ => rfl) rfl (Nat.le_of_ble_eq_true rfl) rfl dX4_nextValue_114 (cells' := 0) (slots' := 0) rfl rfl (fun u hp => ?_)
          subst hp
          refine g_ws (ws' := wMd cI a_p a_bases_p a_tops_p a_words_p a_roots_p a_order_p a_numbers_p a_image_p a_other_p a_input_p a_fresh_p a_freshRoots_p a_heads_p a_kept_p a_thrown a_bases a_tops a_words a_roots a_reached a_order a_numbers a_size a_image a_otherSize a_other a_waiting a_input o1.2.1 o6 a_told a_many a_fresh a_freshRoots a_heads o1.2.2.2 a_kept) rfl ?_
          refine g_iconst (v := 0) F dX4_nextValue_117 rfl ?_
          subst hQ
          exact g_iret F hlocks hr (o1.2.1, o6, a_told, o1.2.2.2) rfl (pr2 (Option.some.inj hf)) dX4_nextValue_118
      · have hf := iteF hf c34
        refine g_iload_n F dX4_nextValue_37 rfl 2 rfl ?_
        refine g_if_eq (tgt := 52) F dX4_nextValue_38 (by decide) (fun c38 => ?_) (fun c38 => ?_)
        · have hf := iteT hf c38
          refine g_aload_n F dX4_nextValue_52 rfl 1 rfl ?_
          refine g_iload_n F dX4_nextValue_53 rfl 3 rfl ?_
          obtain ⟨o7, ho7, hf⟩ := bnE hf
          refine g_callPv (n := 1) (As := [.int o1.1]) F (c_X4_stop l dC dI cI cJ cH a_p a_bases_p a_tops_p a_words_p a_roots_p a_order_p a_numbers_p a_image_p a_other_p a_input_p a_fresh_p a_freshRoots_p a_heads_p a_kept_p a_thrown a_bases a_tops a_words a_roots a_reached a_order a_numbers a_size a_image a_otherSize a_other a_waiting a_input o1.2.1 o1.2.2.1 a_told a_many a_fresh a_freshRoots a_heads o1.2.2.2 a_kept o1.1 o7 ho7) ggX4_nextValue_X4_stop rfl rfl rfl (by decide +kernel) (by decide +kernel) (by decide +kernel) (by decide +kernel) (by decide +kernel) ⟨Nat.le_of_ble_eq_true rfl, Nat.le_of_ble_eq_true rfl⟩ ⟨Nat.le_of_ble_eq_true rfl, Nat.le_of_ble_eq_true rfl⟩ hN 0 rfl rfl rfl ([]) ([]) rfl (fun _ => rfl) rfl (Nat.le_of_ble_eq_true rfl) rfl dX4_nextValue_54 (cells' := 0) (slots' := 0) rfl rfl (fun u hp => ?_)
          subst hp
          refine g_ws (ws' := wMd cI a_p a_bases_p a_tops_p a_words_p a_roots_p a_order_p a_numbers_p a_image_p a_other_p a_input_p a_fresh_p a_freshRoots_p a_heads_p a_kept_p a_thrown a_bases a_tops a_words a_roots a_reached a_order a_numbers a_size a_image a_otherSize a_other a_waiting a_input o1.2.1 o7 a_told a_many a_fresh a_freshRoots a_heads o1.2.2.2 a_kept) rfl ?_
          refine g_iconst (v := 0) F dX4_nextValue_57 rfl ?_
          subst hQ
          exact g_iret F hlocks hr (o1.2.1, o7, a_told, o1.2.2.2) rfl (pr2 (Option.some.inj hf)) dX4_nextValue_58
        · have hf := iteF hf c38
          refine g_aload_n F dX4_nextValue_41 rfl 1 rfl ?_
          refine g_get F h_X4_nextValue_4 0 rfl rfl 21 (by decide) (by decide +kernel) rfl dX4_nextValue_42 ?_
          refine g_ldc2 (v := 4294967296) F (by decide +kernel) dX4_nextValue_45 ?_
          refine g_lcmp F dX4_nextValue_48 ?_
          refine g_if_lt (tgt := 59) F dX4_nextValue_49 (by decide) (fun c49 => ?_) (fun c49 => ?_)
          · have hf := iteT hf c49
            refine g_aload_n F dX4_nextValue_59 rfl 1 rfl ?_
            refine g_get F h_X4_nextValue_4 0 rfl rfl 21 (by decide) (by decide +kernel) rfl dX4_nextValue_60 ?_
            refine g_ldc2 (v := 4) F (by decide +kernel) dX4_nextValue_63 ?_
            refine g_lrem F dX4_nextValue_66 (by decide) ?_
            refine g_lconst (v := 1) F dX4_nextValue_67 rfl ?_
            refine g_lcmp F dX4_nextValue_68 ?_
            refine g_if_ne (tgt := 83) F dX4_nextValue_69 (by decide) (fun c69 => ?_) (fun c69 => ?_)
            · have hf := iteF hf c69
              refine g_ldc2 (v := -1) F (by decide +kernel) dX4_nextValue_83 ?_
              refine g_aload_n F dX4_nextValue_86 rfl 1 rfl ?_
              refine g_get F h_X4_nextValue_4 0 rfl rfl 21 (by decide) (by decide +kernel) rfl dX4_nextValue_87 ?_
              refine g_ldc2 (v := 4) F (by decide +kernel) dX4_nextValue_90 ?_
              refine g_ldiv F dX4_nextValue_93 (by decide) ?_
              refine g_lsub F dX4_nextValue_94 ?_
              obtain ⟨v8, ev8, hf⟩ := nmE hf
              refine g_nml ev8 ?_
              refine g_lstore (lv' := [(4, .long v8), (3, .int j2), (0, .ref a_p), (1, .int x1), (2, .int o1.1)]) F dX4_nextValue_95 (by decide) rfl ?_
              refine g_ldc2 (v := 2) F (by decide +kernel) dX4_nextValue_97 ?_
              refine g_lload F dX4_nextValue_100 0 rfl ?_
              refine g_lmul F dX4_nextValue_102 ?_
              refine g_lconst (v := 1) F dX4_nextValue_103 rfl ?_
              refine g_ladd F dX4_nextValue_104 ?_
              refine g_l2i F dX4_nextValue_105 ?_
              subst hQ
              exact g_iret F hlocks hr (o1.2.1, o1.2.2.1, a_told, o1.2.2.2) rfl (pr2 (Option.some.inj hf)) dX4_nextValue_106
            · have hf := iteT hf c69
              refine g_aload_n F dX4_nextValue_72 rfl 1 rfl ?_
              refine g_get F h_X4_nextValue_4 0 rfl rfl 21 (by decide) (by decide +kernel) rfl dX4_nextValue_73 ?_
              refine g_ldc2 (v := 4) F (by decide +kernel) dX4_nextValue_76 ?_
              refine g_ldiv F dX4_nextValue_79 (by decide) ?_
              refine g_goto (tgt := 95) F dX4_nextValue_80 (by decide) ?_
              obtain ⟨v9, ev9, hf⟩ := nmE hf
              refine g_nml ev9 ?_
              refine g_lstore (lv' := [(4, .long v9), (3, .int j2), (0, .ref a_p), (1, .int x1), (2, .int o1.1)]) F dX4_nextValue_95 (by decide) rfl ?_
              refine g_ldc2 (v := 2) F (by decide +kernel) dX4_nextValue_97 ?_
              refine g_lload F dX4_nextValue_100 0 rfl ?_
              refine g_lmul F dX4_nextValue_102 ?_
              refine g_lconst (v := 1) F dX4_nextValue_103 rfl ?_
              refine g_ladd F dX4_nextValue_104 ?_
              refine g_l2i F dX4_nextValue_105 ?_
              subst hQ
              exact g_iret F hlocks hr (o1.2.1, o1.2.2.1, a_told, o1.2.2.2) rfl (pr2 (Option.some.inj hf)) dX4_nextValue_106
          · have hf := iteF hf c49
            refine g_aload_n F dX4_nextValue_52 rfl 1 rfl ?_
            refine g_iload_n F dX4_nextValue_53 rfl 3 rfl ?_
            obtain ⟨o10, ho10, hf⟩ := bnE hf
            refine g_callPv (n := 1) (As := [.int o1.1]) F (c_X4_stop l dC dI cI cJ cH a_p a_bases_p a_tops_p a_words_p a_roots_p a_order_p a_numbers_p a_image_p a_other_p a_input_p a_fresh_p a_freshRoots_p a_heads_p a_kept_p a_thrown a_bases a_tops a_words a_roots a_reached a_order a_numbers a_size a_image a_otherSize a_other a_waiting a_input o1.2.1 o1.2.2.1 a_told a_many a_fresh a_freshRoots a_heads o1.2.2.2 a_kept o1.1 o10 ho10) ggX4_nextValue_X4_stop rfl rfl rfl (by decide +kernel) (by decide +kernel) (by decide +kernel) (by decide +kernel) (by decide +kernel) ⟨Nat.le_of_ble_eq_true rfl, Nat.le_of_ble_eq_true rfl⟩ ⟨Nat.le_of_ble_eq_true rfl, Nat.le_of_ble_eq_true rfl⟩ hN 0 rfl rfl rfl ([]) ([]) rfl (fun _ => rfl) rfl (Nat.le_of_ble_eq_true rfl) rfl dX4_nextValue_54 (cells' := 0) (slots' := 0) rfl rfl (fun u hp => ?_)
            subst hp
            refine g_ws (ws' := wMd cI a_p a_bases_p a_tops_p a_words_p a_roots_p a_order_p a_numbers_p a_image_p a_other_p a_input_p a_fresh_p a_freshRoots_p a_heads_p a_kept_p a_thrown a_bases a_tops a_words a_roots a_reached a_order a_numbers a_size a_image a_otherSize a_other a_waiting a_input o1.2.1 o10 a_told a_many a_fresh a_freshRoots a_heads o1.2.2.2 a_kept) rfl ?_
            refine g_iconst (v := 0) F dX4_nextValue_57 rfl ?_
            subst hQ
            exact g_iret F hlocks hr (o1.2.1, o10, a_told, o1.2.2.2) rfl (pr2 (Option.some.inj hf)) dX4_nextValue_58
    clear hf
    have hf := hj2
    refine g_if_ne (tgt := 31) F dX4_nextValue_24 (by decide) (fun c24 => ?_) (fun c24 => ?_)
    · have hf := iteF hf c24
      refine g_iconst (v := 0) F dX4_nextValue_31 rfl ?_
      cases hf
      refine g_lv [1, 2, 0] rfl ?_
      exact Kj2
    · have hf := iteT hf c24
      refine g_iconst (v := 1) F dX4_nextValue_27 rfl ?_
      refine g_goto (tgt := 32) F dX4_nextValue_28 (by decide) ?_
      cases hf
      refine g_lv [1, 2, 0] rfl ?_
      exact Kj2
  · have hf := iteF hf c9
    refine g_iconst (v := 0) F dX4_nextValue_12 rfl ?_
    subst hQ
    exact g_iret F hlocks hr (o1.2.1, o1.2.2.1, a_told, o1.2.2.2) rfl (pr2 (Option.some.inj hf)) dX4_nextValue_13

/-! HeapImagesModel.readObject(II)I -/
def rm_X4_readObject : Room := { frames := 4, cells := 0, slots := 0, locals := 92 }
theorem h_X4_readObject_4 : ∀ w ∈ wsX40, w ∈ wsX4_readObject := by decide +kernel
def f_X4_readObject_L135_s (a_waiting : Int32) (a_input : (Nat → Int32)) (a_many : Int32) (y2 : Int32) (y4 : Int32) (y6 : Int32) (rc : Int32 → Int32 → Int32 → Int32 → (Nat → Int32) → Int64 → Option (Int32 × Int32 × Int32 × (Nat → Int32) × Int64)) (z7 : Int32) (a_at : Int32) (a_ended : Int32) (a_told : Int32) (a_fresh : (Nat → Int32)) (a_count : Int64) : Option (Int32 × Int32 × Int32 × (Nat → Int32) × Int64) :=
  if y6 ≤ z7 then some (a_at, a_ended, a_told, a_fresh, a_count) else if 0 ≤ a_ended then some (a_at, a_ended, a_told, a_fresh, a_count) else if y4 = (2 : Int32) then Option.bind (f_X4_nextByte a_waiting a_input a_at a_ended) fun o14 => Option.bind (f_X4_nextByte a_waiting a_input o14.2.1 o14.2.2) fun o15 => nm (o14.1 ||| (o15.1 <<< ((8 : Int32) &&& 31))) fun v16 => Option.bind (f_X4_nextByte a_waiting a_input o15.2.1 o15.2.2) fun o17 => nm (v16 ||| (o17.1 <<< ((16 : Int32) &&& 31))) fun v18 => Option.bind (f_X4_nextByte a_waiting a_input o17.2.1 o17.2.2) fun o19 => ck (inR ((y2 + (1 : Int32)) + z7) 256) (nm (z7 + (1 : Int32)) fun v21 => rc v21 o19.2.1 o19.2.2 a_told (upd a_fresh ((y2 + (1 : Int32)) + z7).toNatClampNeg (v18 ||| (o19.1 <<< ((24 : Int32) &&& 31)))) a_count) else if y4 = (3 : Int32) then Option.bind (f_X4_nextValue a_waiting a_input a_at a_ended a_told a_many a_count z7) fun o11 => ck (inR ((y2 + (1 : Int32)) + z7) 256) (nm (z7 + (1 : Int32)) fun v13 => rc v13 o11.2.1 o11.2.2.1 o11.2.2.2.1 (upd a_fresh ((y2 + (1 : Int32)) + z7).toNatClampNeg o11.1) o11.2.2.2.2) else Option.bind (f_X4_nextValue a_waiting a_input a_at a_ended a_told a_many a_count (-1 : Int32)) fun o8 => ck (inR ((y2 + (1 : Int32)) + z7) 256) (nm (z7 + (1 : Int32)) fun v10 => rc v10 o8.2.1 o8.2.2.1 o8.2.2.2.1 (upd a_fresh ((y2 + (1 : Int32)) + z7).toNatClampNeg o8.1) o8.2.2.2.2)
def f_X4_readObject_L135 (a_waiting : Int32) (a_input : (Nat → Int32)) (a_many : Int32) (y2 : Int32) (y4 : Int32) (y6 : Int32) : Nat → Int32 → Int32 → Int32 → Int32 → (Nat → Int32) → Int64 → Option (Int32 × Int32 × Int32 × (Nat → Int32) × Int64)
  | 0, _, _, _, _, _, _ => none
  | n + 1, z7, a_at, a_ended, a_told, a_fresh, a_count => f_X4_readObject_L135_s a_waiting a_input a_many y2 y4 y6 (f_X4_readObject_L135 a_waiting a_input a_many y2 y4 y6 n) z7 a_at a_ended a_told a_fresh a_count
set_option maxHeartbeats 4000000 in
theorem w_X4_readObject_L135 {p : Program} {l : Launch} {e : Env} {s : State} {m : MethodId} {args : Array Value} {below : List Frame} {meth : Method} {c : Code} {A : Nat → Prop} {Q : State → Prop} {dC : Nat → ClassId} {dI : Nat → Nat → Nat} {cI cJ cH : ClassId} {a_p a_bases_p a_tops_p a_words_p a_roots_p a_order_p a_numbers_p a_image_p a_other_p a_input_p a_fresh_p a_freshRoots_p a_heads_p a_kept_p : Nat} {a_thrown : Int32} {a_bases : (Nat → Int32)} {a_tops : (Nat → Int32)} {a_words : (Nat → Int32)} {a_roots : (Nat → Int32)} {a_reached : Int32} {a_order : (Nat → Int32)} {a_numbers : (Nat → Int32)} {a_size : Int32} {a_image : (Nat → Int32)} {a_otherSize : Int32} {a_other : (Nat → Int32)} {a_waiting : Int32} {a_input : (Nat → Int32)} {a_many : Int32} {a_freshRoots : (Nat → Int32)} {a_heads : (Nat → Int32)} {a_kept : (Nat → Int32)} {y2 : Int32} {y4 : Int32} {y6 : Int32} (F : gF p m c cX4_readObject 9 s args wsX4_readObject yX4_readObject.cls (dC, dI) vwCl (gT cI cJ cH) A) (hN : ∀ w ∈ gN, va_Nw w s) : ∀ (n : Nat) (z7 : Int32) (a_at : Int32) (a_ended : Int32) (a_told : Int32) (a_fresh : (Nat → Int32)) (a_count : Int64) (o : (Int32 × Int32 × Int32 × (Nat → Int32) × Int64)), f_X4_readObject_L135 a_waiting a_input a_many y2 y4 y6 n z7 a_at a_ended a_told a_fresh a_count = some o → (gW p l e rm_X4_readObject s m args below meth c 0 0 Q (dC, dI) vwCl A 9 (wMd cI a_p a_bases_p a_tops_p a_words_p a_roots_p a_order_p a_numbers_p a_image_p a_other_p a_input_p a_fresh_p a_freshRoots_p a_heads_p a_kept_p a_thrown a_bases a_tops a_words a_roots a_reached a_order a_numbers a_size a_image a_otherSize a_other a_waiting a_input o.1 o.2.1 o.2.2.1 a_many o.2.2.2.1 a_freshRoots a_heads o.2.2.2.2 a_kept) [(2, .int y2), (6, .int y6)] 242 []) → gW p l e rm_X4_readObject s m args below meth c 0 0 Q (dC, dI) vwCl A 9 (wMd cI a_p a_bases_p a_tops_p a_words_p a_roots_p a_order_p a_numbers_p a_image_p a_other_p a_input_p a_fresh_p a_freshRoots_p a_heads_p a_kept_p a_thrown a_bases a_tops a_words a_roots a_reached a_order a_numbers a_size a_image a_otherSize a_other a_waiting a_input a_at a_ended a_told a_many a_fresh a_freshRoots a_heads a_count a_kept) [(0, .ref a_p), (2, .int y2), (4, .int y4), (6, .int y6), (7, .int z7)] 135 [] := by
  intro n
  induction n with
  | zero =>
    intro z7 a_at a_ended a_told a_fresh a_count o hf E0
    change none = some o at hf
    cases hf
  | succ n ih =>
    intro z7 a_at a_ended a_told a_fresh a_count o hf E0
    change f_X4_readObject_L135_s a_waiting a_input a_many y2 y4 y6 (f_X4_readObject_L135 a_waiting a_input a_many y2 y4 y6 n) z7 a_at a_ended a_told a_fresh a_count = some o at hf
    unfold f_X4_readObject_L135_s at hf
    refine g_iload F dX4_readObject_135 4 rfl ?_
    refine g_iload F dX4_readObject_137 3 rfl ?_
    refine g_icmp_ge (tgt := 242) F dX4_readObject_139 (by decide) (fun c139 => ?_) (fun c139 => ?_)
    · have hf := iteT hf c139
      cases hf
      refine g_lv [1, 3] rfl ?_
      exact E0
    · have hf := iteF hf c139
      refine g_aload_n F dX4_readObject_142 rfl 0 rfl ?_
      refine g_get F h_X4_readObject_4 0 rfl rfl 15 (by decide) (by decide +kernel) rfl dX4_readObject_143 ?_
      refine g_if_ge (tgt := 242) F dX4_readObject_146 (by decide) (fun c146 => ?_) (fun c146 => ?_)
      · have hf := iteT hf c146
        cases hf
        refine g_lv [1, 3] rfl ?_
        exact E0
      · have hf := iteF hf c146
        refine g_iload F dX4_readObject_149 2 rfl ?_
        refine g_iconst (v := 2) F dX4_readObject_151 rfl ?_
        refine g_icmp_ne (tgt := 209) F dX4_readObject_152 (by decide) (fun c152 => ?_) (fun c152 => ?_)
        · have hf := iteF hf c152
          refine g_aload_n F dX4_readObject_209 rfl 0 rfl ?_
          refine g_get F h_X4_readObject_4 0 rfl rfl 18 (by decide) (by decide +kernel) rfl dX4_readObject_210 ?_
          refine g_iload_n F dX4_readObject_213 rfl 1 rfl ?_
          refine g_iconst (v := 1) F dX4_readObject_214 rfl ?_
          refine g_iadd F dX4_readObject_215 ?_
          refine g_iload F dX4_readObject_216 4 rfl ?_
          refine g_iadd F dX4_readObject_218 ?_
          refine g_aload_n F dX4_readObject_219 rfl 0 rfl ?_
          refine g_iload F dX4_readObject_220 2 rfl ?_
          refine g_iconst (v := 3) F dX4_readObject_222 rfl ?_
          refine g_icmp_ne (tgt := 231) F dX4_readObject_223 (by decide) (fun c223 => ?_) (fun c223 => ?_)
          · have hf := iteF hf c223
            refine g_iconst (v := -1) F dX4_readObject_231 rfl ?_
            obtain ⟨o8, ho8, hf⟩ := bnE hf
            refine g_callPi (n := 1) (As := [.int (-1 : Int32)]) F (c_X4_nextValue l dC dI cI cJ cH a_p a_bases_p a_tops_p a_words_p a_roots_p a_order_p a_numbers_p a_image_p a_other_p a_input_p a_fresh_p a_freshRoots_p a_heads_p a_kept_p a_thrown a_bases a_tops a_words a_roots a_reached a_order a_numbers a_size a_image a_otherSize a_other a_waiting a_input a_at a_ended a_told a_many a_fresh a_freshRoots a_heads a_count a_kept (-1 : Int32) o8 ho8) ggX4_readObject_X4_nextValue rfl rfl rfl (by decide +kernel) (by decide +kernel) (by decide +kernel) (by decide +kernel) (by decide +kernel) ⟨Nat.le_of_ble_eq_true rfl, Nat.le_of_ble_eq_true rfl⟩ ⟨Nat.le_of_ble_eq_true rfl, Nat.le_of_ble_eq_true rfl⟩ hN 0 rfl rfl rfl ([]) ([]) rfl (fun _ => rfl) rfl (Nat.le_of_ble_eq_true rfl) rfl dX4_readObject_232 (cells' := 0) (slots' := 0) rfl rfl (fun r u hp => ?_)
            obtain ⟨hp1, hp2⟩ := hp
            subst hp1
            subst hp2
            refine g_ws (ws' := wMd cI a_p a_bases_p a_tops_p a_words_p a_roots_p a_order_p a_numbers_p a_image_p a_other_p a_input_p a_fresh_p a_freshRoots_p a_heads_p a_kept_p a_thrown a_bases a_tops a_words a_roots a_reached a_order a_numbers a_size a_image a_otherSize a_other a_waiting a_input o8.2.1 o8.2.2.1 o8.2.2.2.1 a_many a_fresh a_freshRoots a_heads o8.2.2.2.2 a_kept) rfl ?_
            obtain ⟨h9, hf⟩ := ckE hf
            refine g_iast F 10 0 rfl rfl h9 dX4_readObject_235 (ws' := wMd cI a_p a_bases_p a_tops_p a_words_p a_roots_p a_order_p a_numbers_p a_image_p a_other_p a_input_p a_fresh_p a_freshRoots_p a_heads_p a_kept_p a_thrown a_bases a_tops a_words a_roots a_reached a_order a_numbers a_size a_image a_otherSize a_other a_waiting a_input o8.2.1 o8.2.2.1 o8.2.2.2.1 a_many (upd a_fresh ((y2 + (1 : Int32)) + z7).toNatClampNeg o8.1) a_freshRoots a_heads o8.2.2.2.2 a_kept) rfl ?_
            obtain ⟨v10, ev10, hf⟩ := nmE hf
            refine g_iinc (j := 4) (lv' := [(7, .int v10), (0, .ref a_p), (2, .int y2), (4, .int y4), (6, .int y6)]) F dX4_readObject_236 rfl ev10.symm (by decide) rfl ?_
            refine g_goto (tgt := 135) F dX4_readObject_239 (by decide) ?_
            refine g_lv [1, 2, 3, 4, 0] rfl ?_
            exact ih _ _ _ _ _ _ o hf E0
          · have hf := iteT hf c223
            refine g_iload F dX4_readObject_226 4 rfl ?_
            refine g_goto (tgt := 232) F dX4_readObject_228 (by decide) ?_
            obtain ⟨o11, ho11, hf⟩ := bnE hf
            refine g_callPi (n := 1) (As := [.int z7]) F (c_X4_nextValue l dC dI cI cJ cH a_p a_bases_p a_tops_p a_words_p a_roots_p a_order_p a_numbers_p a_image_p a_other_p a_input_p a_fresh_p a_freshRoots_p a_heads_p a_kept_p a_thrown a_bases a_tops a_words a_roots a_reached a_order a_numbers a_size a_image a_otherSize a_other a_waiting a_input a_at a_ended a_told a_many a_fresh a_freshRoots a_heads a_count a_kept z7 o11 ho11) ggX4_readObject_X4_nextValue rfl rfl rfl (by decide +kernel) (by decide +kernel) (by decide +kernel) (by decide +kernel) (by decide +kernel) ⟨Nat.le_of_ble_eq_true rfl, Nat.le_of_ble_eq_true rfl⟩ ⟨Nat.le_of_ble_eq_true rfl, Nat.le_of_ble_eq_true rfl⟩ hN 0 rfl rfl rfl ([]) ([]) rfl (fun _ => rfl) rfl (Nat.le_of_ble_eq_true rfl) rfl dX4_readObject_232 (cells' := 0) (slots' := 0) rfl rfl (fun r u hp => ?_)
            obtain ⟨hp1, hp2⟩ := hp
            subst hp1
            subst hp2
            refine g_ws (ws' := wMd cI a_p a_bases_p a_tops_p a_words_p a_roots_p a_order_p a_numbers_p a_image_p a_other_p a_input_p a_fresh_p a_freshRoots_p a_heads_p a_kept_p a_thrown a_bases a_tops a_words a_roots a_reached a_order a_numbers a_size a_image a_otherSize a_other a_waiting a_input o11.2.1 o11.2.2.1 o11.2.2.2.1 a_many a_fresh a_freshRoots a_heads o11.2.2.2.2 a_kept) rfl ?_
            obtain ⟨h12, hf⟩ := ckE hf
            refine g_iast F 10 0 rfl rfl h12 dX4_readObject_235 (ws' := wMd cI a_p a_bases_p a_tops_p a_words_p a_roots_p a_order_p a_numbers_p a_image_p a_other_p a_input_p a_fresh_p a_freshRoots_p a_heads_p a_kept_p a_thrown a_bases a_tops a_words a_roots a_reached a_order a_numbers a_size a_image a_otherSize a_other a_waiting a_input o11.2.1 o11.2.2.1 o11.2.2.2.1 a_many (upd a_fresh ((y2 + (1 : Int32)) + z7).toNatClampNeg o11.1) a_freshRoots a_heads o11.2.2.2.2 a_kept) rfl ?_
            obtain ⟨v13, ev13, hf⟩ := nmE hf
            refine g_iinc (j := 4) (lv' := [(7, .int v13), (0, .ref a_p), (2, .int y2), (4, .int y4), (6, .int y6)]) F dX4_readObject_236 rfl ev13.symm (by decide) rfl ?_
            refine g_goto (tgt := 135) F dX4_readObject_239 (by decide) ?_
            refine g_lv [1, 2, 3, 4, 0] rfl ?_
            exact ih _ _ _ _ _ _ o hf E0
        · have hf := iteT hf c152
          refine g_aload_n F dX4_readObject_155 rfl 0 rfl ?_
          obtain ⟨o14, ho14, hf⟩ := bnE hf
          refine g_callPi (n := 0) (As := []) F (c_X4_nextByte l dC dI cI cJ cH a_p a_bases_p a_tops_p a_words_p a_roots_p a_order_p a_numbers_p a_image_p a_other_p a_input_p a_fresh_p a_freshRoots_p a_heads_p a_kept_p a_thrown a_bases a_tops a_words a_roots a_reached a_order a_numbers a_size a_image a_otherSize a_other a_waiting a_input a_at a_ended a_told a_many a_fresh a_freshRoots a_heads a_count a_kept o14 ho14) ggX4_readObject_X4_nextByte rfl rfl rfl (by decide +kernel) (by decide +kernel) (by decide +kernel) (by decide +kernel) (by decide +kernel) ⟨Nat.le_of_ble_eq_true rfl, Nat.le_of_ble_eq_true rfl⟩ ⟨Nat.le_of_ble_eq_true rfl, Nat.le_of_ble_eq_true rfl⟩ hN 0 rfl rfl rfl ([]) ([]) rfl (fun _ => rfl) rfl (Nat.le_of_ble_eq_true rfl) rfl dX4_readObject_156 (cells' := 0) (slots' := 0) rfl rfl (fun r u hp => ?_)
          obtain ⟨hp1, hp2⟩ := hp
          subst hp1
          subst hp2
          refine g_ws (ws' := wMd cI a_p a_bases_p a_tops_p a_words_p a_roots_p a_order_p a_numbers_p a_image_p a_other_p a_input_p a_fresh_p a_freshRoots_p a_heads_p a_kept_p a_thrown a_bases a_tops a_words a_roots a_reached a_order a_numbers a_size a_image a_otherSize a_other a_waiting a_input o14.2.1 o14.2.2 a_told a_many a_fresh a_freshRoots a_heads a_count a_kept) rfl ?_
          refine g_istore (lv' := [(8, .int o14.1), (0, .ref a_p), (2, .int y2), (4, .int y4), (6, .int y6), (7, .int z7)]) F dX4_readObject_159 (by decide) rfl ?_
          refine g_iload F dX4_readObject_161 0 rfl ?_
          refine g_aload_n F dX4_readObject_163 rfl 1 rfl ?_
          obtain ⟨o15, ho15, hf⟩ := bnE hf
          refine g_callPi (n := 0) (As := []) F (c_X4_nextByte l dC dI cI cJ cH a_p a_bases_p a_tops_p a_words_p a_roots_p a_order_p a_numbers_p a_image_p a_other_p a_input_p a_fresh_p a_freshRoots_p a_heads_p a_kept_p a_thrown a_bases a_tops a_words a_roots a_reached a_order a_numbers a_size a_image a_otherSize a_other a_waiting a_input o14.2.1 o14.2.2 a_told a_many a_fresh a_freshRoots a_heads a_count a_kept o15 ho15) ggX4_readObject_X4_nextByte rfl rfl rfl (by decide +kernel) (by decide +kernel) (by decide +kernel) (by decide +kernel) (by decide +kernel) ⟨Nat.le_of_ble_eq_true rfl, Nat.le_of_ble_eq_true rfl⟩ ⟨Nat.le_of_ble_eq_true rfl, Nat.le_of_ble_eq_true rfl⟩ hN 0 rfl rfl rfl ([]) ([]) rfl (fun _ => rfl) rfl (Nat.le_of_ble_eq_true rfl) rfl dX4_readObject_164 (cells' := 0) (slots' := 0) rfl rfl (fun r u hp => ?_)
          obtain ⟨hp1, hp2⟩ := hp
          subst hp1
          subst hp2
          refine g_ws (ws' := wMd cI a_p a_bases_p a_tops_p a_words_p a_roots_p a_order_p a_numbers_p a_image_p a_other_p a_input_p a_fresh_p a_freshRoots_p a_heads_p a_kept_p a_thrown a_bases a_tops a_words a_roots a_reached a_order a_numbers a_size a_image a_otherSize a_other a_waiting a_input o15.2.1 o15.2.2 a_told a_many a_fresh a_freshRoots a_heads a_count a_kept) rfl ?_
          refine g_bipush (v := 8) F dX4_readObject_167 rfl ?_
          refine g_ishl F dX4_readObject_169 ?_
          refine g_ior F dX4_readObject_170 ?_
          obtain ⟨v16, ev16, hf⟩ := nmE hf
          refine g_nmi ev16 ?_
          refine g_istore (lv' := [(8, .int v16), (0, .ref a_p), (2, .int y2), (4, .int y4), (6, .int y6), (7, .int z7)]) F dX4_readObject_171 (by decide) rfl ?_
          refine g_iload F dX4_readObject_173 0 rfl ?_
          refine g_aload_n F dX4_readObject_175 rfl 1 rfl ?_
          obtain ⟨o17, ho17, hf⟩ := bnE hf
          refine g_callPi (n := 0) (As := []) F (c_X4_nextByte l dC dI cI cJ cH a_p a_bases_p a_tops_p a_words_p a_roots_p a_order_p a_numbers_p a_image_p a_other_p a_input_p a_fresh_p a_freshRoots_p a_heads_p a_kept_p a_thrown a_bases a_tops a_words a_roots a_reached a_order a_numbers a_size a_image a_otherSize a_other a_waiting a_input o15.2.1 o15.2.2 a_told a_many a_fresh a_freshRoots a_heads a_count a_kept o17 ho17) ggX4_readObject_X4_nextByte rfl rfl rfl (by decide +kernel) (by decide +kernel) (by decide +kernel) (by decide +kernel) (by decide +kernel) ⟨Nat.le_of_ble_eq_true rfl, Nat.le_of_ble_eq_true rfl⟩ ⟨Nat.le_of_ble_eq_true rfl, Nat.le_of_ble_eq_true rfl⟩ hN 0 rfl rfl rfl ([]) ([]) rfl (fun _ => rfl) rfl (Nat.le_of_ble_eq_true rfl) rfl dX4_readObject_176 (cells' := 0) (slots' := 0) rfl rfl (fun r u hp => ?_)
          obtain ⟨hp1, hp2⟩ := hp
          subst hp1
          subst hp2
          refine g_ws (ws' := wMd cI a_p a_bases_p a_tops_p a_words_p a_roots_p a_order_p a_numbers_p a_image_p a_other_p a_input_p a_fresh_p a_freshRoots_p a_heads_p a_kept_p a_thrown a_bases a_tops a_words a_roots a_reached a_order a_numbers a_size a_image a_otherSize a_other a_waiting a_input o17.2.1 o17.2.2 a_told a_many a_fresh a_freshRoots a_heads a_count a_kept) rfl ?_
          refine g_bipush (v := 16) F dX4_readObject_179 rfl ?_
          refine g_ishl F dX4_readObject_181 ?_
          refine g_ior F dX4_readObject_182 ?_
          obtain ⟨v18, ev18, hf⟩ := nmE hf
          refine g_nmi ev18 ?_
          refine g_istore (lv' := [(8, .int v18), (0, .ref a_p), (2, .int y2), (4, .int y4), (6, .int y6), (7, .int z7)]) F dX4_readObject_183 (by decide) rfl ?_
          refine g_aload_n F dX4_readObject_185 rfl 1 rfl ?_
          refine g_get F h_X4_readObject_4 0 rfl rfl 18 (by decide) (by decide +kernel) rfl dX4_readObject_186 ?_
          refine g_iload_n F dX4_readObject_189 rfl 2 rfl ?_
          refine g_iconst (v := 1) F dX4_readObject_190 rfl ?_
          refine g_iadd F dX4_readObject_191 ?_
          refine g_iload F dX4_readObject_192 5 rfl ?_
          refine g_iadd F dX4_readObject_194 ?_
          refine g_iload F dX4_readObject_195 0 rfl ?_
          refine g_aload_n F dX4_readObject_197 rfl 1 rfl ?_
          obtain ⟨o19, ho19, hf⟩ := bnE hf
          refine g_callPi (n := 0) (As := []) F (c_X4_nextByte l dC dI cI cJ cH a_p a_bases_p a_tops_p a_words_p a_roots_p a_order_p a_numbers_p a_image_p a_other_p a_input_p a_fresh_p a_freshRoots_p a_heads_p a_kept_p a_thrown a_bases a_tops a_words a_roots a_reached a_order a_numbers a_size a_image a_otherSize a_other a_waiting a_input o17.2.1 o17.2.2 a_told a_many a_fresh a_freshRoots a_heads a_count a_kept o19 ho19) ggX4_readObject_X4_nextByte rfl rfl rfl (by decide +kernel) (by decide +kernel) (by decide +kernel) (by decide +kernel) (by decide +kernel) ⟨Nat.le_of_ble_eq_true rfl, Nat.le_of_ble_eq_true rfl⟩ ⟨Nat.le_of_ble_eq_true rfl, Nat.le_of_ble_eq_true rfl⟩ hN 0 rfl rfl rfl ([]) ([]) rfl (fun _ => rfl) rfl (Nat.le_of_ble_eq_true rfl) rfl dX4_readObject_198 (cells' := 0) (slots' := 0) rfl rfl (fun r u hp => ?_)
          obtain ⟨hp1, hp2⟩ := hp
          subst hp1
          subst hp2
          refine g_ws (ws' := wMd cI a_p a_bases_p a_tops_p a_words_p a_roots_p a_order_p a_numbers_p a_image_p a_other_p a_input_p a_fresh_p a_freshRoots_p a_heads_p a_kept_p a_thrown a_bases a_tops a_words a_roots a_reached a_order a_numbers a_size a_image a_otherSize a_other a_waiting a_input o19.2.1 o19.2.2 a_told a_many a_fresh a_freshRoots a_heads a_count a_kept) rfl ?_
          refine g_bipush (v := 24) F dX4_readObject_201 rfl ?_
          refine g_ishl F dX4_readObject_203 ?_
          refine g_ior F dX4_readObject_204 ?_
          obtain ⟨h20, hf⟩ := ckE hf
          refine g_iast F 10 0 rfl rfl h20 dX4_readObject_205 (ws' := wMd cI a_p a_bases_p a_tops_p a_words_p a_roots_p a_order_p a_numbers_p a_image_p a_other_p a_input_p a_fresh_p a_freshRoots_p a_heads_p a_kept_p a_thrown a_bases a_tops a_words a_roots a_reached a_order a_numbers a_size a_image a_otherSize a_other a_waiting a_input o19.2.1 o19.2.2 a_told a_many (upd a_fresh ((y2 + (1 : Int32)) + z7).toNatClampNeg (v18 ||| (o19.1 <<< ((24 : Int32) &&& 31)))) a_freshRoots a_heads a_count a_kept) rfl ?_
          refine g_goto (tgt := 236) F dX4_readObject_206 (by decide) ?_
          obtain ⟨v21, ev21, hf⟩ := nmE hf
          refine g_iinc (j := 5) (lv' := [(7, .int v21), (8, .int v18), (0, .ref a_p), (2, .int y2), (4, .int y4), (6, .int y6)]) F dX4_readObject_236 rfl ev21.symm (by decide) rfl ?_
          refine g_goto (tgt := 135) F dX4_readObject_239 (by decide) ?_
          refine g_lv [2, 3, 4, 5, 0] rfl ?_
          exact ih _ _ _ _ _ _ o hf E0
def f_X4_readObject (a_waiting : Int32) (a_input : (Nat → Int32)) (a_at : Int32) (a_ended : Int32) (a_told : Int32) (a_many : Int32) (a_fresh : (Nat → Int32)) (a_heads : (Nat → Int32)) (a_count : Int64) (x1 : Int32) (x2 : Int32) : Option (Int32 × Int32 × Int32 × Int32 × (Nat → Int32) × (Nat → Int32) × Int64) :=
  Option.bind (f_X4_nextByte a_waiting a_input a_at a_ended) fun o1 => Option.bind (α := Int32) (if 0 ≤ o1.2.2 then some o1.2.2 else if o1.1 < (1 : Int32) then Option.bind (f_X4_stop o1.2.2 a_at) fun o26 => some o26 else if (3 : Int32) < o1.1 then Option.bind (f_X4_stop o1.2.2 a_at) fun o27 => some o27 else if x1 < a_told then some o1.2.2 else Option.bind (f_X4_stop o1.2.2 a_at) fun o28 => some o28) fun j2 => Option.bind (f_X4_nextByte a_waiting a_input o1.2.1 j2) fun o3 => Option.bind (α := Int32) (if 0 ≤ o3.2.2 then some o3.2.2 else Option.bind (f_X4_isSize o1.1 o3.1) fun o24 => if o24 = 0 then Option.bind (f_X4_stop o3.2.2 o1.2.1) fun o25 => some o25 else some o3.2.2) fun j4 => Option.bind (α := Int32) (if 0 ≤ j4 then some j4 else if ((x2 + (1 : Int32)) + o3.1) ≤ (256 : Int32) then some j4 else Option.bind (f_X4_stop j4 a_at) fun o23 => some o23) fun j5 => if j5 < 0 then ck (inR x1 256) (ck (inR x2 256) (Option.bind (f_X4_readObject_L135 a_waiting a_input a_many x2 o1.1 o3.1 FU (0 : Int32) o3.2.1 j5 a_told (upd a_fresh x2.toNatClampNeg (((64 : Int32) * o1.1) + o3.1)) a_count) fun o22 => some ((x2 + (1 : Int32)) + o3.1, o22.1, o22.2.1, o22.2.2.1, o22.2.2.2.1, upd a_heads x1.toNatClampNeg x2, o22.2.2.2.2))) else some (x2, o3.2.1, j5, a_told, a_fresh, a_heads, a_count)
set_option maxHeartbeats 4000000 in
set_option maxRecDepth 100000 in
theorem c_X4_readObject (l : Launch) (dC : Nat → ClassId) (dI : Nat → Nat → Nat) (cI cJ cH : ClassId) (a_p a_bases_p a_tops_p a_words_p a_roots_p a_order_p a_numbers_p a_image_p a_other_p a_input_p a_fresh_p a_freshRoots_p a_heads_p a_kept_p : Nat)  (a_thrown : Int32) (a_bases : (Nat → Int32)) (a_tops : (Nat → Int32)) (a_words : (Nat → Int32)) (a_roots : (Nat → Int32)) (a_reached : Int32) (a_order : (Nat → Int32)) (a_numbers : (Nat → Int32)) (a_size : Int32) (a_image : (Nat → Int32)) (a_otherSize : Int32) (a_other : (Nat → Int32)) (a_waiting : Int32) (a_input : (Nat → Int32)) (a_at : Int32) (a_ended : Int32) (a_told : Int32) (a_many : Int32) (a_fresh : (Nat → Int32)) (a_freshRoots : (Nat → Int32)) (a_heads : (Nat → Int32)) (a_count : Int64) (a_kept : (Nat → Int32)) (x1 : Int32) (x2 : Int32) (o : (Int32 × Int32 × Int32 × Int32 × (Nat → Int32) × (Nat → Int32) × Int64)) (hf : f_X4_readObject a_waiting a_input a_at a_ended a_told a_many a_fresh a_heads a_count x1 x2 = some o) : ∀ sz : Nat, Met l yX4_readObject wsX4_readObject rm_X4_readObject (gPre [.ref a_p, .int x1, .int x2] (dC, dI) vwCl (gT cI cJ cH) (wMd cI a_p a_bases_p a_tops_p a_words_p a_roots_p a_order_p a_numbers_p a_image_p a_other_p a_input_p a_fresh_p a_freshRoots_p a_heads_p a_kept_p a_thrown a_bases a_tops a_words a_roots a_reached a_order a_numbers a_size a_image a_otherSize a_other a_waiting a_input a_at a_ended a_told a_many a_fresh a_freshRoots a_heads a_count a_kept) sz) (va_Qi (fun (r : Int32) (u : (Int32 × Int32 × Int32 × (Nat → Int32) × (Nat → Int32) × Int64)) => o.1 = r ∧ o.2 = u) (gB (dC, dI) vwCl (gT cI cJ cH) (fun (u : (Int32 × Int32 × Int32 × (Nat → Int32) × (Nat → Int32) × Int64)) => wMd cI a_p a_bases_p a_tops_p a_words_p a_roots_p a_order_p a_numbers_p a_image_p a_other_p a_input_p a_fresh_p a_freshRoots_p a_heads_p a_kept_p a_thrown a_bases a_tops a_words a_roots a_reached a_order a_numbers a_size a_image a_otherSize a_other a_waiting a_input u.1 u.2.1 u.2.2.1 a_many u.2.2.2.1 a_freshRoots u.2.2.2.2.1 u.2.2.2.2.2 a_kept) (va_A (wMd cI a_p a_bases_p a_tops_p a_words_p a_roots_p a_order_p a_numbers_p a_image_p a_other_p a_input_p a_fresh_p a_freshRoots_p a_heads_p a_kept_p a_thrown a_bases a_tops a_words a_roots a_reached a_order a_numbers a_size a_image a_otherSize a_other a_waiting a_input a_at a_ended a_told a_many a_fresh a_freshRoots a_heads a_count a_kept) sz)) (va_A (wMd cI a_p a_bases_p a_tops_p a_words_p a_roots_p a_order_p a_numbers_p a_image_p a_other_p a_input_p a_fresh_p a_freshRoots_p a_heads_p a_kept_p a_thrown a_bases a_tops a_words a_roots a_reached a_order a_numbers a_size a_image a_otherSize a_other a_waiting a_input a_at a_ended a_told a_many a_fresh a_freshRoots a_heads a_count a_kept) sz)) 0 0 (va_A (wMd cI a_p a_bases_p a_tops_p a_words_p a_roots_p a_order_p a_numbers_p a_image_p a_other_p a_input_p a_fresh_p a_freshRoots_p a_heads_p a_kept_p a_thrown a_bases a_tops a_words a_roots a_reached a_order a_numbers a_size a_image a_otherSize a_other a_waiting a_input a_at a_ended a_told a_many a_fresh a_freshRoots a_heads a_count a_kept) sz) := by
  refine g_met (fun A => va_Qi (fun (r : Int32) (u : (Int32 × Int32 × Int32 × (Nat → Int32) × (Nat → Int32) × Int64)) => o.1 = r ∧ o.2 = u) (gB (dC, dI) vwCl (gT cI cJ cH) (fun (u : (Int32 × Int32 × Int32 × (Nat → Int32) × (Nat → Int32) × Int64)) => wMd cI a_p a_bases_p a_tops_p a_words_p a_roots_p a_order_p a_numbers_p a_image_p a_other_p a_input_p a_fresh_p a_freshRoots_p a_heads_p a_kept_p a_thrown a_bases a_tops a_words a_roots a_reached a_order a_numbers a_size a_image a_otherSize a_other a_waiting a_input u.1 u.2.1 u.2.2.1 a_many u.2.2.2.1 a_freshRoots u.2.2.2.2.1 u.2.2.2.2.2 a_kept) A) A) (by decide) rfl (Nat.le_of_ble_eq_true rfl) ?_
  intro p e s m args below meth c A Q F hlocks hr hname hN hQ
  unfold f_X4_readObject at hf
  refine g_lvE (lv' := [(0, .ref a_p), (1, .int x1), (2, .int x2)]) rfl ?_
  refine g_aload_n F dX4_readObject_0 rfl 0 rfl ?_
  refine g_get F h_X4_readObject_4 0 rfl rfl 14 (by decide) (by decide +kernel) rfl dX4_readObject_1 ?_
  refine g_istore_n (lv' := [(3, .int a_at), (0, .ref a_p), (1, .int x1), (2, .int x2)]) F dX4_readObject_4 rfl (by decide) rfl ?_
  refine g_aload_n F dX4_readObject_5 rfl 1 rfl ?_
  obtain ⟨o1, ho1, hf⟩ := bnE hf
  refine g_callPi (n := 0) (As := []) F (c_X4_nextByte l dC dI cI cJ cH a_p a_bases_p a_tops_p a_words_p a_roots_p a_order_p a_numbers_p a_image_p a_other_p a_input_p a_fresh_p a_freshRoots_p a_heads_p a_kept_p a_thrown a_bases a_tops a_words a_roots a_reached a_order a_numbers a_size a_image a_otherSize a_other a_waiting a_input a_at a_ended a_told a_many a_fresh a_freshRoots a_heads a_count a_kept o1 ho1) ggX4_readObject_X4_nextByte rfl rfl rfl (by decide +kernel) (by decide +kernel) (by decide +kernel) (by decide +kernel) (by decide +kernel) ⟨Nat.le_of_ble_eq_true rfl, Nat.le_of_ble_eq_true rfl⟩ ⟨Nat.le_of_ble_eq_true rfl, Nat.le_of_ble_eq_true rfl⟩ hN 0 rfl rfl rfl ([]) ([]) rfl (fun _ => rfl) rfl (Nat.le_of_ble_eq_true rfl) rfl dX4_readObject_6 (cells' := 0) (slots' := 0) rfl rfl (fun r u hp => ?_)
  obtain ⟨hp1, hp2⟩ := hp
  subst hp1
  subst hp2
  refine g_ws (ws' := wMd cI a_p a_bases_p a_tops_p a_words_p a_roots_p a_order_p a_numbers_p a_image_p a_other_p a_input_p a_fresh_p a_freshRoots_p a_heads_p a_kept_p a_thrown a_bases a_tops a_words a_roots a_reached a_order a_numbers a_size a_image a_otherSize a_other a_waiting a_input o1.2.1 o1.2.2 a_told a_many a_fresh a_freshRoots a_heads a_count a_kept) rfl ?_
  refine g_istore (lv' := [(4, .int o1.1), (3, .int a_at), (0, .ref a_p), (1, .int x1), (2, .int x2)]) F dX4_readObject_9 (by decide) rfl ?_
  refine g_aload_n F dX4_readObject_11 rfl 2 rfl ?_
  refine g_get F h_X4_readObject_4 0 rfl rfl 15 (by decide) (by decide +kernel) rfl dX4_readObject_12 ?_
  obtain ⟨j2, hj2, hf⟩ := bnE hf
  have Kj2 : gW p l e rm_X4_readObject s m args below meth c 0 0 Q (dC, dI) vwCl A 9 (wMd cI a_p a_bases_p a_tops_p a_words_p a_roots_p a_order_p a_numbers_p a_image_p a_other_p a_input_p a_fresh_p a_freshRoots_p a_heads_p a_kept_p a_thrown a_bases a_tops a_words a_roots a_reached a_order a_numbers a_size a_image a_otherSize a_other a_waiting a_input o1.2.1 j2 a_told a_many a_fresh a_freshRoots a_heads a_count a_kept) [(0, .ref a_p), (1, .int x1), (2, .int x2), (3, .int a_at), (4, .int o1.1)] 43 [] := by
    refine g_aload_n F dX4_readObject_43 rfl 0 rfl ?_
    refine g_get F h_X4_readObject_4 0 rfl rfl 14 (by decide) (by decide +kernel) rfl dX4_readObject_44 ?_
    refine g_istore (lv' := [(5, .int o1.2.1), (0, .ref a_p), (1, .int x1), (2, .int x2), (3, .int a_at), (4, .int o1.1)]) F dX4_readObject_47 (by decide) rfl ?_
    refine g_aload_n F dX4_readObject_49 rfl 1 rfl ?_
    obtain ⟨o3, ho3, hf⟩ := bnE hf
    refine g_callPi (n := 0) (As := []) F (c_X4_nextByte l dC dI cI cJ cH a_p a_bases_p a_tops_p a_words_p a_roots_p a_order_p a_numbers_p a_image_p a_other_p a_input_p a_fresh_p a_freshRoots_p a_heads_p a_kept_p a_thrown a_bases a_tops a_words a_roots a_reached a_order a_numbers a_size a_image a_otherSize a_other a_waiting a_input o1.2.1 j2 a_told a_many a_fresh a_freshRoots a_heads a_count a_kept o3 ho3) ggX4_readObject_X4_nextByte rfl rfl rfl (by decide +kernel) (by decide +kernel) (by decide +kernel) (by decide +kernel) (by decide +kernel) ⟨Nat.le_of_ble_eq_true rfl, Nat.le_of_ble_eq_true rfl⟩ ⟨Nat.le_of_ble_eq_true rfl, Nat.le_of_ble_eq_true rfl⟩ hN 0 rfl rfl rfl ([]) ([]) rfl (fun _ => rfl) rfl (Nat.le_of_ble_eq_true rfl) rfl dX4_readObject_50 (cells' := 0) (slots' := 0) rfl rfl (fun r u hp => ?_)
    obtain ⟨hp1, hp2⟩ := hp
    subst hp1
    subst hp2
    refine g_ws (ws' := wMd cI a_p a_bases_p a_tops_p a_words_p a_roots_p a_order_p a_numbers_p a_image_p a_other_p a_input_p a_fresh_p a_freshRoots_p a_heads_p a_kept_p a_thrown a_bases a_tops a_words a_roots a_reached a_order a_numbers a_size a_image a_otherSize a_other a_waiting a_input o3.2.1 o3.2.2 a_told a_many a_fresh a_freshRoots a_heads a_count a_kept) rfl ?_
    refine g_istore (lv' := [(6, .int o3.1), (5, .int o1.2.1), (0, .ref a_p), (1, .int x1), (2, .int x2), (3, .int a_at), (4, .int o1.1)]) F dX4_readObject_53 (by decide) rfl ?_
    refine g_aload_n F dX4_readObject_55 rfl 2 rfl ?_
    refine g_get F h_X4_readObject_4 0 rfl rfl 15 (by decide) (by decide +kernel) rfl dX4_readObject_56 ?_
    obtain ⟨j4, hj4, hf⟩ := bnE hf
    have Kj4 : gW p l e rm_X4_readObject s m args below meth c 0 0 Q (dC, dI) vwCl A 9 (wMd cI a_p a_bases_p a_tops_p a_words_p a_roots_p a_order_p a_numbers_p a_image_p a_other_p a_input_p a_fresh_p a_freshRoots_p a_heads_p a_kept_p a_thrown a_bases a_tops a_words a_roots a_reached a_order a_numbers a_size a_image a_otherSize a_other a_waiting a_input o3.2.1 j4 a_told a_many a_fresh a_freshRoots a_heads a_count a_kept) [(0, .ref a_p), (1, .int x1), (2, .int x2), (3, .int a_at), (4, .int o1.1), (6, .int o3.1)] 78 [] := by
      refine g_aload_n F dX4_readObject_78 rfl 0 rfl ?_
      refine g_get F h_X4_readObject_4 0 rfl rfl 15 (by decide) (by decide +kernel) rfl dX4_readObject_79 ?_
      obtain ⟨j5, hj5, hf⟩ := bnE hf
      have Kj5 : gW p l e rm_X4_readObject s m args below meth c 0 0 Q (dC, dI) vwCl A 9 (wMd cI a_p a_bases_p a_tops_p a_words_p a_roots_p a_order_p a_numbers_p a_image_p a_other_p a_input_p a_fresh_p a_freshRoots_p a_heads_p a_kept_p a_thrown a_bases a_tops a_words a_roots a_reached a_order a_numbers a_size a_image a_otherSize a_other a_waiting a_input o3.2.1 j5 a_told a_many a_fresh a_freshRoots a_heads a_count a_kept) [(0, .ref a_p), (1, .int x1), (2, .int x2), (4, .int o1.1), (6, .int o3.1)] 102 [] := by
        refine g_aload_n F dX4_readObject_102 rfl 0 rfl ?_
        refine g_get F h_X4_readObject_4 0 rfl rfl 15 (by decide) (by decide +kernel) rfl dX4_readObject_103 ?_
        refine g_if_lt (tgt := 111) F dX4_readObject_106 (by decide) (fun c106 => ?_) (fun c106 => ?_)
        · have hf := iteT hf c106
          refine g_aload_n F dX4_readObject_111 rfl 0 rfl ?_
          refine g_get F h_X4_readObject_4 0 rfl rfl 20 (by decide) (by decide +kernel) rfl dX4_readObject_112 ?_
          refine g_iload_n F dX4_readObject_115 rfl 1 rfl ?_
          refine g_iload_n F dX4_readObject_116 rfl 2 rfl ?_
          obtain ⟨h6, hf⟩ := ckE hf
          refine g_iast F 12 0 rfl rfl h6 dX4_readObject_117 (ws' := wMd cI a_p a_bases_p a_tops_p a_words_p a_roots_p a_order_p a_numbers_p a_image_p a_other_p a_input_p a_fresh_p a_freshRoots_p a_heads_p a_kept_p a_thrown a_bases a_tops a_words a_roots a_reached a_order a_numbers a_size a_image a_otherSize a_other a_waiting a_input o3.2.1 j5 a_told a_many a_fresh a_freshRoots (upd a_heads x1.toNatClampNeg x2) a_count a_kept) rfl ?_
          refine g_aload_n F dX4_readObject_118 rfl 0 rfl ?_
          refine g_get F h_X4_readObject_4 0 rfl rfl 18 (by decide) (by decide +kernel) rfl dX4_readObject_119 ?_
          refine g_iload_n F dX4_readObject_122 rfl 2 rfl ?_
          refine g_bipush (v := 64) F dX4_readObject_123 rfl ?_
          refine g_iload F dX4_readObject_125 3 rfl ?_
          refine g_imul F dX4_readObject_127 ?_
          refine g_iload F dX4_readObject_128 4 rfl ?_
          refine g_iadd F dX4_readObject_130 ?_
          obtain ⟨h7, hf⟩ := ckE hf
          refine g_iast F 10 0 rfl rfl h7 dX4_readObject_131 (ws' := wMd cI a_p a_bases_p a_tops_p a_words_p a_roots_p a_order_p a_numbers_p a_image_p a_other_p a_input_p a_fresh_p a_freshRoots_p a_heads_p a_kept_p a_thrown a_bases a_tops a_words a_roots a_reached a_order a_numbers a_size a_image a_otherSize a_other a_waiting a_input o3.2.1 j5 a_told a_many (upd a_fresh x2.toNatClampNeg (((64 : Int32) * o1.1) + o3.1)) a_freshRoots (upd a_heads x1.toNatClampNeg x2) a_count a_kept) rfl ?_
          refine g_iconst (v := 0) F dX4_readObject_132 rfl ?_
          refine g_istore (lv' := [(7, .int (0 : Int32)), (0, .ref a_p), (1, .int x1), (2, .int x2), (4, .int o1.1), (6, .int o3.1)]) F dX4_readObject_133 (by decide) rfl ?_
          obtain ⟨o22, ho22, hf⟩ := bnE hf
          refine g_lv [1, 3, 4, 5, 0] rfl ?_
          refine w_X4_readObject_L135 F hN FU _ _ _ _ _ _ o22 ho22 ?_
          refine g_iload_n F dX4_readObject_242 rfl 0 rfl ?_
          refine g_iconst (v := 1) F dX4_readObject_243 rfl ?_
          refine g_iadd F dX4_readObject_244 ?_
          refine g_iload F dX4_readObject_245 1 rfl ?_
          refine g_iadd F dX4_readObject_247 ?_
          subst hQ
          exact g_iret F hlocks hr (o22.1, o22.2.1, o22.2.2.1, o22.2.2.2.1, upd a_heads x1.toNatClampNeg x2, o22.2.2.2.2) rfl (pr2 (Option.some.inj hf)) dX4_readObject_248
        · have hf := iteF hf c106
          refine g_iload_n F dX4_readObject_109 rfl 2 rfl ?_
          subst hQ
          exact g_iret F hlocks hr (o3.2.1, j5, a_told, a_fresh, a_heads, a_count) rfl (pr2 (Option.some.inj hf)) dX4_readObject_110
      clear hf
      have hf := hj5
      refine g_if_ge (tgt := 102) F dX4_readObject_82 (by decide) (fun c82 => ?_) (fun c82 => ?_)
      · have hf := iteT hf c82
        cases hf
        refine g_lv [0, 1, 2, 4, 5] rfl ?_
        exact Kj5
      · have hf := iteF hf c82
        refine g_iload_n F dX4_readObject_85 rfl 2 rfl ?_
        refine g_iconst (v := 1) F dX4_readObject_86 rfl ?_
        refine g_iadd F dX4_readObject_87 ?_
        refine g_iload F dX4_readObject_88 5 rfl ?_
        refine g_iadd F dX4_readObject_90 ?_
        refine g_sipush (v := 256) F dX4_readObject_91 rfl ?_
        refine g_icmp_le (tgt := 102) F dX4_readObject_94 (by decide) (fun c94 => ?_) (fun c94 => ?_)
        · have hf := iteT hf c94
          cases hf
          refine g_lv [0, 1, 2, 4, 5] rfl ?_
          exact Kj5
        · have hf := iteF hf c94
          refine g_aload_n F dX4_readObject_97 rfl 0 rfl ?_
          refine g_iload_n F dX4_readObject_98 rfl 3 rfl ?_
          obtain ⟨o23, ho23, hf⟩ := bnE hf
          refine g_callPv (n := 1) (As := [.int a_at]) F (c_X4_stop l dC dI cI cJ cH a_p a_bases_p a_tops_p a_words_p a_roots_p a_order_p a_numbers_p a_image_p a_other_p a_input_p a_fresh_p a_freshRoots_p a_heads_p a_kept_p a_thrown a_bases a_tops a_words a_roots a_reached a_order a_numbers a_size a_image a_otherSize a_other a_waiting a_input o3.2.1 j4 a_told a_many a_fresh a_freshRoots a_heads a_count a_kept a_at o23 ho23) ggX4_readObject_X4_stop rfl rfl rfl (by decide +kernel) (by decide +kernel) (by decide +kernel) (by decide +kernel) (by decide +kernel) ⟨Nat.le_of_ble_eq_true rfl, Nat.le_of_ble_eq_true rfl⟩ ⟨Nat.le_of_ble_eq_true rfl, Nat.le_of_ble_eq_true rfl⟩ hN 0 rfl rfl rfl ([]) ([]) rfl (fun _ => rfl) rfl (Nat.le_of_ble_eq_true rfl) rfl dX4_readObject_99 (cells' := 0) (slots' := 0) rfl rfl (fun u hp => ?_)
          subst hp
          refine g_ws (ws' := wMd cI a_p a_bases_p a_tops_p a_words_p a_roots_p a_order_p a_numbers_p a_image_p a_other_p a_input_p a_fresh_p a_freshRoots_p a_heads_p a_kept_p a_thrown a_bases a_tops a_words a_roots a_reached a_order a_numbers a_size a_image a_otherSize a_other a_waiting a_input o3.2.1 o23 a_told a_many a_fresh a_freshRoots a_heads a_count a_kept) rfl ?_
          cases hf
          refine g_lv [0, 1, 2, 4, 5] rfl ?_
          exact Kj5
    clear hf
    have hf := hj4
    refine g_if_ge (tgt := 78) F dX4_readObject_59 (by decide) (fun c59 => ?_) (fun c59 => ?_)
    · have hf := iteT hf c59
      cases hf
      refine g_lv [2, 3, 4, 5, 6, 0] rfl ?_
      exact Kj4
    · have hf := iteF hf c59
      refine g_iload F dX4_readObject_62 6 rfl ?_
      refine g_iload F dX4_readObject_64 0 rfl ?_
      obtain ⟨o24, ho24, hf⟩ := bnE hf
      refine g_callSi (n := 2) (As := [.int o1.1, .int o3.1]) F (c_X4_isSize l dC dI cI cJ cH o1.1 o3.1 o24 ho24) ggX4_readObject_X4_isSize rfl rfl rfl (by decide +kernel) (by decide +kernel) (by decide +kernel) (by decide +kernel) ⟨Nat.le_of_ble_eq_true rfl, Nat.le_of_ble_eq_true rfl⟩ ⟨Nat.le_of_ble_eq_true rfl, Nat.le_of_ble_eq_true rfl⟩ hN [] rfl rfl (fun _ => rfl) rfl (Nat.le_of_ble_eq_true rfl) rfl dX4_readObject_66 (cells' := 0) (slots' := 0) rfl rfl (fun r u hp => ?_)
      subst hp
      refine g_ws (ws' := wMd cI a_p a_bases_p a_tops_p a_words_p a_roots_p a_order_p a_numbers_p a_image_p a_other_p a_input_p a_fresh_p a_freshRoots_p a_heads_p a_kept_p a_thrown a_bases a_tops a_words a_roots a_reached a_order a_numbers a_size a_image a_otherSize a_other a_waiting a_input o3.2.1 o3.2.2 a_told a_many a_fresh a_freshRoots a_heads a_count a_kept) rfl ?_
      refine g_if_ne (tgt := 78) F dX4_readObject_69 (by decide) (fun c69 => ?_) (fun c69 => ?_)
      · have hf := iteF hf c69
        cases hf
        refine g_lv [2, 3, 4, 5, 6, 0] rfl ?_
        exact Kj4
      · have hf := iteT hf c69
        refine g_aload_n F dX4_readObject_72 rfl 2 rfl ?_
        refine g_iload F dX4_readObject_73 1 rfl ?_
        obtain ⟨o25, ho25, hf⟩ := bnE hf
        refine g_callPv (n := 1) (As := [.int o1.2.1]) F (c_X4_stop l dC dI cI cJ cH a_p a_bases_p a_tops_p a_words_p a_roots_p a_order_p a_numbers_p a_image_p a_other_p a_input_p a_fresh_p a_freshRoots_p a_heads_p a_kept_p a_thrown a_bases a_tops a_words a_roots a_reached a_order a_numbers a_size a_image a_otherSize a_other a_waiting a_input o3.2.1 o3.2.2 a_told a_many a_fresh a_freshRoots a_heads a_count a_kept o1.2.1 o25 ho25) ggX4_readObject_X4_stop rfl rfl rfl (by decide +kernel) (by decide +kernel) (by decide +kernel) (by decide +kernel) (by decide +kernel) ⟨Nat.le_of_ble_eq_true rfl, Nat.le_of_ble_eq_true rfl⟩ ⟨Nat.le_of_ble_eq_true rfl, Nat.le_of_ble_eq_true rfl⟩ hN 0 rfl rfl rfl ([]) ([]) rfl (fun _ => rfl) rfl (Nat.le_of_ble_eq_true rfl) rfl dX4_readObject_75 (cells' := 0) (slots' := 0) rfl rfl (fun u hp => ?_)
        subst hp
        refine g_ws (ws' := wMd cI a_p a_bases_p a_tops_p a_words_p a_roots_p a_order_p a_numbers_p a_image_p a_other_p a_input_p a_fresh_p a_freshRoots_p a_heads_p a_kept_p a_thrown a_bases a_tops a_words a_roots a_reached a_order a_numbers a_size a_image a_otherSize a_other a_waiting a_input o3.2.1 o25 a_told a_many a_fresh a_freshRoots a_heads a_count a_kept) rfl ?_
        cases hf
        refine g_lv [2, 3, 4, 5, 6, 0] rfl ?_
        exact Kj4
  clear hf
  have hf := hj2
  refine g_if_ge (tgt := 43) F dX4_readObject_15 (by decide) (fun c15 => ?_) (fun c15 => ?_)
  · have hf := iteT hf c15
    cases hf
    refine g_lv [2, 3, 4, 1, 0] rfl ?_
    exact Kj2
  · have hf := iteF hf c15
    refine g_iload F dX4_readObject_18 0 rfl ?_
    refine g_iconst (v := 1) F dX4_readObject_20 rfl ?_
    refine g_icmp_lt (tgt := 38) F dX4_readObject_21 (by decide) (fun c21 => ?_) (fun c21 => ?_)
    · have hf := iteT hf c21
      refine g_aload_n F dX4_readObject_38 rfl 2 rfl ?_
      refine g_iload_n F dX4_readObject_39 rfl 1 rfl ?_
      obtain ⟨o26, ho26, hf⟩ := bnE hf
      refine g_callPv (n := 1) (As := [.int a_at]) F (c_X4_stop l dC dI cI cJ cH a_p a_bases_p a_tops_p a_words_p a_roots_p a_order_p a_numbers_p a_image_p a_other_p a_input_p a_fresh_p a_freshRoots_p a_heads_p a_kept_p a_thrown a_bases a_tops a_words a_roots a_reached a_order a_numbers a_size a_image a_otherSize a_other a_waiting a_input o1.2.1 o1.2.2 a_told a_many a_fresh a_freshRoots a_heads a_count a_kept a_at o26 ho26) ggX4_readObject_X4_stop rfl rfl rfl (by decide +kernel) (by decide +kernel) (by decide +kernel) (by decide +kernel) (by decide +kernel) ⟨Nat.le_of_ble_eq_true rfl, Nat.le_of_ble_eq_true rfl⟩ ⟨Nat.le_of_ble_eq_true rfl, Nat.le_of_ble_eq_true rfl⟩ hN 0 rfl rfl rfl ([]) ([]) rfl (fun _ => rfl) rfl (Nat.le_of_ble_eq_true rfl) rfl dX4_readObject_40 (cells' := 0) (slots' := 0) rfl rfl (fun u hp => ?_)
      subst hp
      refine g_ws (ws' := wMd cI a_p a_bases_p a_tops_p a_words_p a_roots_p a_order_p a_numbers_p a_image_p a_other_p a_input_p a_fresh_p a_freshRoots_p a_heads_p a_kept_p a_thrown a_bases a_tops a_words a_roots a_reached a_order a_numbers a_size a_image a_otherSize a_other a_waiting a_input o1.2.1 o26 a_told a_many a_fresh a_freshRoots a_heads a_count a_kept) rfl ?_
      cases hf
      refine g_lv [2, 3, 4, 1, 0] rfl ?_
      exact Kj2
    · have hf := iteF hf c21
      refine g_iload F dX4_readObject_24 0 rfl ?_
      refine g_iconst (v := 3) F dX4_readObject_26 rfl ?_
      refine g_icmp_gt (tgt := 38) F dX4_readObject_27 (by decide) (fun c27 => ?_) (fun c27 => ?_)
      · have hf := iteT hf c27
        refine g_aload_n F dX4_readObject_38 rfl 2 rfl ?_
        refine g_iload_n F dX4_readObject_39 rfl 1 rfl ?_
        obtain ⟨o27, ho27, hf⟩ := bnE hf
        refine g_callPv (n := 1) (As := [.int a_at]) F (c_X4_stop l dC dI cI cJ cH a_p a_bases_p a_tops_p a_words_p a_roots_p a_order_p a_numbers_p a_image_p a_other_p a_input_p a_fresh_p a_freshRoots_p a_heads_p a_kept_p a_thrown a_bases a_tops a_words a_roots a_reached a_order a_numbers a_size a_image a_otherSize a_other a_waiting a_input o1.2.1 o1.2.2 a_told a_many a_fresh a_freshRoots a_heads a_count a_kept a_at o27 ho27) ggX4_readObject_X4_stop rfl rfl rfl (by decide +kernel) (by decide +kernel) (by decide +kernel) (by decide +kernel) (by decide +kernel) ⟨Nat.le_of_ble_eq_true rfl, Nat.le_of_ble_eq_true rfl⟩ ⟨Nat.le_of_ble_eq_true rfl, Nat.le_of_ble_eq_true rfl⟩ hN 0 rfl rfl rfl ([]) ([]) rfl (fun _ => rfl) rfl (Nat.le_of_ble_eq_true rfl) rfl dX4_readObject_40 (cells' := 0) (slots' := 0) rfl rfl (fun u hp => ?_)
        subst hp
        refine g_ws (ws' := wMd cI a_p a_bases_p a_tops_p a_words_p a_roots_p a_order_p a_numbers_p a_image_p a_other_p a_input_p a_fresh_p a_freshRoots_p a_heads_p a_kept_p a_thrown a_bases a_tops a_words a_roots a_reached a_order a_numbers a_size a_image a_otherSize a_other a_waiting a_input o1.2.1 o27 a_told a_many a_fresh a_freshRoots a_heads a_count a_kept) rfl ?_
        cases hf
        refine g_lv [2, 3, 4, 1, 0] rfl ?_
        exact Kj2
      · have hf := iteF hf c27
        refine g_iload_n F dX4_readObject_30 rfl 3 rfl ?_
        refine g_aload_n F dX4_readObject_31 rfl 2 rfl ?_
        refine g_get F h_X4_readObject_4 0 rfl rfl 16 (by decide) (by decide +kernel) rfl dX4_readObject_32 ?_
        refine g_icmp_lt (tgt := 43) F dX4_readObject_35 (by decide) (fun c35 => ?_) (fun c35 => ?_)
        · have hf := iteT hf c35
          cases hf
          refine g_lv [2, 3, 4, 1, 0] rfl ?_
          exact Kj2
        · have hf := iteF hf c35
          refine g_aload_n F dX4_readObject_38 rfl 2 rfl ?_
          refine g_iload_n F dX4_readObject_39 rfl 1 rfl ?_
          obtain ⟨o28, ho28, hf⟩ := bnE hf
          refine g_callPv (n := 1) (As := [.int a_at]) F (c_X4_stop l dC dI cI cJ cH a_p a_bases_p a_tops_p a_words_p a_roots_p a_order_p a_numbers_p a_image_p a_other_p a_input_p a_fresh_p a_freshRoots_p a_heads_p a_kept_p a_thrown a_bases a_tops a_words a_roots a_reached a_order a_numbers a_size a_image a_otherSize a_other a_waiting a_input o1.2.1 o1.2.2 a_told a_many a_fresh a_freshRoots a_heads a_count a_kept a_at o28 ho28) ggX4_readObject_X4_stop rfl rfl rfl (by decide +kernel) (by decide +kernel) (by decide +kernel) (by decide +kernel) (by decide +kernel) ⟨Nat.le_of_ble_eq_true rfl, Nat.le_of_ble_eq_true rfl⟩ ⟨Nat.le_of_ble_eq_true rfl, Nat.le_of_ble_eq_true rfl⟩ hN 0 rfl rfl rfl ([]) ([]) rfl (fun _ => rfl) rfl (Nat.le_of_ble_eq_true rfl) rfl dX4_readObject_40 (cells' := 0) (slots' := 0) rfl rfl (fun u hp => ?_)
          subst hp
          refine g_ws (ws' := wMd cI a_p a_bases_p a_tops_p a_words_p a_roots_p a_order_p a_numbers_p a_image_p a_other_p a_input_p a_fresh_p a_freshRoots_p a_heads_p a_kept_p a_thrown a_bases a_tops a_words a_roots a_reached a_order a_numbers a_size a_image a_otherSize a_other a_waiting a_input o1.2.1 o28 a_told a_many a_fresh a_freshRoots a_heads a_count a_kept) rfl ?_
          cases hf
          refine g_lv [2, 3, 4, 1, 0] rfl ?_
          exact Kj2
