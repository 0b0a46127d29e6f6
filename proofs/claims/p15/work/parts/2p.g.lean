/-! HeapImagesModel.readAll()V -/
def rm_X4_readAll : Room := { frames := 5, cells := 0, slots := 0, locals := 120 }
theorem h_X4_readAll_4 : ∀ w ∈ wsX40, w ∈ wsX4_readAll := by decide +kernel
def f_X4_readAll_L22_s (a_waiting : Int32) (a_input : (Nat → Int32)) (rc : Int32 → Int32 → Int32 → Option (Int32 × Int32)) (z1 : Int32) (a_at : Int32) (a_ended : Int32) : Option (Int32 × Int32) :=
  if (3 : Int32) ≤ z1 then some (a_at, a_ended) else Option.bind (f_X4_nextByte a_waiting a_input a_at a_ended) fun o1 => if 0 ≤ o1.2.2 then nm (z1 + (1 : Int32)) fun v2 => rc v2 o1.2.1 o1.2.2 else if z1 = 0 then if o1.1 = (72 : Int32) then nm (z1 + (1 : Int32)) fun v9 => rc v9 o1.2.1 o1.2.2 else Option.bind (f_X4_stop o1.2.2 z1) fun o10 => nm (z1 + (1 : Int32)) fun v11 => rc v11 o1.2.1 o10 else if z1 = (1 : Int32) then if o1.1 = (73 : Int32) then nm (z1 + (1 : Int32)) fun v6 => rc v6 o1.2.1 o1.2.2 else Option.bind (f_X4_stop o1.2.2 z1) fun o7 => nm (z1 + (1 : Int32)) fun v8 => rc v8 o1.2.1 o7 else if o1.1 = (1 : Int32) then nm (z1 + (1 : Int32)) fun v3 => rc v3 o1.2.1 o1.2.2 else Option.bind (f_X4_stop o1.2.2 z1) fun o4 => nm (z1 + (1 : Int32)) fun v5 => rc v5 o1.2.1 o4
def f_X4_readAll_L22 (a_waiting : Int32) (a_input : (Nat → Int32)) : Nat → Int32 → Int32 → Int32 → Option (Int32 × Int32)
  | 0, _, _, _ => none
  | n + 1, z1, a_at, a_ended => f_X4_readAll_L22_s a_waiting a_input (f_X4_readAll_L22 a_waiting a_input n) z1 a_at a_ended
set_option maxHeartbeats 4000000 in
theorem w_X4_readAll_L22 {p : Program} {l : Launch} {e : Env} {s : State} {m : MethodId} {args : Array Value} {below : List Frame} {meth : Method} {c : Code} {A : Nat → Prop} {Q : State → Prop} {dC : Nat → ClassId} {dI : Nat → Nat → Nat} {cI cJ cH : ClassId} {a_p a_bases_p a_tops_p a_words_p a_roots_p a_order_p a_numbers_p a_image_p a_other_p a_input_p a_fresh_p a_freshRoots_p a_heads_p a_kept_p : Nat} {a_thrown : Int32} {a_bases : (Nat → Int32)} {a_tops : (Nat → Int32)} {a_words : (Nat → Int32)} {a_roots : (Nat → Int32)} {a_reached : Int32} {a_order : (Nat → Int32)} {a_numbers : (Nat → Int32)} {a_size : Int32} {a_image : (Nat → Int32)} {a_otherSize : Int32} {a_other : (Nat → Int32)} {a_waiting : Int32} {a_input : (Nat → Int32)} {a_told : Int32} {a_many : Int32} {a_fresh : (Nat → Int32)} {a_freshRoots : (Nat → Int32)} {a_heads : (Nat → Int32)} {a_count : Int64} {a_kept : (Nat → Int32)}  (F : gF p m c cX4_readAll 6 s args wsX4_readAll yX4_readAll.cls (dC, dI) vwCl (gT cI cJ cH) A) (hN : ∀ w ∈ gN, va_Nw w s) : ∀ (n : Nat) (z1 : Int32) (a_at : Int32) (a_ended : Int32) (o : (Int32 × Int32)), f_X4_readAll_L22 a_waiting a_input n z1 a_at a_ended = some o → (gW p l e rm_X4_readAll s m args below meth c 0 0 Q (dC, dI) vwCl A 6 (wMd cI a_p a_bases_p a_tops_p a_words_p a_roots_p a_order_p a_numbers_p a_image_p a_other_p a_input_p a_fresh_p a_freshRoots_p a_heads_p a_kept_p a_thrown a_bases a_tops a_words a_roots a_reached a_order a_numbers a_size a_image a_otherSize a_other a_waiting a_input o.1 o.2 a_told a_many a_fresh a_freshRoots a_heads a_count a_kept) [(0, .ref a_p)] 74 []) → gW p l e rm_X4_readAll s m args below meth c 0 0 Q (dC, dI) vwCl A 6 (wMd cI a_p a_bases_p a_tops_p a_words_p a_roots_p a_order_p a_numbers_p a_image_p a_other_p a_input_p a_fresh_p a_freshRoots_p a_heads_p a_kept_p a_thrown a_bases a_tops a_words a_roots a_reached a_order a_numbers a_size a_image a_otherSize a_other a_waiting a_input a_at a_ended a_told a_many a_fresh a_freshRoots a_heads a_count a_kept) [(0, .ref a_p), (1, .int z1)] 22 [] := by
  intro n
  induction n with
  | zero =>
    intro z1 a_at a_ended o hf E0
    change none = some o at hf
    cases hf
  | succ n ih =>
    intro z1 a_at a_ended o hf E0
    change f_X4_readAll_L22_s a_waiting a_input (f_X4_readAll_L22 a_waiting a_input n) z1 a_at a_ended = some o at hf
    unfold f_X4_readAll_L22_s at hf
    refine g_iload_n F dX4_readAll_22 rfl 1 rfl ?_
    refine g_iconst (v := 3) F dX4_readAll_23 rfl ?_
    refine g_icmp_ge (tgt := 74) F dX4_readAll_24 (by decide) (fun c24 => ?_) (fun c24 => ?_)
    · have hf := iteT hf c24
      cases hf
      refine g_lv [0] rfl ?_
      exact E0
    · have hf := iteF hf c24
      refine g_aload_n F dX4_readAll_27 rfl 0 rfl ?_
      obtain ⟨o1, ho1, hf⟩ := bnE hf
      refine g_callPi (n := 0) (As := []) F (c_X4_nextByte l dC dI cI cJ cH a_p a_bases_p a_tops_p a_words_p a_roots_p a_order_p a_numbers_p a_image_p a_other_p a_input_p a_fresh_p a_freshRoots_p a_heads_p a_kept_p a_thrown a_bases a_tops a_words a_roots a_reached a_order a_numbers a_size a_image a_otherSize a_other a_waiting a_input a_at a_ended a_told a_many a_fresh a_freshRoots a_heads a_count a_kept o1 ho1) ggX4_readAll_X4_nextByte rfl rfl rfl (by decide +kernel) (by decide +kernel) (by decide +kernel) (by decide +kernel) (by decide +kernel) ⟨Nat.le_of_ble_eq_true rfl, Nat.le_of_ble_eq_true rfl⟩ ⟨Nat.le_of_ble_eq_true rfl, Nat.le_of_ble_eq_true rfl⟩ hN 0 rfl rfl rfl ([]) ([]) rfl (fun _ => rfl) rfl (Nat.le_of_ble_eq_true rfl) rfl dX4_readAll_28 (cells' := 0) (slots' := 0) rfl rfl (fun r u hp => ?_)
      obtain ⟨hp1, hp2⟩ := hp
      subst hp1
      subst hp2
      refine g_ws (ws' := wMd cI a_p a_bases_p a_tops_p a_words_p a_roots_p a_order_p a_numbers_p a_image_p a_other_p a_input_p a_fresh_p a_freshRoots_p a_heads_p a_kept_p a_thrown a_bases a_tops a_words a_roots a_reached a_order a_numbers a_size a_image a_otherSize a_other a_waiting a_input o1.2.1 o1.2.2 a_told a_many a_fresh a_freshRoots a_heads a_count a_kept) rfl ?_
      refine g_istore_n (lv' := [(2, .int o1.1), (0, .ref a_p), (1, .int z1)]) F dX4_readAll_31 rfl (by decide) rfl ?_
      refine g_aload_n F dX4_readAll_32 rfl 1 rfl ?_
      refine g_get F h_X4_readAll_4 0 rfl rfl 15 (by decide) (by decide +kernel) rfl dX4_readAll_33 ?_
      refine g_if_ge (tgt := 68) F dX4_readAll_36 (by decide) (fun c36 => ?_) (fun c36 => ?_)
      · have hf := iteT hf c36
        obtain ⟨v2, ev2, hf⟩ := nmE hf
        refine g_iinc (j := 2) (lv' := [(1, .int v2), (2, .int o1.1), (0, .ref a_p)]) F dX4_readAll_68 rfl ev2.symm (by decide) rfl ?_
        refine g_goto (tgt := 22) F dX4_readAll_71 (by decide) ?_
        refine g_lv [2, 0] rfl ?_
        exact ih _ _ _ o hf E0
      · have hf := iteF hf c36
        refine g_iload_n F dX4_readAll_39 rfl 0 rfl ?_
        refine g_iload_n F dX4_readAll_40 rfl 2 rfl ?_
        refine g_if_ne (tgt := 49) F dX4_readAll_41 (by decide) (fun c41 => ?_) (fun c41 => ?_)
        · have hf := iteF hf c41
          refine g_iload_n F dX4_readAll_49 rfl 2 rfl ?_
          refine g_iconst (v := 1) F dX4_readAll_50 rfl ?_
          refine g_icmp_ne (tgt := 59) F dX4_readAll_51 (by decide) (fun c51 => ?_) (fun c51 => ?_)
          · have hf := iteF hf c51
            refine g_iconst (v := 1) F dX4_readAll_59 rfl ?_
            refine g_icmp_eq (tgt := 68) F dX4_readAll_60 (by decide) (fun c60 => ?_) (fun c60 => ?_)
            · have hf := iteT hf c60
              obtain ⟨v3, ev3, hf⟩ := nmE hf
              refine g_iinc (j := 2) (lv' := [(1, .int v3), (2, .int o1.1), (0, .ref a_p)]) F dX4_readAll_68 rfl ev3.symm (by decide) rfl ?_
              refine g_goto (tgt := 22) F dX4_readAll_71 (by decide) ?_
              refine g_lv [2, 0] rfl ?_
              exact ih _ _ _ o hf E0
            · have hf := iteF hf c60
              refine g_aload_n F dX4_readAll_63 rfl 1 rfl ?_
              refine g_iload_n F dX4_readAll_64 rfl 2 rfl ?_
              obtain ⟨o4, ho4, hf⟩ := bnE hf
              refine g_callPv (n := 1) (As := [.int z1]) F (c_X4_stop l dC dI cI cJ cH a_p a_bases_p a_tops_p a_words_p a_roots_p a_order_p a_numbers_p a_image_p a_other_p a_input_p a_fresh_p a_freshRoots_p a_heads_p a_kept_p a_thrown a_bases a_tops a_words a_roots a_reached a_order a_numbers a_size a_image a_otherSize a_other a_waiting a_input o1.2.1 o1.2.2 a_told a_many a_fresh a_freshRoots a_heads a_count a_kept z1 o4 ho4) ggX4_readAll_X4_stop rfl rfl rfl (by decide +kernel) (by decide +kernel) (by decide +kernel) (by decide +kernel) (by decide +kernel) ⟨Nat.le_of_ble_eq_true rfl, Nat.le_of_ble_eq_true rfl⟩ ⟨Nat.le_of_ble_eq_true rfl, Nat.le_of_ble_eq_true rfl⟩ hN 0 rfl rfl rfl ([]) ([]) rfl (fun _ => rfl) rfl (Nat.le_of_ble_eq_true rfl) rfl dX4_readAll_65 (cells' := 0) (slots' := 0) rfl rfl (fun u hp => ?_)
              subst hp
              refine g_ws (ws' := wMd cI a_p a_bases_p a_tops_p a_words_p a_roots_p a_order_p a_numbers_p a_image_p a_other_p a_input_p a_fresh_p a_freshRoots_p a_heads_p a_kept_p a_thrown a_bases a_tops a_words a_roots a_reached a_order a_numbers a_size a_image a_otherSize a_other a_waiting a_input o1.2.1 o4 a_told a_many a_fresh a_freshRoots a_heads a_count a_kept) rfl ?_
              obtain ⟨v5, ev5, hf⟩ := nmE hf
              refine g_iinc (j := 2) (lv' := [(1, .int v5), (2, .int o1.1), (0, .ref a_p)]) F dX4_readAll_68 rfl ev5.symm (by decide) rfl ?_
              refine g_goto (tgt := 22) F dX4_readAll_71 (by decide) ?_
              refine g_lv [2, 0] rfl ?_
              exact ih _ _ _ o hf E0
          · have hf := iteT hf c51
            refine g_bipush (v := 73) F dX4_readAll_54 rfl ?_
            refine g_goto (tgt := 60) F dX4_readAll_56 (by decide) ?_
            refine g_icmp_eq (tgt := 68) F dX4_readAll_60 (by decide) (fun c60 => ?_) (fun c60 => ?_)
            · have hf := iteT hf c60
              obtain ⟨v6, ev6, hf⟩ := nmE hf
              refine g_iinc (j := 2) (lv' := [(1, .int v6), (2, .int o1.1), (0, .ref a_p)]) F dX4_readAll_68 rfl ev6.symm (by decide) rfl ?_
              refine g_goto (tgt := 22) F dX4_readAll_71 (by decide) ?_
              refine g_lv [2, 0] rfl ?_
              exact ih _ _ _ o hf E0
            · have hf := iteF hf c60
              refine g_aload_n F dX4_readAll_63 rfl 1 rfl ?_
              refine g_iload_n F dX4_readAll_64 rfl 2 rfl ?_
              obtain ⟨o7, ho7, hf⟩ := bnE hf
              refine g_callPv (n := 1) (As := [.int z1]) F (c_X4_stop l dC dI cI cJ cH a_p a_bases_p a_tops_p a_words_p a_roots_p a_order_p a_numbers_p a_image_p a_other_p a_input_p a_fresh_p a_freshRoots_p a_heads_p a_kept_p a_thrown a_bases a_tops a_words a_roots a_reached a_order a_numbers a_size a_image a_otherSize a_other a_waiting a_input o1.2.1 o1.2.2 a_told a_many a_fresh a_freshRoots a_heads a_count a_kept z1 o7 ho7) ggX4_readAll_X4_stop rfl rfl rfl (by decide +kernel) (by decide +kernel) (by decide +kernel) (by decide +kernel) (by decide +kernel) ⟨Nat.le_of_ble_eq_true rfl, Nat.le_of_ble_eq_true rfl⟩ ⟨Nat.le_of_ble_eq_true rfl, Nat.le_of_ble_eq_true rfl⟩ hN 0 rfl rfl rfl ([]) ([]) rfl (fun _ => rfl) rfl (Nat.le_of_ble_eq_true rfl) rfl dX4_readAll_65 (cells' := 0) (slots' := 0) rfl rfl (fun u hp => ?_)
              subst hp
              refine g_ws (ws' := wMd cI a_p a_bases_p a_tops_p a_words_p a_roots_p a_order_p a_numbers_p a_image_p a_other_p a_input_p a_fresh_p a_freshRoots_p a_heads_p a_kept_p a_thrown a_bases a_tops a_words a_roots a_reached a_order a_numbers a_size a_image a_otherSize a_other a_waiting a_input o1.2.1 o7 a_told a_many a_fresh a_freshRoots a_heads a_count a_kept) rfl ?_
              obtain ⟨v8, ev8, hf⟩ := nmE hf
              refine g_iinc (j := 2) (lv' := [(1, .int v8), (2, .int o1.1), (0, .ref a_p)]) F dX4_readAll_68 rfl ev8.symm (by decide) rfl ?_
              refine g_goto (tgt := 22) F dX4_readAll_71 (by decide) ?_
              refine g_lv [2, 0] rfl ?_
              exact ih _ _ _ o hf E0
        · have hf := iteT hf c41
          refine g_bipush (v := 72) F dX4_readAll_44 rfl ?_
          refine g_goto (tgt := 60) F dX4_readAll_46 (by decide) ?_
          refine g_icmp_eq (tgt := 68) F dX4_readAll_60 (by decide) (fun c60 => ?_) (fun c60 => ?_)
          · have hf := iteT hf c60
            obtain ⟨v9, ev9, hf⟩ := nmE hf
            refine g_iinc (j := 2) (lv' := [(1, .int v9), (2, .int o1.1), (0, .ref a_p)]) F dX4_readAll_68 rfl ev9.symm (by decide) rfl ?_
            refine g_goto (tgt := 22) F dX4_readAll_71 (by decide) ?_
            refine g_lv [2, 0] rfl ?_
            exact ih _ _ _ o hf E0
          · have hf := iteF hf c60
            refine g_aload_n F dX4_readAll_63 rfl 1 rfl ?_
            refine g_iload_n F dX4_readAll_64 rfl 2 rfl ?_
            obtain ⟨o10, ho10, hf⟩ := bnE hf
            refine g_callPv (n := 1) (As := [.int z1]) F (c_X4_stop l dC dI cI cJ cH a_p a_bases_p a_tops_p a_words_p a_roots_p a_order_p a_numbers_p a_image_p a_other_p a_input_p a_fresh_p a_freshRoots_p a_heads_p a_kept_p a_thrown a_bases a_tops a_words a_roots a_reached a_order a_numbers a_size a_image a_otherSize a_other a_waiting a_input o1.2.1 o1.2.2 a_told a_many a_fresh a_freshRoots a_heads a_count a_kept z1 o10 ho10) ggX4_readAll_X4_stop rfl rfl rfl (by decide +kernel) (by decide +kernel) (by decide +kernel) (by decide +kernel) (by decide +kernel) ⟨Nat.le_of_ble_eq_true rfl, Nat.le_of_ble_eq_true rfl⟩ ⟨Nat.le_of_ble_eq_true rfl, Nat.le_of_ble_eq_true rfl⟩ hN 0 rfl rfl rfl ([]) ([]) rfl (fun _ => rfl) rfl (Nat.le_of_ble_eq_true rfl) rfl dX4_readAll_65 (cells' := 0) (slots' := 0) rfl rfl (fun u hp => ?_)
            subst hp
            refine g_ws (ws' := wMd cI a_p a_bases_p a_tops_p a_words_p a_roots_p a_order_p a_numbers_p a_image_p a_other_p a_input_p a_fresh_p a_freshRoots_p a_heads_p a_kept_p a_thrown a_bases a_tops a_words a_roots a_reached a_order a_numbers a_size a_image a_otherSize a_other a_waiting a_input o1.2.1 o10 a_told a_many a_fresh a_freshRoots a_heads a_count a_kept) rfl ?_
            obtain ⟨v11, ev11, hf⟩ := nmE hf
            refine g_iinc (j := 2) (lv' := [(1, .int v11), (2, .int o1.1), (0, .ref a_p)]) F dX4_readAll_68 rfl ev11.symm (by decide) rfl ?_
            refine g_goto (tgt := 22) F dX4_readAll_71 (by decide) ?_
            refine g_lv [2, 0] rfl ?_
            exact ih _ _ _ o hf E0
def f_X4_readAll_L135_s (a_waiting : Int32) (a_input : (Nat → Int32)) (a_many : Int32) (rc : Int32 → Int32 → Int32 → Int32 → (Nat → Int32) → Int64 → Option (Int32 × Int32 × Int32 × (Nat → Int32) × Int64)) (z2 : Int32) (a_at : Int32) (a_ended : Int32) (a_told : Int32) (a_freshRoots : (Nat → Int32)) (a_count : Int64) : Option (Int32 × Int32 × Int32 × (Nat → Int32) × Int64) :=
  if (4 : Int32) ≤ z2 then some (a_at, a_ended, a_told, a_freshRoots, a_count) else if 0 ≤ a_ended then some (a_at, a_ended, a_told, a_freshRoots, a_count) else Option.bind (f_X4_nextValue a_waiting a_input a_at a_ended a_told a_many a_count (-1 : Int32)) fun o16 => ck (inR z2 4) (nm (z2 + (1 : Int32)) fun v18 => rc v18 o16.2.1 o16.2.2.1 o16.2.2.2.1 (upd a_freshRoots z2.toNatClampNeg o16.1) o16.2.2.2.2)
def f_X4_readAll_L135 (a_waiting : Int32) (a_input : (Nat → Int32)) (a_many : Int32) : Nat → Int32 → Int32 → Int32 → Int32 → (Nat → Int32) → Int64 → Option (Int32 × Int32 × Int32 × (Nat → Int32) × Int64)
  | 0, _, _, _, _, _, _ => none
  | n + 1, z2, a_at, a_ended, a_told, a_freshRoots, a_count => f_X4_readAll_L135_s a_waiting a_input a_many (f_X4_readAll_L135 a_waiting a_input a_many n) z2 a_at a_ended a_told a_freshRoots a_count
set_option maxHeartbeats 4000000 in
theorem w_X4_readAll_L135 {p : Program} {l : Launch} {e : Env} {s : State} {m : MethodId} {args : Array Value} {below : List Frame} {meth : Method} {c : Code} {A : Nat → Prop} {Q : State → Prop} {dC : Nat → ClassId} {dI : Nat → Nat → Nat} {cI cJ cH : ClassId} {a_p a_bases_p a_tops_p a_words_p a_roots_p a_order_p a_numbers_p a_image_p a_other_p a_input_p a_fresh_p a_freshRoots_p a_heads_p a_kept_p : Nat} {a_thrown : Int32} {a_bases : (Nat → Int32)} {a_tops : (Nat → Int32)} {a_words : (Nat → Int32)} {a_roots : (Nat → Int32)} {a_reached : Int32} {a_order : (Nat → Int32)} {a_numbers : (Nat → Int32)} {a_size : Int32} {a_image : (Nat → Int32)} {a_otherSize : Int32} {a_other : (Nat → Int32)} {a_waiting : Int32} {a_input : (Nat → Int32)} {a_many : Int32} {a_fresh : (Nat → Int32)} {a_heads : (Nat → Int32)} {a_kept : (Nat → Int32)}  (F : gF p m c cX4_readAll 6 s args wsX4_readAll yX4_readAll.cls (dC, dI) vwCl (gT cI cJ cH) A) (hN : ∀ w ∈ gN, va_Nw w s) : ∀ (n : Nat) (z2 : Int32) (a_at : Int32) (a_ended : Int32) (a_told : Int32) (a_freshRoots : (Nat → Int32)) (a_count : Int64) (o : (Int32 × Int32 × Int32 × (Nat → Int32) × Int64)), f_X4_readAll_L135 a_waiting a_input a_many n z2 a_at a_ended a_told a_freshRoots a_count = some o → (gW p l e rm_X4_readAll s m args below meth c 0 0 Q (dC, dI) vwCl A 6 (wMd cI a_p a_bases_p a_tops_p a_words_p a_roots_p a_order_p a_numbers_p a_image_p a_other_p a_input_p a_fresh_p a_freshRoots_p a_heads_p a_kept_p a_thrown a_bases a_tops a_words a_roots a_reached a_order a_numbers a_size a_image a_otherSize a_other a_waiting a_input o.1 o.2.1 o.2.2.1 a_many a_fresh o.2.2.2.1 a_heads o.2.2.2.2 a_kept) [(0, .ref a_p)] 164 []) → gW p l e rm_X4_readAll s m args below meth c 0 0 Q (dC, dI) vwCl A 6 (wMd cI a_p a_bases_p a_tops_p a_words_p a_roots_p a_order_p a_numbers_p a_image_p a_other_p a_input_p a_fresh_p a_freshRoots_p a_heads_p a_kept_p a_thrown a_bases a_tops a_words a_roots a_reached a_order a_numbers a_size a_image a_otherSize a_other a_waiting a_input a_at a_ended a_told a_many a_fresh a_freshRoots a_heads a_count a_kept) [(0, .ref a_p), (2, .int z2)] 135 [] := by
  intro n
  induction n with
  | zero =>
    intro z2 a_at a_ended a_told a_freshRoots a_count o hf E0
    change none = some o at hf
    cases hf
  | succ n ih =>
    intro z2 a_at a_ended a_told a_freshRoots a_count o hf E0
    change f_X4_readAll_L135_s a_waiting a_input a_many (f_X4_readAll_L135 a_waiting a_input a_many n) z2 a_at a_ended a_told a_freshRoots a_count = some o at hf
    unfold f_X4_readAll_L135_s at hf
    refine g_iload_n F dX4_readAll_135 rfl 1 rfl ?_
    refine g_iconst (v := 4) F dX4_readAll_136 rfl ?_
    refine g_icmp_ge (tgt := 164) F dX4_readAll_137 (by decide) (fun c137 => ?_) (fun c137 => ?_)
    · have hf := iteT hf c137
      cases hf
      refine g_lv [0] rfl ?_
      exact E0
    · have hf := iteF hf c137
      refine g_aload_n F dX4_readAll_140 rfl 0 rfl ?_
      refine g_get F h_X4_readAll_4 0 rfl rfl 15 (by decide) (by decide +kernel) rfl dX4_readAll_141 ?_
      refine g_if_ge (tgt := 164) F dX4_readAll_144 (by decide) (fun c144 => ?_) (fun c144 => ?_)
      · have hf := iteT hf c144
        cases hf
        refine g_lv [0] rfl ?_
        exact E0
      · have hf := iteF hf c144
        refine g_aload_n F dX4_readAll_147 rfl 0 rfl ?_
        refine g_get F h_X4_readAll_4 0 rfl rfl 19 (by decide) (by decide +kernel) rfl dX4_readAll_148 ?_
        refine g_iload_n F dX4_readAll_151 rfl 1 rfl ?_
        refine g_aload_n F dX4_readAll_152 rfl 0 rfl ?_
        refine g_iconst (v := -1) F dX4_readAll_153 rfl ?_
        obtain ⟨o16, ho16, hf⟩ := bnE hf
        refine g_callPi (n := 1) (As := [.int (-1 : Int32)]) F (c_X4_nextValue l dC dI cI cJ cH a_p a_bases_p a_tops_p a_words_p a_roots_p a_order_p a_numbers_p a_image_p a_other_p a_input_p a_fresh_p a_freshRoots_p a_heads_p a_kept_p a_thrown a_bases a_tops a_words a_roots a_reached a_order a_numbers a_size a_image a_otherSize a_other a_waiting a_input a_at a_ended a_told a_many a_fresh a_freshRoots a_heads a_count a_kept (-1 : Int32) o16 ho16) ggX4_readAll_X4_nextValue rfl rfl rfl (by decide +kernel) (by decide +kernel) (by decide +kernel) (by decide +kernel) (by decide +kernel) ⟨Nat.le_of_ble_eq_true rfl, Nat.le_of_ble_eq_true rfl⟩ ⟨Nat.le_of_ble_eq_true rfl, Nat.le_of_ble_eq_true rfl⟩ hN 0 rfl rfl rfl ([]) ([]) rfl (fun _ => rfl) rfl (Nat.le_of_ble_eq_true rfl) rfl dX4_readAll_154 (cells' := 0) (slots' := 0) rfl rfl (fun r u hp => ?_)
        obtain ⟨hp1, hp2⟩ := hp
        subst hp1
        subst hp2
        refine g_ws (ws' := wMd cI a_p a_bases_p a_tops_p a_words_p a_roots_p a_order_p a_numbers_p a_image_p a_other_p a_input_p a_fresh_p a_freshRoots_p a_heads_p a_kept_p a_thrown a_bases a_tops a_words a_roots a_reached a_order a_numbers a_size a_image a_otherSize a_other a_waiting a_input o16.2.1 o16.2.2.1 o16.2.2.2.1 a_many a_fresh a_freshRoots a_heads o16.2.2.2.2 a_kept) rfl ?_
        obtain ⟨h17, hf⟩ := ckE hf
        refine g_iast F 11 0 rfl rfl h17 dX4_readAll_157 (ws' := wMd cI a_p a_bases_p a_tops_p a_words_p a_roots_p a_order_p a_numbers_p a_image_p a_other_p a_input_p a_fresh_p a_freshRoots_p a_heads_p a_kept_p a_thrown a_bases a_tops a_words a_roots a_reached a_order a_numbers a_size a_image a_otherSize a_other a_waiting a_input o16.2.1 o16.2.2.1 o16.2.2.2.1 a_many a_fresh (upd a_freshRoots z2.toNatClampNeg o16.1) a_heads o16.2.2.2.2 a_kept) rfl ?_
        obtain ⟨v18, ev18, hf⟩ := nmE hf
        refine g_iinc (j := 1) (lv' := [(2, .int v18), (0, .ref a_p)]) F dX4_readAll_158 rfl ev18.symm (by decide) rfl ?_
        refine g_goto (tgt := 135) F dX4_readAll_161 (by decide) ?_
        refine g_lv [1, 0] rfl ?_
        exact ih _ _ _ _ _ _ o hf E0
def f_X4_readAll_L168_s (a_waiting : Int32) (a_input : (Nat → Int32)) (a_many : Int32) (rc : Int32 → Int32 → Int32 → Int32 → Int32 → (Nat → Int32) → (Nat → Int32) → Int64 → Option (Int32 × Int32 × Int32 × Int32 × (Nat → Int32) × (Nat → Int32) × Int64)) (z2 : Int32) (z3 : Int32) (a_at : Int32) (a_ended : Int32) (a_told : Int32) (a_fresh : (Nat → Int32)) (a_heads : (Nat → Int32)) (a_count : Int64) : Option (Int32 × Int32 × Int32 × Int32 × (Nat → Int32) × (Nat → Int32) × Int64) :=
  if a_many ≤ z3 then some (z2, a_at, a_ended, a_told, a_fresh, a_heads, a_count) else if 0 ≤ a_ended then some (z2, a_at, a_ended, a_told, a_fresh, a_heads, a_count) else Option.bind (f_X4_readObject a_waiting a_input a_at a_ended a_told a_many a_fresh a_heads a_count z3 z2) fun o20 => nm (z3 + (1 : Int32)) fun v21 => rc o20.1 v21 o20.2.1 o20.2.2.1 o20.2.2.2.1 o20.2.2.2.2.1 o20.2.2.2.2.2.1 o20.2.2.2.2.2.2
def f_X4_readAll_L168 (a_waiting : Int32) (a_input : (Nat → Int32)) (a_many : Int32) : Nat → Int32 → Int32 → Int32 → Int32 → Int32 → (Nat → Int32) → (Nat → Int32) → Int64 → Option (Int32 × Int32 × Int32 × Int32 × (Nat → Int32) × (Nat → Int32) × Int64)
  | 0, _, _, _, _, _, _, _, _ => none
  | n + 1, z2, z3, a_at, a_ended, a_told, a_fresh, a_heads, a_count => f_X4_readAll_L168_s a_waiting a_input a_many (f_X4_readAll_L168 a_waiting a_input a_many n) z2 z3 a_at a_ended a_told a_fresh a_heads a_count
set_option maxHeartbeats 4000000 in
theorem w_X4_readAll_L168 {p : Program} {l : Launch} {e : Env} {s : State} {m : MethodId} {args : Array Value} {below : List Frame} {meth : Method} {c : Code} {A : Nat → Prop} {Q : State → Prop} {dC : Nat → ClassId} {dI : Nat → Nat → Nat} {cI cJ cH : ClassId} {a_p a_bases_p a_tops_p a_words_p a_roots_p a_order_p a_numbers_p a_image_p a_other_p a_input_p a_fresh_p a_freshRoots_p a_heads_p a_kept_p : Nat} {a_thrown : Int32} {a_bases : (Nat → Int32)} {a_tops : (Nat → Int32)} {a_words : (Nat → Int32)} {a_roots : (Nat → Int32)} {a_reached : Int32} {a_order : (Nat → Int32)} {a_numbers : (Nat → Int32)} {a_size : Int32} {a_image : (Nat → Int32)} {a_otherSize : Int32} {a_other : (Nat → Int32)} {a_waiting : Int32} {a_input : (Nat → Int32)} {a_many : Int32} {a_freshRoots : (Nat → Int32)} {a_kept : (Nat → Int32)}  (F : gF p m c cX4_readAll 6 s args wsX4_readAll yX4_readAll.cls (dC, dI) vwCl (gT cI cJ cH) A) (hN : ∀ w ∈ gN, va_Nw w s) : ∀ (n : Nat) (z2 : Int32) (z3 : Int32) (a_at : Int32) (a_ended : Int32) (a_told : Int32) (a_fresh : (Nat → Int32)) (a_heads : (Nat → Int32)) (a_count : Int64) (o : (Int32 × Int32 × Int32 × Int32 × (Nat → Int32) × (Nat → Int32) × Int64)), f_X4_readAll_L168 a_waiting a_input a_many n z2 z3 a_at a_ended a_told a_fresh a_heads a_count = some o → (gW p l e rm_X4_readAll s m args below meth c 0 0 Q (dC, dI) vwCl A 6 (wMd cI a_p a_bases_p a_tops_p a_words_p a_roots_p a_order_p a_numbers_p a_image_p a_other_p a_input_p a_fresh_p a_freshRoots_p a_heads_p a_kept_p a_thrown a_bases a_tops a_words a_roots a_reached a_order a_numbers a_size a_image a_otherSize a_other a_waiting a_input o.2.1 o.2.2.1 o.2.2.2.1 a_many o.2.2.2.2.1 a_freshRoots o.2.2.2.2.2.1 o.2.2.2.2.2.2 a_kept) [(0, .ref a_p), (2, .int o.1)] 196 []) → gW p l e rm_X4_readAll s m args below meth c 0 0 Q (dC, dI) vwCl A 6 (wMd cI a_p a_bases_p a_tops_p a_words_p a_roots_p a_order_p a_numbers_p a_image_p a_other_p a_input_p a_fresh_p a_freshRoots_p a_heads_p a_kept_p a_thrown a_bases a_tops a_words a_roots a_reached a_order a_numbers a_size a_image a_otherSize a_other a_waiting a_input a_at a_ended a_told a_many a_fresh a_freshRoots a_heads a_count a_kept) [(0, .ref a_p), (2, .int z2), (3, .int z3)] 168 [] := by
  intro n
  induction n with
  | zero =>
    intro z2 z3 a_at a_ended a_told a_fresh a_heads a_count o hf E0
    change none = some o at hf
    cases hf
  | succ n ih =>
    intro z2 z3 a_at a_ended a_told a_fresh a_heads a_count o hf E0
    change f_X4_readAll_L168_s a_waiting a_input a_many (f_X4_readAll_L168 a_waiting a_input a_many n) z2 z3 a_at a_ended a_told a_fresh a_heads a_count = some o at hf
    unfold f_X4_readAll_L168_s at hf
    refine g_iload_n F dX4_readAll_168 rfl 2 rfl ?_
    refine g_aload_n F dX4_readAll_169 rfl 0 rfl ?_
    refine g_get F h_X4_readAll_4 0 rfl rfl 17 (by decide) (by decide +kernel) rfl dX4_readAll_170 ?_
    refine g_icmp_ge (tgt := 196) F dX4_readAll_173 (by decide) (fun c173 => ?_) (fun c173 => ?_)
    · have hf := iteT hf c173
      cases hf
      refine g_lv [0, 1] rfl ?_
      exact E0
    · have hf := iteF hf c173
      refine g_aload_n F dX4_readAll_176 rfl 0 rfl ?_
      refine g_get F h_X4_readAll_4 0 rfl rfl 15 (by decide) (by decide +kernel) rfl dX4_readAll_177 ?_
      refine g_if_ge (tgt := 196) F dX4_readAll_180 (by decide) (fun c180 => ?_) (fun c180 => ?_)
      · have hf := iteT hf c180
        cases hf
        refine g_lv [0, 1] rfl ?_
        exact E0
      · have hf := iteF hf c180
        refine g_aload_n F dX4_readAll_183 rfl 0 rfl ?_
        refine g_iload_n F dX4_readAll_184 rfl 2 rfl ?_
        refine g_iload_n F dX4_readAll_185 rfl 1 rfl ?_
        obtain ⟨o20, ho20, hf⟩ := bnE hf
        refine g_callPi (n := 2) (As := [.int z3, .int z2]) F (c_X4_readObject l dC dI cI cJ cH a_p a_bases_p a_tops_p a_words_p a_roots_p a_order_p a_numbers_p a_image_p a_other_p a_input_p a_fresh_p a_freshRoots_p a_heads_p a_kept_p a_thrown a_bases a_tops a_words a_roots a_reached a_order a_numbers a_size a_image a_otherSize a_other a_waiting a_input a_at a_ended a_told a_many a_fresh a_freshRoots a_heads a_count a_kept z3 z2 o20 ho20) ggX4_readAll_X4_readObject rfl rfl rfl (by decide +kernel) (by decide +kernel) (by decide +kernel) (by decide +kernel) (by decide +kernel) ⟨Nat.le_of_ble_eq_true rfl, Nat.le_of_ble_eq_true rfl⟩ ⟨Nat.le_of_ble_eq_true rfl, Nat.le_of_ble_eq_true rfl⟩ hN 0 rfl rfl rfl ([]) ([]) rfl (fun _ => rfl) rfl (Nat.le_of_ble_eq_true rfl) rfl dX4_readAll_186 (cells' := 0) (slots' := 0) rfl rfl (fun r u hp => ?_)
        obtain ⟨hp1, hp2⟩ := hp
        subst hp1
        subst hp2
        refine g_ws (ws' := wMd cI a_p a_bases_p a_tops_p a_words_p a_roots_p a_order_p a_numbers_p a_image_p a_other_p a_input_p a_fresh_p a_freshRoots_p a_heads_p a_kept_p a_thrown a_bases a_tops a_words a_roots a_reached a_order a_numbers a_size a_image a_otherSize a_other a_waiting a_input o20.2.1 o20.2.2.1 o20.2.2.2.1 a_many o20.2.2.2.2.1 a_freshRoots o20.2.2.2.2.2.1 o20.2.2.2.2.2.2 a_kept) rfl ?_
        refine g_istore_n (lv' := [(2, .int o20.1), (0, .ref a_p), (3, .int z3)]) F dX4_readAll_189 rfl (by decide) rfl ?_
        obtain ⟨v21, ev21, hf⟩ := nmE hf
        refine g_iinc (j := 2) (lv' := [(3, .int v21), (2, .int o20.1), (0, .ref a_p)]) F dX4_readAll_190 rfl ev21.symm (by decide) rfl ?_
        refine g_goto (tgt := 168) F dX4_readAll_193 (by decide) ?_
        refine g_lv [2, 1, 0] rfl ?_
        exact ih _ _ _ _ _ _ _ _ o hf E0
def f_X4_readAll (a_waiting : Int32) (a_input : (Nat → Int32)) (a_at : Int32) (a_ended : Int32) (a_told : Int32) (a_many : Int32) (a_fresh : (Nat → Int32)) (a_freshRoots : (Nat → Int32)) (a_heads : (Nat → Int32)) (a_count : Int64) : Option (Int32 × Int32 × Int32 × Int32 × (Nat → Int32) × (Nat → Int32) × (Nat → Int32) × Int64) :=
  Option.bind (f_X4_readAll_L22 a_waiting a_input FU (0 : Int32) (0 : Int32) (-1 : Int32)) fun o12 => Option.bind (α := (Int32 × Int32 × Int32 × Int64)) (if 0 ≤ o12.2 then some ((0 : Int32), o12.1, o12.2, a_count) else Option.bind (f_X4_nextCount a_waiting a_input o12.1 o12.2 a_count) fun o30 => some (o30.1, o30.2.1, o30.2.2.1, o30.2.2.2)) fun j13 => Option.bind (α := Int32) (if 0 ≤ j13.2.2.1 then some j13.2.2.1 else if (lg_cmp j13.2.2.2 (256 : Int64)) ≤ 0 then some j13.2.2.1 else Option.bind (f_X4_stop j13.2.2.1 j13.1) fun o29 => some o29) fun j14 => Option.bind (α := Int32) (if 0 ≤ j14 then some (0 : Int32) else some j13.2.2.2.toInt32) fun j15 => Option.bind (f_X4_readAll_L135 a_waiting a_input j15 FU (0 : Int32) j13.2.1 j14 (0 : Int32) a_freshRoots j13.2.2.2) fun o19 => Option.bind (f_X4_readAll_L168 a_waiting a_input j15 FU (0 : Int32) (0 : Int32) o19.1 o19.2.1 o19.2.2.1 a_fresh a_heads o19.2.2.2.2) fun o22 => Option.bind (f_X4_nextByte a_waiting a_input o22.2.1 o22.2.2.1) fun o23 => Option.bind (f_X4_nextByte a_waiting a_input o23.2.1 o23.2.2) fun o24 => Option.bind (α := Int32) (if 0 ≤ o24.2.2 then some o24.2.2 else Option.bind (f_X4_sumOf 2000 a_input o22.2.1) fun o27 => if (o23.1 + ((256 : Int32) * o24.1)) = o27 then some o24.2.2 else Option.bind (f_X4_stop o24.2.2 o22.2.1) fun o28 => some o28) fun j25 => if 0 ≤ j25 then some (o22.1, j25, o22.2.2.2.1, j15, o22.2.2.2.2.1, o19.2.2.2.1, o22.2.2.2.2.2.1, o22.2.2.2.2.2.2) else if a_waiting ≤ o24.2.1 then some (o22.1, j25, o22.2.2.2.1, j15, o22.2.2.2.2.1, o19.2.2.2.1, o22.2.2.2.2.2.1, o22.2.2.2.2.2.2) else Option.bind (f_X4_stop j25 o24.2.1) fun o26 => some (o22.1, o26, o22.2.2.2.1, j15, o22.2.2.2.2.1, o19.2.2.2.1, o22.2.2.2.2.2.1, o22.2.2.2.2.2.2)
set_option maxHeartbeats 4000000 in
set_option maxRecDepth 100000 in
theorem c_X4_readAll (l : Launch) (dC : Nat → ClassId) (dI : Nat → Nat → Nat) (cI cJ cH : ClassId) (a_p a_bases_p a_tops_p a_words_p a_roots_p a_order_p a_numbers_p a_image_p a_other_p a_input_p a_fresh_p a_freshRoots_p a_heads_p a_kept_p : Nat)  (a_thrown : Int32) (a_bases : (Nat → Int32)) (a_tops : (Nat → Int32)) (a_words : (Nat → Int32)) (a_roots : (Nat → Int32)) (a_reached : Int32) (a_order : (Nat → Int32)) (a_numbers : (Nat → Int32)) (a_size : Int32) (a_image : (Nat → Int32)) (a_otherSize : Int32) (a_other : (Nat → Int32)) (a_waiting : Int32) (a_input : (Nat → Int32)) (a_at : Int32) (a_ended : Int32) (a_told : Int32) (a_many : Int32) (a_fresh : (Nat → Int32)) (a_freshRoots : (Nat → Int32)) (a_heads : (Nat → Int32)) (a_count : Int64) (a_kept : (Nat → Int32))  (o : (Int32 × Int32 × Int32 × Int32 × (Nat → Int32) × (Nat → Int32) × (Nat → Int32) × Int64)) (hf : f_X4_readAll a_waiting a_input a_at a_ended a_told a_many a_fresh a_freshRoots a_heads a_count = some o) : ∀ sz : Nat, Met l yX4_readAll wsX4_readAll rm_X4_readAll (gPre [.ref a_p] (dC, dI) vwCl (gT cI cJ cH) (wMd cI a_p a_bases_p a_tops_p a_words_p a_roots_p a_order_p a_numbers_p a_image_p a_other_p a_input_p a_fresh_p a_freshRoots_p a_heads_p a_kept_p a_thrown a_bases a_tops a_words a_roots a_reached a_order a_numbers a_size a_image a_otherSize a_other a_waiting a_input a_at a_ended a_told a_many a_fresh a_freshRoots a_heads a_count a_kept) sz) (va_Qv (fun (u : (Int32 × Int32 × Int32 × Int32 × (Nat → Int32) × (Nat → Int32) × (Nat → Int32) × Int64)) => o = u) (gB (dC, dI) vwCl (gT cI cJ cH) (fun (u : (Int32 × Int32 × Int32 × Int32 × (Nat → Int32) × (Nat → Int32) × (Nat → Int32) × Int64)) => wMd cI a_p a_bases_p a_tops_p a_words_p a_roots_p a_order_p a_numbers_p a_image_p a_other_p a_input_p a_fresh_p a_freshRoots_p a_heads_p a_kept_p a_thrown a_bases a_tops a_words a_roots a_reached a_order a_numbers a_size a_image a_otherSize a_other a_waiting a_input u.1 u.2.1 u.2.2.1 u.2.2.2.1 u.2.2.2.2.1 u.2.2.2.2.2.1 u.2.2.2.2.2.2.1 u.2.2.2.2.2.2.2 a_kept) (va_A (wMd cI a_p a_bases_p a_tops_p a_words_p a_roots_p a_order_p a_numbers_p a_image_p a_other_p a_input_p a_fresh_p a_freshRoots_p a_heads_p a_kept_p a_thrown a_bases a_tops a_words a_roots a_reached a_order a_numbers a_size a_image a_otherSize a_other a_waiting a_input a_at a_ended a_told a_many a_fresh a_freshRoots a_heads a_count a_kept) sz)) (va_A (wMd cI a_p a_bases_p a_tops_p a_words_p a_roots_p a_order_p a_numbers_p a_image_p a_other_p a_input_p a_fresh_p a_freshRoots_p a_heads_p a_kept_p a_thrown a_bases a_tops a_words a_roots a_reached a_order a_numbers a_size a_image a_otherSize a_other a_waiting a_input a_at a_ended a_told a_many a_fresh a_freshRoots a_heads a_count a_kept) sz)) 0 0 (va_A (wMd cI a_p a_bases_p a_tops_p a_words_p a_roots_p a_order_p a_numbers_p a_image_p a_other_p a_input_p a_fresh_p a_freshRoots_p a_heads_p a_kept_p a_thrown a_bases a_tops a_words a_roots a_reached a_order a_numbers a_size a_image a_otherSize a_other a_waiting a_input a_at a_ended a_told a_many a_fresh a_freshRoots a_heads a_count a_kept) sz) := by
  refine g_met (fun A => va_Qv (fun (u : (Int32 × Int32 × Int32 × Int32 × (Nat → Int32) × (Nat → Int32) × (Nat → Int32) × Int64)) => o = u) (gB (dC, dI) vwCl (gT cI cJ cH) (fun (u : (Int32 × Int32 × Int32 × Int32 × (Nat → Int32) × (Nat → Int32) × (Nat → Int32) × Int64)) => wMd cI a_p a_bases_p a_tops_p a_words_p a_roots_p a_order_p a_numbers_p a_image_p a_other_p a_input_p a_fresh_p a_freshRoots_p a_heads_p a_kept_p a_thrown a_bases a_tops a_words a_roots a_reached a_order a_numbers a_size a_image a_otherSize a_other a_waiting a_input u.1 u.2.1 u.2.2.1 u.2.2.2.1 u.2.2.2.2.1 u.2.2.2.2.2.1 u.2.2.2.2.2.2.1 u.2.2.2.2.2.2.2 a_kept) A) A) (by decide) rfl (Nat.le_of_ble_eq_true rfl) ?_
  intro p e s m args below meth c A Q F hlocks hr hname hN hQ
  unfold f_X4_readAll at hf
  refine g_lvE (lv' := [(0, .ref a_p)]) rfl ?_
  refine g_aload_n F dX4_readAll_0 rfl 0 rfl ?_
  refine g_iconst (v := 0) F dX4_readAll_1 rfl ?_
  refine g_put F h_X4_readAll_4 tyX4 tyX4_ok nmX4 0 rfl rfl 14 (by decide) (by decide +kernel) rfl rfl rfl (Nat.le_of_ble_eq_true rfl) dX4_readAll_2 (ws' := wMd cI a_p a_bases_p a_tops_p a_words_p a_roots_p a_order_p a_numbers_p a_image_p a_other_p a_input_p a_fresh_p a_freshRoots_p a_heads_p a_kept_p a_thrown a_bases a_tops a_words a_roots a_reached a_order a_numbers a_size a_image a_otherSize a_other a_waiting a_input (0 : Int32) a_ended a_told a_many a_fresh a_freshRoots a_heads a_count a_kept) rfl ?_
  refine g_aload_n F dX4_readAll_5 rfl 0 rfl ?_
  refine g_iconst (v := -1) F dX4_readAll_6 rfl ?_
  refine g_put F h_X4_readAll_4 tyX4 tyX4_ok nmX4 0 rfl rfl 15 (by decide) (by decide +kernel) rfl rfl rfl (Nat.le_of_ble_eq_true rfl) dX4_readAll_7 (ws' := wMd cI a_p a_bases_p a_tops_p a_words_p a_roots_p a_order_p a_numbers_p a_image_p a_other_p a_input_p a_fresh_p a_freshRoots_p a_heads_p a_kept_p a_thrown a_bases a_tops a_words a_roots a_reached a_order a_numbers a_size a_image a_otherSize a_other a_waiting a_input (0 : Int32) (-1 : Int32) a_told a_many a_fresh a_freshRoots a_heads a_count a_kept) rfl ?_
  refine g_aload_n F dX4_readAll_10 rfl 0 rfl ?_
  refine g_iconst (v := 0) F dX4_readAll_11 rfl ?_
  refine g_put F h_X4_readAll_4 tyX4 tyX4_ok nmX4 0 rfl rfl 16 (by decide) (by decide +kernel) rfl rfl rfl (Nat.le_of_ble_eq_true rfl) dX4_readAll_12 (ws' := wMd cI a_p a_bases_p a_tops_p a_words_p a_roots_p a_order_p a_numbers_p a_image_p a_other_p a_input_p a_fresh_p a_freshRoots_p a_heads_p a_kept_p a_thrown a_bases a_tops a_words a_roots a_reached a_order a_numbers a_size a_image a_otherSize a_other a_waiting a_input (0 : Int32) (-1 : Int32) (0 : Int32) a_many a_fresh a_freshRoots a_heads a_count a_kept) rfl ?_
  refine g_aload_n F dX4_readAll_15 rfl 0 rfl ?_
  refine g_iconst (v := 0) F dX4_readAll_16 rfl ?_
  refine g_put F h_X4_readAll_4 tyX4 tyX4_ok nmX4 0 rfl rfl 17 (by decide) (by decide +kernel) rfl rfl rfl (Nat.le_of_ble_eq_true rfl) dX4_readAll_17 (ws' := wMd cI a_p a_bases_p a_tops_p a_words_p a_roots_p a_order_p a_numbers_p a_image_p a_other_p a_input_p a_fresh_p a_freshRoots_p a_heads_p a_kept_p a_thrown a_bases a_tops a_words a_roots a_reached a_order a_numbers a_size a_image a_otherSize a_other a_waiting a_input (0 : Int32) (-1 : Int32) (0 : Int32) (0 : Int32) a_fresh a_freshRoots a_heads a_count a_kept) rfl ?_
  refine g_iconst (v := 0) F dX4_readAll_20 rfl ?_
  refine g_istore_n (lv' := [(1, .int (0 : Int32)), (0, .ref a_p)]) F dX4_readAll_21 rfl (by decide) rfl ?_
  obtain ⟨o12, ho12, hf⟩ := bnE hf
  refine g_lv [1, 0] rfl ?_
  refine w_X4_readAll_L22 F hN FU _ _ _ o12 ho12 ?_
  refine g_aload_n F dX4_readAll_74 rfl 0 rfl ?_
  refine g_get F h_X4_readAll_4 0 rfl rfl 15 (by decide) (by decide +kernel) rfl dX4_readAll_75 ?_
  obtain ⟨j13, hj13, hf⟩ := bnE hf
  have Kj13 : gW p l e rm_X4_readAll s m args below meth c 0 0 Q (dC, dI) vwCl A 6 (wMd cI a_p a_bases_p a_tops_p a_words_p a_roots_p a_order_p a_numbers_p a_image_p a_other_p a_input_p a_fresh_p a_freshRoots_p a_heads_p a_kept_p a_thrown a_bases a_tops a_words a_roots a_reached a_order a_numbers a_size a_image a_otherSize a_other a_waiting a_input j13.2.1 j13.2.2.1 (0 : Int32) (0 : Int32) a_fresh a_freshRoots a_heads j13.2.2.2 a_kept) [(0, .ref a_p)] 89 [.int j13.1] := by
    refine g_istore_n (lv' := [(1, .int j13.1), (0, .ref a_p)]) F dX4_readAll_89 rfl (by decide) rfl ?_
    refine g_aload_n F dX4_readAll_90 rfl 1 rfl ?_
    refine g_get F h_X4_readAll_4 0 rfl rfl 15 (by decide) (by decide +kernel) rfl dX4_readAll_91 ?_
    obtain ⟨j14, hj14, hf⟩ := bnE hf
    have Kj14 : gW p l e rm_X4_readAll s m args below meth c 0 0 Q (dC, dI) vwCl A 6 (wMd cI a_p a_bases_p a_tops_p a_words_p a_roots_p a_order_p a_numbers_p a_image_p a_other_p a_input_p a_fresh_p a_freshRoots_p a_heads_p a_kept_p a_thrown a_bases a_tops a_words a_roots a_reached a_order a_numbers a_size a_image a_otherSize a_other a_waiting a_input j13.2.1 j14 (0 : Int32) (0 : Int32) a_fresh a_freshRoots a_heads j13.2.2.2 a_kept) [(0, .ref a_p)] 113 [] := by
      refine g_aload_n F dX4_readAll_113 rfl 0 rfl ?_
      refine g_aload_n F dX4_readAll_114 rfl 0 rfl ?_
      refine g_get F h_X4_readAll_4 0 rfl rfl 15 (by decide) (by decide +kernel) rfl dX4_readAll_115 ?_
      obtain ⟨j15, hj15, hf⟩ := bnE hf
      have Kj15 : gW p l e rm_X4_readAll s m args below meth c 0 0 Q (dC, dI) vwCl A 6 (wMd cI a_p a_bases_p a_tops_p a_words_p a_roots_p a_order_p a_numbers_p a_image_p a_other_p a_input_p a_fresh_p a_freshRoots_p a_heads_p a_kept_p a_thrown a_bases a_tops a_words a_roots a_reached a_order a_numbers a_size a_image a_otherSize a_other a_waiting a_input j13.2.1 j14 (0 : Int32) (0 : Int32) a_fresh a_freshRoots a_heads j13.2.2.2 a_kept) [(0, .ref a_p)] 130 [.int j15, .ref a_p] := by
        refine g_put F h_X4_readAll_4 tyX4 tyX4_ok nmX4 0 rfl rfl 17 (by decide) (by decide +kernel) rfl rfl rfl (Nat.le_of_ble_eq_true rfl) dX4_readAll_130 (ws' := wMd cI a_p a_bases_p a_tops_p a_words_p a_roots_p a_order_p a_numbers_p a_image_p a_other_p a_input_p a_fresh_p a_freshRoots_p a_heads_p a_kept_p a_thrown a_bases a_tops a_words a_roots a_reached a_order a_numbers a_size a_image a_otherSize a_other a_waiting a_input j13.2.1 j14 (0 : Int32) j15 a_fresh a_freshRoots a_heads j13.2.2.2 a_kept) rfl ?_
        refine g_iconst (v := 0) F dX4_readAll_133 rfl ?_
        refine g_istore_n (lv' := [(2, .int (0 : Int32)), (0, .ref a_p)]) F dX4_readAll_134 rfl (by decide) rfl ?_
        obtain ⟨o19, ho19, hf⟩ := bnE hf
        refine g_lv [1, 0] rfl ?_
        refine w_X4_readAll_L135 F hN FU _ _ _ _ _ _ o19 ho19 ?_
        refine g_iconst (v := 0) F dX4_readAll_164 rfl ?_
        refine g_istore_n (lv' := [(2, .int (0 : Int32)), (0, .ref a_p)]) F dX4_readAll_165 rfl (by decide) rfl ?_
        refine g_iconst (v := 0) F dX4_readAll_166 rfl ?_
        refine g_istore_n (lv' := [(3, .int (0 : Int32)), (2, .int (0 : Int32)), (0, .ref a_p)]) F dX4_readAll_167 rfl (by decide) rfl ?_
        obtain ⟨o22, ho22, hf⟩ := bnE hf
        refine g_lv [2, 1, 0] rfl ?_
        refine w_X4_readAll_L168 F hN FU _ _ _ _ _ _ _ _ o22 ho22 ?_
        refine g_aload_n F dX4_readAll_196 rfl 0 rfl ?_
        refine g_get F h_X4_readAll_4 0 rfl rfl 14 (by decide) (by decide +kernel) rfl dX4_readAll_197 ?_
        refine g_istore_n (lv' := [(3, .int o22.2.1), (0, .ref a_p), (2, .int o22.1)]) F dX4_readAll_200 rfl (by decide) rfl ?_
        refine g_aload_n F dX4_readAll_201 rfl 1 rfl ?_
        obtain ⟨o23, ho23, hf⟩ := bnE hf
        refine g_callPi (n := 0) (As := []) F (c_X4_nextByte l dC dI cI cJ cH a_p a_bases_p a_tops_p a_words_p a_roots_p a_order_p a_numbers_p a_image_p a_other_p a_input_p a_fresh_p a_freshRoots_p a_heads_p a_kept_p a_thrown a_bases a_tops a_words a_roots a_reached a_order a_numbers a_size a_image a_otherSize a_other a_waiting a_input o22.2.1 o22.2.2.1 o22.2.2.2.1 j15 o22.2.2.2.2.1 o19.2.2.2.1 o22.2.2.2.2.2.1 o22.2.2.2.2.2.2 a_kept o23 ho23) ggX4_readAll_X4_nextByte rfl rfl rfl (by decide +kernel) (by decide +kernel) (by decide +kernel) (by decide +kernel) (by decide +kernel) ⟨Nat.le_of_ble_eq_true rfl, Nat.le_of_ble_eq_true rfl⟩ ⟨Nat.le_of_ble_eq_true rfl, Nat.le_of_ble_eq_true rfl⟩ hN 0 rfl rfl rfl ([]) ([]) rfl (fun _ => rfl) rfl (Nat.le_of_ble_eq_true rfl) rfl dX4_readAll_202 (cells' := 0) (slots' := 0) rfl rfl (fun r u hp => ?_)
        obtain ⟨hp1, hp2⟩ := hp
        subst hp1
        subst hp2
        refine g_ws (ws' := wMd cI a_p a_bases_p a_tops_p a_words_p a_roots_p a_order_p a_numbers_p a_image_p a_other_p a_input_p a_fresh_p a_freshRoots_p a_heads_p a_kept_p a_thrown a_bases a_tops a_words a_roots a_reached a_order a_numbers a_size a_image a_otherSize a_other a_waiting a_input o23.2.1 o23.2.2 o22.2.2.2.1 j15 o22.2.2.2.2.1 o19.2.2.2.1 o22.2.2.2.2.2.1 o22.2.2.2.2.2.2 a_kept) rfl ?_
        refine g_istore (lv' := [(4, .int o23.1), (3, .int o22.2.1), (0, .ref a_p), (2, .int o22.1)]) F dX4_readAll_205 (by decide) rfl ?_
        refine g_aload_n F dX4_readAll_207 rfl 2 rfl ?_
        obtain ⟨o24, ho24, hf⟩ := bnE hf
        refine g_callPi (n := 0) (As := []) F (c_X4_nextByte l dC dI cI cJ cH a_p a_bases_p a_tops_p a_words_p a_roots_p a_order_p a_numbers_p a_image_p a_other_p a_input_p a_fresh_p a_freshRoots_p a_heads_p a_kept_p a_thrown a_bases a_tops a_words a_roots a_reached a_order a_numbers a_size a_image a_otherSize a_other a_waiting a_input o23.2.1 o23.2.2 o22.2.2.2.1 j15 o22.2.2.2.2.1 o19.2.2.2.1 o22.2.2.2.2.2.1 o22.2.2.2.2.2.2 a_kept o24 ho24) ggX4_readAll_X4_nextByte rfl rfl rfl (by decide +kernel) (by decide +kernel) (by decide +kernel) (by decide +kernel) (by decide +kernel) ⟨Nat.le_of_ble_eq_true rfl, Nat.le_of_ble_eq_true rfl⟩ ⟨Nat.le_of_ble_eq_true rfl, Nat.le_of_ble_eq_true rfl⟩ hN 0 rfl rfl rfl ([]) ([]) rfl (fun _ => rfl) rfl (Nat.le_of_ble_eq_true rfl) rfl dX4_readAll_208 (cells' := 0) (slots' := 0) rfl rfl (fun r u hp => ?_)
        obtain ⟨hp1, hp2⟩ := hp
        subst hp1
        subst hp2
        refine g_ws (ws' := wMd cI a_p a_bases_p a_tops_p a_words_p a_roots_p a_order_p a_numbers_p a_image_p a_other_p a_input_p a_fresh_p a_freshRoots_p a_heads_p a_kept_p a_thrown a_bases a_tops a_words a_roots a_reached a_order a_numbers a_size a_image a_otherSize a_other a_waiting a_input o24.2.1 o24.2.2 o22.2.2.2.1 j15 o22.2.2.2.2.1 o19.2.2.2.1 o22.2.2.2.2.2.1 o22.2.2.2.2.2.2 a_kept) rfl ?_
        refine g_istore (lv' := [(5, .int o24.1), (4, .int o23.1), (3, .int o22.2.1), (0, .ref a_p), (2, .int o22.1)]) F dX4_readAll_211 (by decide) rfl ?_
        refine g_aload_n F dX4_readAll_213 rfl 3 rfl ?_
        refine g_get F h_X4_readAll_4 0 rfl rfl 15 (by decide) (by decide +kernel) rfl dX4_readAll_214 ?_
        obtain ⟨j25, hj25, hf⟩ := bnE hf
        have Kj25 : gW p l e rm_X4_readAll s m args below meth c 0 0 Q (dC, dI) vwCl A 6 (wMd cI a_p a_bases_p a_tops_p a_words_p a_roots_p a_order_p a_numbers_p a_image_p a_other_p a_input_p a_fresh_p a_freshRoots_p a_heads_p a_kept_p a_thrown a_bases a_tops a_words a_roots a_reached a_order a_numbers a_size a_image a_otherSize a_other a_waiting a_input o24.2.1 j25 o22.2.2.2.1 j15 o22.2.2.2.2.1 o19.2.2.2.1 o22.2.2.2.2.2.1 o22.2.2.2.2.2.2 a_kept) [(0, .ref a_p), (2, .int o22.1)] 245 [] := by
          refine g_aload_n F dX4_readAll_245 rfl 0 rfl ?_
          refine g_get F h_X4_readAll_4 0 rfl rfl 15 (by decide) (by decide +kernel) rfl dX4_readAll_246 ?_
          refine g_if_ge (tgt := 271) F dX4_readAll_249 (by decide) (fun c249 => ?_) (fun c249 => ?_)
          · have hf := iteT hf c249
            refine g_aload_n F dX4_readAll_271 rfl 0 rfl ?_
            refine g_iload_n F dX4_readAll_272 rfl 1 rfl ?_
            refine g_put F h_X4_readAll_4 tyX4 tyX4_ok nmX4 0 rfl rfl 14 (by decide) (by decide +kernel) rfl rfl rfl (Nat.le_of_ble_eq_true rfl) dX4_readAll_273 (ws' := wMd cI a_p a_bases_p a_tops_p a_words_p a_roots_p a_order_p a_numbers_p a_image_p a_other_p a_input_p a_fresh_p a_freshRoots_p a_heads_p a_kept_p a_thrown a_bases a_tops a_words a_roots a_reached a_order a_numbers a_size a_image a_otherSize a_other a_waiting a_input o22.1 j25 o22.2.2.2.1 j15 o22.2.2.2.2.1 o19.2.2.2.1 o22.2.2.2.2.2.1 o22.2.2.2.2.2.2 a_kept) rfl ?_
            subst hQ
            exact g_vret F hlocks hr (o22.1, j25, o22.2.2.2.1, j15, o22.2.2.2.2.1, o19.2.2.2.1, o22.2.2.2.2.2.1, o22.2.2.2.2.2.2) rfl (Option.some.inj hf).symm dX4_readAll_276
          · have hf := iteF hf c249
            refine g_aload_n F dX4_readAll_252 rfl 0 rfl ?_
            refine g_get F h_X4_readAll_4 0 rfl rfl 14 (by decide) (by decide +kernel) rfl dX4_readAll_253 ?_
            refine g_aload_n F dX4_readAll_256 rfl 0 rfl ?_
            refine g_get F h_X4_readAll_4 0 rfl rfl 12 (by decide) (by decide +kernel) rfl dX4_readAll_257 ?_
            refine g_icmp_ge (tgt := 271) F dX4_readAll_260 (by decide) (fun c260 => ?_) (fun c260 => ?_)
            · have hf := iteT hf c260
              refine g_aload_n F dX4_readAll_271 rfl 0 rfl ?_
              refine g_iload_n F dX4_readAll_272 rfl 1 rfl ?_
              refine g_put F h_X4_readAll_4 tyX4 tyX4_ok nmX4 0 rfl rfl 14 (by decide) (by decide +kernel) rfl rfl rfl (Nat.le_of_ble_eq_true rfl) dX4_readAll_273 (ws' := wMd cI a_p a_bases_p a_tops_p a_words_p a_roots_p a_order_p a_numbers_p a_image_p a_other_p a_input_p a_fresh_p a_freshRoots_p a_heads_p a_kept_p a_thrown a_bases a_tops a_words a_roots a_reached a_order a_numbers a_size a_image a_otherSize a_other a_waiting a_input o22.1 j25 o22.2.2.2.1 j15 o22.2.2.2.2.1 o19.2.2.2.1 o22.2.2.2.2.2.1 o22.2.2.2.2.2.2 a_kept) rfl ?_
              subst hQ
              exact g_vret F hlocks hr (o22.1, j25, o22.2.2.2.1, j15, o22.2.2.2.2.1, o19.2.2.2.1, o22.2.2.2.2.2.1, o22.2.2.2.2.2.2) rfl (Option.some.inj hf).symm dX4_readAll_276
            · have hf := iteF hf c260
              refine g_aload_n F dX4_readAll_263 rfl 0 rfl ?_
              refine g_aload_n F dX4_readAll_264 rfl 0 rfl ?_
              refine g_get F h_X4_readAll_4 0 rfl rfl 14 (by decide) (by decide +kernel) rfl dX4_readAll_265 ?_
              obtain ⟨o26, ho26, hf⟩ := bnE hf
              refine g_callPv (n := 1) (As := [.int o24.2.1]) F (c_X4_stop l dC dI cI cJ cH a_p a_bases_p a_tops_p a_words_p a_roots_p a_order_p a_numbers_p a_image_p a_other_p a_input_p a_fresh_p a_freshRoots_p a_heads_p a_kept_p a_thrown a_bases a_tops a_words a_roots a_reached a_order a_numbers a_size a_image a_otherSize a_other a_waiting a_input o24.2.1 j25 o22.2.2.2.1 j15 o22.2.2.2.2.1 o19.2.2.2.1 o22.2.2.2.2.2.1 o22.2.2.2.2.2.2 a_kept o24.2.1 o26 ho26) ggX4_readAll_X4_stop rfl rfl rfl (by decide +kernel) (by decide +kernel) (by decide +kernel) (by decide +kernel) (by decide +kernel) ⟨Nat.le_of_ble_eq_true rfl, Nat.le_of_ble_eq_true rfl⟩ ⟨Nat.le_of_ble_eq_true rfl, Nat.le_of_ble_eq_true rfl⟩ hN 0 rfl rfl rfl ([]) ([]) rfl (fun _ => rfl) rfl (Nat.le_of_ble_eq_true rfl) rfl dX4_readAll_268 (cells' := 0) (slots' := 0) rfl rfl (fun u hp => ?_)
              subst hp
              refine g_ws (ws' := wMd cI a_p a_bases_p a_tops_p a_words_p a_roots_p a_order_p a_numbers_p a_image_p a_other_p a_input_p a_fresh_p a_freshRoots_p a_heads_p a_kept_p a_thrown a_bases a_tops a_words a_roots a_reached a_order a_numbers a_size a_image a_otherSize a_other a_waiting a_input o24.2.1 o26 o22.2.2.2.1 j15 o22.2.2.2.2.1 o19.2.2.2.1 o22.2.2.2.2.2.1 o22.2.2.2.2.2.2 a_kept) rfl ?_
              refine g_aload_n F dX4_readAll_271 rfl 0 rfl ?_
              refine g_iload_n F dX4_readAll_272 rfl 1 rfl ?_
              refine g_put F h_X4_readAll_4 tyX4 tyX4_ok nmX4 0 rfl rfl 14 (by decide) (by decide +kernel) rfl rfl rfl (Nat.le_of_ble_eq_true rfl) dX4_readAll_273 (ws' := wMd cI a_p a_bases_p a_tops_p a_words_p a_roots_p a_order_p a_numbers_p a_image_p a_other_p a_input_p a_fresh_p a_freshRoots_p a_heads_p a_kept_p a_thrown a_bases a_tops a_words a_roots a_reached a_order a_numbers a_size a_image a_otherSize a_other a_waiting a_input o22.1 o26 o22.2.2.2.1 j15 o22.2.2.2.2.1 o19.2.2.2.1 o22.2.2.2.2.2.1 o22.2.2.2.2.2.2 a_kept) rfl ?_
              subst hQ
              exact g_vret F hlocks hr (o22.1, o26, o22.2.2.2.1, j15, o22.2.2.2.2.1, o19.2.2.2.1, o22.2.2.2.2.2.1, o22.2.2.2.2.2.2) rfl (Option.some.inj hf).symm dX4_readAll_276
        clear hf
        have hf := hj25
        refine g_if_ge (tgt := 245) F dX4_readAll_217 (by decide) (fun c217 => ?_) (fun c217 => ?_)
        · have hf := iteT hf c217
          cases hf
          refine g_lv [3, 4] rfl ?_
          exact Kj25
        · have hf := iteF hf c217
          refine g_iload F dX4_readAll_220 1 rfl ?_
          refine g_sipush (v := 256) F dX4_readAll_222 rfl ?_
          refine g_iload F dX4_readAll_225 0 rfl ?_
          refine g_imul F dX4_readAll_227 ?_
          refine g_iadd F dX4_readAll_228 ?_
          refine g_aload_n F dX4_readAll_229 rfl 3 rfl ?_
          refine g_get F h_X4_readAll_4 0 rfl rfl 13 (by decide) (by decide +kernel) rfl dX4_readAll_230 ?_
          refine g_iload_n F dX4_readAll_233 rfl 2 rfl ?_
          obtain ⟨o27, ho27, hf⟩ := bnE hf
          refine g_callSi (n := 2) (As := [.ref a_input_p, .int o22.2.1]) F (c_X4_sumOf l dC dI cI cJ cH a_input_p 2000 a_input o22.2.1 o27 ho27) ggX4_readAll_X4_sumOf rfl rfl rfl (by decide +kernel) (by decide +kernel) (by decide +kernel) (by decide +kernel) ⟨Nat.le_of_ble_eq_true rfl, Nat.le_of_ble_eq_true rfl⟩ ⟨Nat.le_of_ble_eq_true rfl, Nat.le_of_ble_eq_true rfl⟩ hN [9] rfl rfl (fun _ => rfl) rfl (Nat.le_of_ble_eq_true rfl) rfl dX4_readAll_234 (cells' := 0) (slots' := 0) rfl rfl (fun r u hp => ?_)
          subst hp
          refine g_ws (ws' := wMd cI a_p a_bases_p a_tops_p a_words_p a_roots_p a_order_p a_numbers_p a_image_p a_other_p a_input_p a_fresh_p a_freshRoots_p a_heads_p a_kept_p a_thrown a_bases a_tops a_words a_roots a_reached a_order a_numbers a_size a_image a_otherSize a_other a_waiting a_input o24.2.1 o24.2.2 o22.2.2.2.1 j15 o22.2.2.2.2.1 o19.2.2.2.1 o22.2.2.2.2.2.1 o22.2.2.2.2.2.2 a_kept) rfl ?_
          refine g_icmp_eq (tgt := 245) F dX4_readAll_237 (by decide) (fun c237 => ?_) (fun c237 => ?_)
          · have hf := iteT hf c237
            cases hf
            refine g_lv [3, 4] rfl ?_
            exact Kj25
          · have hf := iteF hf c237
            refine g_aload_n F dX4_readAll_240 rfl 3 rfl ?_
            refine g_iload_n F dX4_readAll_241 rfl 2 rfl ?_
            obtain ⟨o28, ho28, hf⟩ := bnE hf
            refine g_callPv (n := 1) (As := [.int o22.2.1]) F (c_X4_stop l dC dI cI cJ cH a_p a_bases_p a_tops_p a_words_p a_roots_p a_order_p a_numbers_p a_image_p a_other_p a_input_p a_fresh_p a_freshRoots_p a_heads_p a_kept_p a_thrown a_bases a_tops a_words a_roots a_reached a_order a_numbers a_size a_image a_otherSize a_other a_waiting a_input o24.2.1 o24.2.2 o22.2.2.2.1 j15 o22.2.2.2.2.1 o19.2.2.2.1 o22.2.2.2.2.2.1 o22.2.2.2.2.2.2 a_kept o22.2.1 o28 ho28) ggX4_readAll_X4_stop rfl rfl rfl (by decide +kernel) (by decide +kernel) (by decide +kernel) (by decide +kernel) (by decide +kernel) ⟨Nat.le_of_ble_eq_true rfl, Nat.le_of_ble_eq_true rfl⟩ ⟨Nat.le_of_ble_eq_true rfl, Nat.le_of_ble_eq_true rfl⟩ hN 0 rfl rfl rfl ([]) ([]) rfl (fun _ => rfl) rfl (Nat.le_of_ble_eq_true rfl) rfl dX4_readAll_242 (cells' := 0) (slots' := 0) rfl rfl (fun u hp => ?_)
            subst hp
            refine g_ws (ws' := wMd cI a_p a_bases_p a_tops_p a_words_p a_roots_p a_order_p a_numbers_p a_image_p a_other_p a_input_p a_fresh_p a_freshRoots_p a_heads_p a_kept_p a_thrown a_bases a_tops a_words a_roots a_reached a_order a_numbers a_size a_image a_otherSize a_other a_waiting a_input o24.2.1 o28 o22.2.2.2.1 j15 o22.2.2.2.2.1 o19.2.2.2.1 o22.2.2.2.2.2.1 o22.2.2.2.2.2.2 a_kept) rfl ?_
            cases hf
            refine g_lv [3, 4] rfl ?_
            exact Kj25
      clear hf
      have hf := hj15
      refine g_if_ge (tgt := 129) F dX4_readAll_118 (by decide) (fun c118 => ?_) (fun c118 => ?_)
      · have hf := iteT hf c118
        refine g_iconst (v := 0) F dX4_readAll_129 rfl ?_
        cases hf
        refine g_lv [0] rfl ?_
        exact Kj15
      · have hf := iteF hf c118
        refine g_aload_n F dX4_readAll_121 rfl 0 rfl ?_
        refine g_get F h_X4_readAll_4 0 rfl rfl 21 (by decide) (by decide +kernel) rfl dX4_readAll_122 ?_
        refine g_l2i F dX4_readAll_125 ?_
        refine g_goto (tgt := 130) F dX4_readAll_126 (by decide) ?_
        cases hf
        refine g_lv [0] rfl ?_
        exact Kj15
    clear hf
    have hf := hj14
    refine g_if_ge (tgt := 113) F dX4_readAll_94 (by decide) (fun c94 => ?_) (fun c94 => ?_)
    · have hf := iteT hf c94
      cases hf
      refine g_lv [1] rfl ?_
      exact Kj14
    · have hf := iteF hf c94
      refine g_aload_n F dX4_readAll_97 rfl 1 rfl ?_
      refine g_get F h_X4_readAll_4 0 rfl rfl 21 (by decide) (by decide +kernel) rfl dX4_readAll_98 ?_
      refine g_ldc2 (v := 256) F (by decide +kernel) dX4_readAll_101 ?_
      refine g_lcmp F dX4_readAll_104 ?_
      refine g_if_le (tgt := 113) F dX4_readAll_105 (by decide) (fun c105 => ?_) (fun c105 => ?_)
      · have hf := iteT hf c105
        cases hf
        refine g_lv [1] rfl ?_
        exact Kj14
      · have hf := iteF hf c105
        refine g_aload_n F dX4_readAll_108 rfl 1 rfl ?_
        refine g_iload_n F dX4_readAll_109 rfl 0 rfl ?_
        obtain ⟨o29, ho29, hf⟩ := bnE hf
        refine g_callPv (n := 1) (As := [.int j13.1]) F (c_X4_stop l dC dI cI cJ cH a_p a_bases_p a_tops_p a_words_p a_roots_p a_order_p a_numbers_p a_image_p a_other_p a_input_p a_fresh_p a_freshRoots_p a_heads_p a_kept_p a_thrown a_bases a_tops a_words a_roots a_reached a_order a_numbers a_size a_image a_otherSize a_other a_waiting a_input j13.2.1 j13.2.2.1 (0 : Int32) (0 : Int32) a_fresh a_freshRoots a_heads j13.2.2.2 a_kept j13.1 o29 ho29) ggX4_readAll_X4_stop rfl rfl rfl (by decide +kernel) (by decide +kernel) (by decide +kernel) (by decide +kernel) (by decide +kernel) ⟨Nat.le_of_ble_eq_true rfl, Nat.le_of_ble_eq_true rfl⟩ ⟨Nat.le_of_ble_eq_true rfl, Nat.le_of_ble_eq_true rfl⟩ hN 0 rfl rfl rfl ([]) ([]) rfl (fun _ => rfl) rfl (Nat.le_of_ble_eq_true rfl) rfl dX4_readAll_110 (cells' := 0) (slots' := 0) rfl rfl (fun u hp => ?_)
        subst hp
        refine g_ws (ws' := wMd cI a_p a_bases_p a_tops_p a_words_p a_roots_p a_order_p a_numbers_p a_image_p a_other_p a_input_p a_fresh_p a_freshRoots_p a_heads_p a_kept_p a_thrown a_bases a_tops a_words a_roots a_reached a_order a_numbers a_size a_image a_otherSize a_other a_waiting a_input j13.2.1 o29 (0 : Int32) (0 : Int32) a_fresh a_freshRoots a_heads j13.2.2.2 a_kept) rfl ?_
        cases hf
        refine g_lv [1] rfl ?_
        exact Kj14
  clear hf
  have hf := hj13
  refine g_if_ge (tgt := 88) F dX4_readAll_78 (by decide) (fun c78 => ?_) (fun c78 => ?_)
  · have hf := iteT hf c78
    refine g_iconst (v := 0) F dX4_readAll_88 rfl ?_
    cases hf
    refine g_lv [0] rfl ?_
    exact Kj13
  · have hf := iteF hf c78
    refine g_aload_n F dX4_readAll_81 rfl 0 rfl ?_
    obtain ⟨o30, ho30, hf⟩ := bnE hf
    refine g_callPi (n := 0) (As := []) F (c_X4_nextCount l dC dI cI cJ cH a_p a_bases_p a_tops_p a_words_p a_roots_p a_order_p a_numbers_p a_image_p a_other_p a_input_p a_fresh_p a_freshRoots_p a_heads_p a_kept_p a_thrown a_bases a_tops a_words a_roots a_reached a_order a_numbers a_size a_image a_otherSize a_other a_waiting a_input o12.1 o12.2 (0 : Int32) (0 : Int32) a_fresh a_freshRoots a_heads a_count a_kept o30 ho30) ggX4_readAll_X4_nextCount rfl rfl rfl (by decide +kernel) (by decide +kernel) (by decide +kernel) (by decide +kernel) (by decide +kernel) ⟨Nat.le_of_ble_eq_true rfl, Nat.le_of_ble_eq_true rfl⟩ ⟨Nat.le_of_ble_eq_true rfl, Nat.le_of_ble_eq_true rfl⟩ hN 0 rfl rfl rfl ([]) ([]) rfl (fun _ => rfl) rfl (Nat.le_of_ble_eq_true rfl) rfl dX4_readAll_82 (cells' := 0) (slots' := 0) rfl rfl (fun r u hp => ?_)
    obtain ⟨hp1, hp2⟩ := hp
    subst hp1
    subst hp2
    refine g_ws (ws' := wMd cI a_p a_bases_p a_tops_p a_words_p a_roots_p a_order_p a_numbers_p a_image_p a_other_p a_input_p a_fresh_p a_freshRoots_p a_heads_p a_kept_p a_thrown a_bases a_tops a_words a_roots a_reached a_order a_numbers a_size a_image a_otherSize a_other a_waiting a_input o30.2.1 o30.2.2.1 (0 : Int32) (0 : Int32) a_fresh a_freshRoots a_heads o30.2.2.2 a_kept) rfl ?_
    refine g_goto (tgt := 89) F dX4_readAll_85 (by decide) ?_
    cases hf
    refine g_lv [0] rfl ?_
    exact Kj13

/-! HeapImagesModel.placed(II)I -/
def rm_X4_placed : Room := { frames := 1, cells := 0, slots := 0, locals := 20 }
theorem h_X4_placed_4 : ∀ w ∈ wsX40, w ∈ wsX4_placed := by decide +kernel
def f_X4_placed (a_heads : (Nat → Int32)) (x1 : Int32) (x2 : Int32) : Option Int32 :=
  Option.bind (f_X4_isNumber x1) fun o1 => if o1 = 0 then if x1 = 0 then some x1 else ck (inR ((x1 / (-2 : Int32)) - (1 : Int32)) 256) (some (x2 + ((4 : Int32) * (a_heads ((x1 / (-2 : Int32)) - (1 : Int32)).toNatClampNeg)))) else some x1
set_option maxHeartbeats 4000000 in
set_option maxRecDepth 100000 in
theorem c_X4_placed (l : Launch) (dC : Nat → ClassId) (dI : Nat → Nat → Nat) (cI cJ cH : ClassId) (a_p a_bases_p a_tops_p a_words_p a_roots_p a_order_p a_numbers_p a_image_p a_other_p a_input_p a_fresh_p a_freshRoots_p a_heads_p a_kept_p : Nat)  (a_thrown : Int32) (a_bases : (Nat → Int32)) (a_tops : (Nat → Int32)) (a_words : (Nat → Int32)) (a_roots : (Nat → Int32)) (a_reached : Int32) (a_order : (Nat → Int32)) (a_numbers : (Nat → Int32)) (a_size : Int32) (a_image : (Nat → Int32)) (a_otherSize : Int32) (a_other : (Nat → Int32)) (a_waiting : Int32) (a_input : (Nat → Int32)) (a_at : Int32) (a_ended : Int32) (a_told : Int32) (a_many : Int32) (a_fresh : (Nat → Int32)) (a_freshRoots : (Nat → Int32)) (a_heads : (Nat → Int32)) (a_count : Int64) (a_kept : (Nat → Int32)) (x1 : Int32) (x2 : Int32) (o : Int32) (hf : f_X4_placed a_heads x1 x2 = some o) : ∀ sz : Nat, Met l yX4_placed wsX4_placed rm_X4_placed (gPre [.ref a_p, .int x1, .int x2] (dC, dI) vwCl (gT cI cJ cH) (wMd cI a_p a_bases_p a_tops_p a_words_p a_roots_p a_order_p a_numbers_p a_image_p a_other_p a_input_p a_fresh_p a_freshRoots_p a_heads_p a_kept_p a_thrown a_bases a_tops a_words a_roots a_reached a_order a_numbers a_size a_image a_otherSize a_other a_waiting a_input a_at a_ended a_told a_many a_fresh a_freshRoots a_heads a_count a_kept) sz) (va_Qi (fun (r : Int32) (u : Unit) => o = r) (gB (dC, dI) vwCl (gT cI cJ cH) (fun (u : Unit) => wMd cI a_p a_bases_p a_tops_p a_words_p a_roots_p a_order_p a_numbers_p a_image_p a_other_p a_input_p a_fresh_p a_freshRoots_p a_heads_p a_kept_p a_thrown a_bases a_tops a_words a_roots a_reached a_order a_numbers a_size a_image a_otherSize a_other a_waiting a_input a_at a_ended a_told a_many a_fresh a_freshRoots a_heads a_count a_kept) (va_A (wMd cI a_p a_bases_p a_tops_p a_words_p a_roots_p a_order_p a_numbers_p a_image_p a_other_p a_input_p a_fresh_p a_freshRoots_p a_heads_p a_kept_p a_thrown a_bases a_tops a_words a_roots a_reached a_order a_numbers a_size a_image a_otherSize a_other a_waiting a_input a_at a_ended a_told a_many a_fresh a_freshRoots a_heads a_count a_kept) sz)) (va_A (wMd cI a_p a_bases_p a_tops_p a_words_p a_roots_p a_order_p a_numbers_p a_image_p a_other_p a_input_p a_fresh_p a_freshRoots_p a_heads_p a_kept_p a_thrown a_bases a_tops a_words a_roots a_reached a_order a_numbers a_size a_image a_otherSize a_other a_waiting a_input a_at a_ended a_told a_many a_fresh a_freshRoots a_heads a_count a_kept) sz)) 0 0 (va_A (wMd cI a_p a_bases_p a_tops_p a_words_p a_roots_p a_order_p a_numbers_p a_image_p a_other_p a_input_p a_fresh_p a_freshRoots_p a_heads_p a_kept_p a_thrown a_bases a_tops a_words a_roots a_reached a_order a_numbers a_size a_image a_otherSize a_other a_waiting a_input a_at a_ended a_told a_many a_fresh a_freshRoots a_heads a_count a_kept) sz) := by
  refine g_met (fun A => va_Qi (fun (r : Int32) (u : Unit) => o = r) (gB (dC, dI) vwCl (gT cI cJ cH) (fun (u : Unit) => wMd cI a_p a_bases_p a_tops_p a_words_p a_roots_p a_order_p a_numbers_p a_image_p a_other_p a_input_p a_fresh_p a_freshRoots_p a_heads_p a_kept_p a_thrown a_bases a_tops a_words a_roots a_reached a_order a_numbers a_size a_image a_otherSize a_other a_waiting a_input a_at a_ended a_told a_many a_fresh a_freshRoots a_heads a_count a_kept) A) A) (by decide) rfl (Nat.le_of_ble_eq_true rfl) ?_
  intro p e s m args below meth c A Q F hlocks hr hname hN hQ
  unfold f_X4_placed at hf
  refine g_lvE (lv' := [(0, .ref a_p), (1, .int x1), (2, .int x2)]) rfl ?_
  refine g_iload_n F dX4_placed_0 rfl 1 rfl ?_
  obtain ⟨o1, ho1, hf⟩ := bnE hf
  refine g_callSi (n := 1) (As := [.int x1]) F (c_X4_isNumber l dC dI cI cJ cH x1 o1 ho1) ggX4_placed_X4_isNumber rfl rfl rfl (by decide +kernel) (by decide +kernel) (by decide +kernel) (by decide +kernel) ⟨Nat.le_of_ble_eq_true rfl, Nat.le_of_ble_eq_true rfl⟩ ⟨Nat.le_of_ble_eq_true rfl, Nat.le_of_ble_eq_true rfl⟩ hN [] rfl rfl (fun _ => rfl) rfl (Nat.le_of_ble_eq_true rfl) rfl dX4_placed_1 (cells' := 0) (slots' := 0) rfl rfl (fun r u hp => ?_)
  subst hp
  refine g_ws (ws' := wMd cI a_p a_bases_p a_tops_p a_words_p a_roots_p a_order_p a_numbers_p a_image_p a_other_p a_input_p a_fresh_p a_freshRoots_p a_heads_p a_kept_p a_thrown a_bases a_tops a_words a_roots a_reached a_order a_numbers a_size a_image a_otherSize a_other a_waiting a_input a_at a_ended a_told a_many a_fresh a_freshRoots a_heads a_count a_kept) rfl ?_
  refine g_if_ne (tgt := 11) F dX4_placed_4 (by decide) (fun c4 => ?_) (fun c4 => ?_)
  · have hf := iteF hf c4
    refine g_iload_n F dX4_placed_11 rfl 1 rfl ?_
    refine g_goto (tgt := 30) F dX4_placed_12 (by decide) ?_
    subst hQ
    exact g_iret F hlocks hr () rfl (Option.some.inj hf).symm dX4_placed_30
  · have hf := iteT hf c4
    refine g_iload_n F dX4_placed_7 rfl 1 rfl ?_
    refine g_if_ne (tgt := 15) F dX4_placed_8 (by decide) (fun c8 => ?_) (fun c8 => ?_)
    · have hf := iteF hf c8
      refine g_iload_n F dX4_placed_15 rfl 2 rfl ?_
      refine g_iconst (v := 4) F dX4_placed_16 rfl ?_
      refine g_aload_n F dX4_placed_17 rfl 0 rfl ?_
      refine g_get F h_X4_placed_4 0 rfl rfl 20 (by decide) (by decide +kernel) rfl dX4_placed_18 ?_
      refine g_iload_n F dX4_placed_21 rfl 1 rfl ?_
      refine g_bipush (v := -2) F dX4_placed_22 rfl ?_
      refine g_idiv F dX4_placed_24 (by decide) ?_
      refine g_iconst (v := 1) F dX4_placed_25 rfl ?_
      refine g_isub F dX4_placed_26 ?_
      obtain ⟨h2, hf⟩ := ckE hf
      refine g_iald F 12 0 rfl rfl h2 dX4_placed_27 ?_
      refine g_imul F dX4_placed_28 ?_
      refine g_iadd F dX4_placed_29 ?_
      subst hQ
      exact g_iret F hlocks hr () rfl (Option.some.inj hf).symm dX4_placed_30
    · have hf := iteT hf c8
      refine g_iload_n F dX4_placed_11 rfl 1 rfl ?_
      refine g_goto (tgt := 30) F dX4_placed_12 (by decide) ?_
      subst hQ
      exact g_iret F hlocks hr () rfl (Option.some.inj hf).symm dX4_placed_30

/-! HeapImagesModel.restore(II)I -/
def rm_X4_restore : Room := { frames := 6, cells := 0, slots := 0, locals := 145 }
theorem h_X4_restore_4 : ∀ w ∈ wsX40, w ∈ wsX4_restore := by decide +kernel
def f_X4_restore_L81_s (a_at : Int32) (a_fresh : (Nat → Int32)) (y1 : Int32) (y2 : Int32) (y3 : Int32) (rc : Int32 → (Nat → Int32) → Option (Nat → Int32)) (z4 : Int32) (a_words : (Nat → Int32)) : Option (Nat → Int32) :=
  if (256 : Int32) ≤ z4 then some a_words else if a_at ≤ z4 then ck (inR (((256 : Int32) * y1) + z4) 512) (nm (z4 + (1 : Int32)) fun v7 => rc v7 (upd a_words (((256 : Int32) * y1) + z4).toNatClampNeg (0 : Int32))) else ck (inR z4 256) (ck (inR (((256 : Int32) * y1) + z4) 512) (nm (z4 + (1 : Int32)) fun v10 => rc v10 (upd a_words (((256 : Int32) * y1) + z4).toNatClampNeg (a_fresh z4.toNatClampNeg))))
def f_X4_restore_L81 (a_at : Int32) (a_fresh : (Nat → Int32)) (y1 : Int32) (y2 : Int32) (y3 : Int32) : Nat → Int32 → (Nat → Int32) → Option (Nat → Int32)
  | 0, _, _ => none
  | n + 1, z4, a_words => f_X4_restore_L81_s a_at a_fresh y1 y2 y3 (f_X4_restore_L81 a_at a_fresh y1 y2 y3 n) z4 a_words
set_option maxHeartbeats 4000000 in
theorem w_X4_restore_L81 {p : Program} {l : Launch} {e : Env} {s : State} {m : MethodId} {args : Array Value} {below : List Frame} {meth : Method} {c : Code} {A : Nat → Prop} {Q : State → Prop} {dC : Nat → ClassId} {dI : Nat → Nat → Nat} {cI cJ cH : ClassId} {a_p a_bases_p a_tops_p a_words_p a_roots_p a_order_p a_numbers_p a_image_p a_other_p a_input_p a_fresh_p a_freshRoots_p a_heads_p a_kept_p : Nat} {a_thrown : Int32} {a_bases : (Nat → Int32)} {a_tops : (Nat → Int32)} {a_roots : (Nat → Int32)} {a_reached : Int32} {a_order : (Nat → Int32)} {a_numbers : (Nat → Int32)} {a_size : Int32} {a_image : (Nat → Int32)} {a_otherSize : Int32} {a_other : (Nat → Int32)} {a_waiting : Int32} {a_input : (Nat → Int32)} {a_at : Int32} {a_ended : Int32} {a_told : Int32} {a_many : Int32} {a_fresh : (Nat → Int32)} {a_freshRoots : (Nat → Int32)} {a_heads : (Nat → Int32)} {a_count : Int64} {a_kept : (Nat → Int32)} {y1 : Int32} {y2 : Int32} {y3 : Int32} (F : gF p m c cX4_restore 7 s args wsX4_restore yX4_restore.cls (dC, dI) vwCl (gT cI cJ cH) A) (hN : ∀ w ∈ gN, va_Nw w s) : ∀ (n : Nat) (z4 : Int32) (a_words : (Nat → Int32)) (o : (Nat → Int32)), f_X4_restore_L81 a_at a_fresh y1 y2 y3 n z4 a_words = some o → (gW p l e rm_X4_restore s m args below meth c 0 0 Q (dC, dI) vwCl A 7 (wMd cI a_p a_bases_p a_tops_p a_words_p a_roots_p a_order_p a_numbers_p a_image_p a_other_p a_input_p a_fresh_p a_freshRoots_p a_heads_p a_kept_p a_thrown a_bases a_tops o a_roots a_reached a_order a_numbers a_size a_image a_otherSize a_other a_waiting a_input a_at a_ended a_told a_many a_fresh a_freshRoots a_heads a_count a_kept) [(0, .ref a_p), (1, .int y1), (2, .int y2), (3, .int y3)] 128 []) → gW p l e rm_X4_restore s m args below meth c 0 0 Q (dC, dI) vwCl A 7 (wMd cI a_p a_bases_p a_tops_p a_words_p a_roots_p a_order_p a_numbers_p a_image_p a_other_p a_input_p a_fresh_p a_freshRoots_p a_heads_p a_kept_p a_thrown a_bases a_tops a_words a_roots a_reached a_order a_numbers a_size a_image a_otherSize a_other a_waiting a_input a_at a_ended a_told a_many a_fresh a_freshRoots a_heads a_count a_kept) [(0, .ref a_p), (1, .int y1), (2, .int y2), (3, .int y3), (4, .int z4)] 81 [] := by
  intro n
  induction n with
  | zero =>
    intro z4 a_words o hf E0
    change none = some o at hf
    cases hf
  | succ n ih =>
    intro z4 a_words o hf E0
    change f_X4_restore_L81_s a_at a_fresh y1 y2 y3 (f_X4_restore_L81 a_at a_fresh y1 y2 y3 n) z4 a_words = some o at hf
    unfold f_X4_restore_L81_s at hf
    refine g_iload F dX4_restore_81 4 rfl ?_
    refine g_sipush (v := 256) F dX4_restore_83 rfl ?_
    refine g_icmp_ge (tgt := 128) F dX4_restore_86 (by decide) (fun c86 => ?_) (fun c86 => ?_)
    · have hf := iteT hf c86
      cases hf
      refine g_lv [0, 1, 2, 3] rfl ?_
      exact E0
    · have hf := iteF hf c86
      refine g_aload_n F dX4_restore_89 rfl 0 rfl ?_
      refine g_get F h_X4_restore_4 0 rfl rfl 3 (by decide) (by decide +kernel) rfl dX4_restore_90 ?_
      refine g_sipush (v := 256) F dX4_restore_93 rfl ?_
      refine g_iload_n F dX4_restore_96 rfl 1 rfl ?_
      refine g_imul F dX4_restore_97 ?_
      refine g_iload F dX4_restore_98 4 rfl ?_
      refine g_iadd F dX4_restore_100 ?_
      refine g_iload F dX4_restore_101 4 rfl ?_
      refine g_aload_n F dX4_restore_103 rfl 0 rfl ?_
      refine g_get F h_X4_restore_4 0 rfl rfl 14 (by decide) (by decide +kernel) rfl dX4_restore_104 ?_
      refine g_icmp_ge (tgt := 120) F dX4_restore_107 (by decide) (fun c107 => ?_) (fun c107 => ?_)
      · have hf := iteT hf c107
        refine g_iconst (v := 0) F dX4_restore_120 rfl ?_
        obtain ⟨h6, hf⟩ := ckE hf
        refine g_iast F 3 0 rfl rfl h6 dX4_restore_121 (ws' := wMd cI a_p a_bases_p a_tops_p a_words_p a_roots_p a_order_p a_numbers_p a_image_p a_other_p a_input_p a_fresh_p a_freshRoots_p a_heads_p a_kept_p a_thrown a_bases a_tops (upd a_words (((256 : Int32) * y1) + z4).toNatClampNeg (0 : Int32)) a_roots a_reached a_order a_numbers a_size a_image a_otherSize a_other a_waiting a_input a_at a_ended a_told a_many a_fresh a_freshRoots a_heads a_count a_kept) rfl ?_
        obtain ⟨v7, ev7, hf⟩ := nmE hf
        refine g_iinc (j := 4) (lv' := [(4, .int v7), (0, .ref a_p), (1, .int y1), (2, .int y2), (3, .int y3)]) F dX4_restore_122 rfl ev7.symm (by decide) rfl ?_
        refine g_goto (tgt := 81) F dX4_restore_125 (by decide) ?_
        refine g_lv [1, 2, 3, 4, 0] rfl ?_
        exact ih _ _ o hf E0
      · have hf := iteF hf c107
        refine g_aload_n F dX4_restore_110 rfl 0 rfl ?_
        refine g_get F h_X4_restore_4 0 rfl rfl 18 (by decide) (by decide +kernel) rfl dX4_restore_111 ?_
        refine g_iload F dX4_restore_114 4 rfl ?_
        obtain ⟨h8, hf⟩ := ckE hf
        refine g_iald F 10 0 rfl rfl h8 dX4_restore_116 ?_
        refine g_goto (tgt := 121) F dX4_restore_117 (by decide) ?_
        obtain ⟨h9, hf⟩ := ckE hf
        refine g_iast F 3 0 rfl rfl h9 dX4_restore_121 (ws' := wMd cI a_p a_bases_p a_tops_p a_words_p a_roots_p a_order_p a_numbers_p a_image_p a_other_p a_input_p a_fresh_p a_freshRoots_p a_heads_p a_kept_p a_thrown a_bases a_tops (upd a_words (((256 : Int32) * y1) + z4).toNatClampNeg (a_fresh z4.toNatClampNeg)) a_roots a_reached a_order a_numbers a_size a_image a_otherSize a_other a_waiting a_input a_at a_ended a_told a_many a_fresh a_freshRoots a_heads a_count a_kept) rfl ?_
        obtain ⟨v10, ev10, hf⟩ := nmE hf
        refine g_iinc (j := 4) (lv' := [(4, .int v10), (0, .ref a_p), (1, .int y1), (2, .int y2), (3, .int y3)]) F dX4_restore_122 rfl ev10.symm (by decide) rfl ?_
        refine g_goto (tgt := 81) F dX4_restore_125 (by decide) ?_
        refine g_lv [1, 2, 3, 4, 0] rfl ?_
        exact ih _ _ o hf E0
def f_X4_restore_L155_s (a_heads : (Nat → Int32)) (y1 : Int32) (y2 : Int32) (y3 : Int32) (y4 : Int32) (y5 : Int32) (rc : Int32 → (Nat → Int32) → Option (Nat → Int32)) (z6 : Int32) (a_words : (Nat → Int32)) : Option (Nat → Int32) :=
  if y5 < z6 then some a_words else if y4 = (2 : Int32) then some a_words else ck (inR ((((256 : Int32) * y1) + y3) + z6) 512) (Option.bind (f_X4_placed a_heads (a_words ((((256 : Int32) * y1) + y3) + z6).toNatClampNeg) y2) fun o15 => ck (inR ((((256 : Int32) * y1) + y3) + z6) 512) (nm (z6 + (1 : Int32)) fun v17 => rc v17 (upd a_words ((((256 : Int32) * y1) + y3) + z6).toNatClampNeg o15)))
def f_X4_restore_L155 (a_heads : (Nat → Int32)) (y1 : Int32) (y2 : Int32) (y3 : Int32) (y4 : Int32) (y5 : Int32) : Nat → Int32 → (Nat → Int32) → Option (Nat → Int32)
  | 0, _, _ => none
  | n + 1, z6, a_words => f_X4_restore_L155_s a_heads y1 y2 y3 y4 y5 (f_X4_restore_L155 a_heads y1 y2 y3 y4 y5 n) z6 a_words
set_option maxHeartbeats 4000000 in
theorem w_X4_restore_L155 {p : Program} {l : Launch} {e : Env} {s : State} {m : MethodId} {args : Array Value} {below : List Frame} {meth : Method} {c : Code} {A : Nat → Prop} {Q : State → Prop} {dC : Nat → ClassId} {dI : Nat → Nat → Nat} {cI cJ cH : ClassId} {a_p a_bases_p a_tops_p a_words_p a_roots_p a_order_p a_numbers_p a_image_p a_other_p a_input_p a_fresh_p a_freshRoots_p a_heads_p a_kept_p : Nat} {a_thrown : Int32} {a_bases : (Nat → Int32)} {a_tops : (Nat → Int32)} {a_roots : (Nat → Int32)} {a_reached : Int32} {a_order : (Nat → Int32)} {a_numbers : (Nat → Int32)} {a_size : Int32} {a_image : (Nat → Int32)} {a_otherSize : Int32} {a_other : (Nat → Int32)} {a_waiting : Int32} {a_input : (Nat → Int32)} {a_at : Int32} {a_ended : Int32} {a_told : Int32} {a_many : Int32} {a_fresh : (Nat → Int32)} {a_freshRoots : (Nat → Int32)} {a_heads : (Nat → Int32)} {a_count : Int64} {a_kept : (Nat → Int32)} {y1 : Int32} {y2 : Int32} {y3 : Int32} {y4 : Int32} {y5 : Int32} (F : gF p m c cX4_restore 7 s args wsX4_restore yX4_restore.cls (dC, dI) vwCl (gT cI cJ cH) A) (hN : ∀ w ∈ gN, va_Nw w s) : ∀ (n : Nat) (z6 : Int32) (a_words : (Nat → Int32)) (o : (Nat → Int32)), f_X4_restore_L155 a_heads y1 y2 y3 y4 y5 n z6 a_words = some o → (gW p l e rm_X4_restore s m args below meth c 0 0 Q (dC, dI) vwCl A 7 (wMd cI a_p a_bases_p a_tops_p a_words_p a_roots_p a_order_p a_numbers_p a_image_p a_other_p a_input_p a_fresh_p a_freshRoots_p a_heads_p a_kept_p a_thrown a_bases a_tops o a_roots a_reached a_order a_numbers a_size a_image a_otherSize a_other a_waiting a_input a_at a_ended a_told a_many a_fresh a_freshRoots a_heads a_count a_kept) [(0, .ref a_p), (1, .int y1), (2, .int y2), (3, .int y3), (5, .int y5)] 209 []) → gW p l e rm_X4_restore s m args below meth c 0 0 Q (dC, dI) vwCl A 7 (wMd cI a_p a_bases_p a_tops_p a_words_p a_roots_p a_order_p a_numbers_p a_image_p a_other_p a_input_p a_fresh_p a_freshRoots_p a_heads_p a_kept_p a_thrown a_bases a_tops a_words a_roots a_reached a_order a_numbers a_size a_image a_otherSize a_other a_waiting a_input a_at a_ended a_told a_many a_fresh a_freshRoots a_heads a_count a_kept) [(0, .ref a_p), (1, .int y1), (2, .int y2), (3, .int y3), (4, .int y4), (5, .int y5), (6, .int z6)] 155 [] := by
  intro n
  induction n with
  | zero =>
    intro z6 a_words o hf E0
    change none = some o at hf
    cases hf
  | succ n ih =>
    intro z6 a_words o hf E0
    change f_X4_restore_L155_s a_heads y1 y2 y3 y4 y5 (f_X4_restore_L155 a_heads y1 y2 y3 y4 y5 n) z6 a_words = some o at hf
    unfold f_X4_restore_L155_s at hf
    refine g_iload F dX4_restore_155 6 rfl ?_
    refine g_iload F dX4_restore_157 5 rfl ?_
    refine g_icmp_gt (tgt := 209) F dX4_restore_159 (by decide) (fun c159 => ?_) (fun c159 => ?_)
    · have hf := iteT hf c159
      cases hf
      refine g_lv [0, 1, 2, 3, 5] rfl ?_
      exact E0
    · have hf := iteF hf c159
      refine g_iload F dX4_restore_162 4 rfl ?_
      refine g_iconst (v := 2) F dX4_restore_164 rfl ?_
      refine g_icmp_eq (tgt := 209) F dX4_restore_165 (by decide) (fun c165 => ?_) (fun c165 => ?_)
      · have hf := iteT hf c165
        cases hf
        refine g_lv [0, 1, 2, 3, 5] rfl ?_
        exact E0
      · have hf := iteF hf c165
        refine g_aload_n F dX4_restore_168 rfl 0 rfl ?_
        refine g_get F h_X4_restore_4 0 rfl rfl 3 (by decide) (by decide +kernel) rfl dX4_restore_169 ?_
        refine g_sipush (v := 256) F dX4_restore_172 rfl ?_
        refine g_iload_n F dX4_restore_175 rfl 1 rfl ?_
        refine g_imul F dX4_restore_176 ?_
        refine g_iload_n F dX4_restore_177 rfl 3 rfl ?_
        refine g_iadd F dX4_restore_178 ?_
        refine g_iload F dX4_restore_179 6 rfl ?_
        refine g_iadd F dX4_restore_181 ?_
        refine g_aload_n F dX4_restore_182 rfl 0 rfl ?_
        refine g_aload_n F dX4_restore_183 rfl 0 rfl ?_
        refine g_get F h_X4_restore_4 0 rfl rfl 3 (by decide) (by decide +kernel) rfl dX4_restore_184 ?_
        refine g_sipush (v := 256) F dX4_restore_187 rfl ?_
        refine g_iload_n F dX4_restore_190 rfl 1 rfl ?_
        refine g_imul F dX4_restore_191 ?_
        refine g_iload_n F dX4_restore_192 rfl 3 rfl ?_
        refine g_iadd F dX4_restore_193 ?_
        refine g_iload F dX4_restore_194 6 rfl ?_
        refine g_iadd F dX4_restore_196 ?_
        obtain ⟨h14, hf⟩ := ckE hf
        refine g_iald F 3 0 rfl rfl h14 dX4_restore_197 ?_
        refine g_iload_n F dX4_restore_198 rfl 2 rfl ?_
        obtain ⟨o15, ho15, hf⟩ := bnE hf
        refine g_callPi (n := 2) (As := [.int (a_words ((((256 : Int32) * y1) + y3) + z6).toNatClampNeg), .int y2]) F (c_X4_placed l dC dI cI cJ cH a_p a_bases_p a_tops_p a_words_p a_roots_p a_order_p a_numbers_p a_image_p a_other_p a_input_p a_fresh_p a_freshRoots_p a_heads_p a_kept_p a_thrown a_bases a_tops a_words a_roots a_reached a_order a_numbers a_size a_image a_otherSize a_other a_waiting a_input a_at a_ended a_told a_many a_fresh a_freshRoots a_heads a_count a_kept (a_words ((((256 : Int32) * y1) + y3) + z6).toNatClampNeg) y2 o15 ho15) ggX4_restore_X4_placed rfl rfl rfl (by decide +kernel) (by decide +kernel) (by decide +kernel) (by decide +kernel) (by decide +kernel) ⟨Nat.le_of_ble_eq_true rfl, Nat.le_of_ble_eq_true rfl⟩ ⟨Nat.le_of_ble_eq_true rfl, Nat.le_of_ble_eq_true rfl⟩ hN 0 rfl rfl rfl ([]) ([]) rfl (fun _ => rfl) rfl (Nat.le_of_ble_eq_true rfl) rfl dX4_restore_199 (cells' := 0) (slots' := 0) rfl rfl (fun r u hp => ?_)
        subst hp
        refine g_ws (ws' := wMd cI a_p a_bases_p a_tops_p a_words_p a_roots_p a_order_p a_numbers_p a_image_p a_other_p a_input_p a_fresh_p a_freshRoots_p a_heads_p a_kept_p a_thrown a_bases a_tops a_words a_roots a_reached a_order a_numbers a_size a_image a_otherSize a_other a_waiting a_input a_at a_ended a_told a_many a_fresh a_freshRoots a_heads a_count a_kept) rfl ?_
        obtain ⟨h16, hf⟩ := ckE hf
        refine g_iast F 3 0 rfl rfl h16 dX4_restore_202 (ws' := wMd cI a_p a_bases_p a_tops_p a_words_p a_roots_p a_order_p a_numbers_p a_image_p a_other_p a_input_p a_fresh_p a_freshRoots_p a_heads_p a_kept_p a_thrown a_bases a_tops (upd a_words ((((256 : Int32) * y1) + y3) + z6).toNatClampNeg o15) a_roots a_reached a_order a_numbers a_size a_image a_otherSize a_other a_waiting a_input a_at a_ended a_told a_many a_fresh a_freshRoots a_heads a_count a_kept) rfl ?_
        obtain ⟨v17, ev17, hf⟩ := nmE hf
        refine g_iinc (j := 6) (lv' := [(6, .int v17), (0, .ref a_p), (1, .int y1), (2, .int y2), (3, .int y3), (4, .int y4), (5, .int y5)]) F dX4_restore_203 rfl ev17.symm (by decide) rfl ?_
        refine g_goto (tgt := 155) F dX4_restore_206 (by decide) ?_
        refine g_lv [1, 2, 3, 4, 5, 6, 0] rfl ?_
        exact ih _ _ o hf E0
def f_X4_restore_L128_s (a_at : Int32) (a_heads : (Nat → Int32)) (y1 : Int32) (y2 : Int32) (rc : Int32 → (Nat → Int32) → Option (Nat → Int32)) (z3 : Int32) (a_words : (Nat → Int32)) : Option (Nat → Int32) :=
  if a_at ≤ z3 then some a_words else Option.bind (f_X4_kindAt a_words y1 z3) fun o12 => Option.bind (f_X4_slotsAt a_words y1 z3) fun o13 => Option.bind (f_X4_restore_L155 a_heads y1 y2 z3 o12 o13 FU (1 : Int32) a_words) fun o18 => nm ((z3 + (1 : Int32)) + o13) fun v19 => rc v19 o18
def f_X4_restore_L128 (a_at : Int32) (a_heads : (Nat → Int32)) (y1 : Int32) (y2 : Int32) : Nat → Int32 → (Nat → Int32) → Option (Nat → Int32)
  | 0, _, _ => none
  | n + 1, z3, a_words => f_X4_restore_L128_s a_at a_heads y1 y2 (f_X4_restore_L128 a_at a_heads y1 y2 n) z3 a_words
set_option maxHeartbeats 4000000 in
theorem w_X4_restore_L128 {p : Program} {l : Launch} {e : Env} {s : State} {m : MethodId} {args : Array Value} {below : List Frame} {meth : Method} {c : Code} {A : Nat → Prop} {Q : State → Prop} {dC : Nat → ClassId} {dI : Nat → Nat → Nat} {cI cJ cH : ClassId} {a_p a_bases_p a_tops_p a_words_p a_roots_p a_order_p a_numbers_p a_image_p a_other_p a_input_p a_fresh_p a_freshRoots_p a_heads_p a_kept_p : Nat} {a_thrown : Int32} {a_bases : (Nat → Int32)} {a_tops : (Nat → Int32)} {a_roots : (Nat → Int32)} {a_reached : Int32} {a_order : (Nat → Int32)} {a_numbers : (Nat → Int32)} {a_size : Int32} {a_image : (Nat → Int32)} {a_otherSize : Int32} {a_other : (Nat → Int32)} {a_waiting : Int32} {a_input : (Nat → Int32)} {a_at : Int32} {a_ended : Int32} {a_told : Int32} {a_many : Int32} {a_fresh : (Nat → Int32)} {a_freshRoots : (Nat → Int32)} {a_heads : (Nat → Int32)} {a_count : Int64} {a_kept : (Nat → Int32)} {y1 : Int32} {y2 : Int32} (F : gF p m c cX4_restore 7 s args wsX4_restore yX4_restore.cls (dC, dI) vwCl (gT cI cJ cH) A) (hN : ∀ w ∈ gN, va_Nw w s) : ∀ (n : Nat) (z3 : Int32) (a_words : (Nat → Int32)) (o : (Nat → Int32)), f_X4_restore_L128 a_at a_heads y1 y2 n z3 a_words = some o → (gW p l e rm_X4_restore s m args below meth c 0 0 Q (dC, dI) vwCl A 7 (wMd cI a_p a_bases_p a_tops_p a_words_p a_roots_p a_order_p a_numbers_p a_image_p a_other_p a_input_p a_fresh_p a_freshRoots_p a_heads_p a_kept_p a_thrown a_bases a_tops o a_roots a_reached a_order a_numbers a_size a_image a_otherSize a_other a_waiting a_input a_at a_ended a_told a_many a_fresh a_freshRoots a_heads a_count a_kept) [(0, .ref a_p), (1, .int y1), (2, .int y2)] 219 []) → gW p l e rm_X4_restore s m args below meth c 0 0 Q (dC, dI) vwCl A 7 (wMd cI a_p a_bases_p a_tops_p a_words_p a_roots_p a_order_p a_numbers_p a_image_p a_other_p a_input_p a_fresh_p a_freshRoots_p a_heads_p a_kept_p a_thrown a_bases a_tops a_words a_roots a_reached a_order a_numbers a_size a_image a_otherSize a_other a_waiting a_input a_at a_ended a_told a_many a_fresh a_freshRoots a_heads a_count a_kept) [(0, .ref a_p), (1, .int y1), (2, .int y2), (3, .int z3)] 128 [] := by
  intro n
  induction n with
  | zero =>
    intro z3 a_words o hf E0
    change none = some o at hf
    cases hf
  | succ n ih =>
    intro z3 a_words o hf E0
    change f_X4_restore_L128_s a_at a_heads y1 y2 (f_X4_restore_L128 a_at a_heads y1 y2 n) z3 a_words = some o at hf
    unfold f_X4_restore_L128_s at hf
    refine g_iload_n F dX4_restore_128 rfl 3 rfl ?_
    refine g_aload_n F dX4_restore_129 rfl 0 rfl ?_
    refine g_get F h_X4_restore_4 0 rfl rfl 14 (by decide) (by decide +kernel) rfl dX4_restore_130 ?_
    refine g_icmp_ge (tgt := 219) F dX4_restore_133 (by decide) (fun c133 => ?_) (fun c133 => ?_)
    · have hf := iteT hf c133
      cases hf
      refine g_lv [0, 1, 2] rfl ?_
      exact E0
    · have hf := iteF hf c133
      refine g_aload_n F dX4_restore_136 rfl 0 rfl ?_
      refine g_iload_n F dX4_restore_137 rfl 1 rfl ?_
      refine g_iload_n F dX4_restore_138 rfl 3 rfl ?_
      obtain ⟨o12, ho12, hf⟩ := bnE hf
      refine g_callPi (n := 2) (As := [.int y1, .int z3]) F (c_X4_kindAt l dC dI cI cJ cH a_p a_bases_p a_tops_p a_words_p a_roots_p a_order_p a_numbers_p a_image_p a_other_p a_input_p a_fresh_p a_freshRoots_p a_heads_p a_kept_p a_thrown a_bases a_tops a_words a_roots a_reached a_order a_numbers a_size a_image a_otherSize a_other a_waiting a_input a_at a_ended a_told a_many a_fresh a_freshRoots a_heads a_count a_kept y1 z3 o12 ho12) ggX4_restore_X4_kindAt rfl rfl rfl (by decide +kernel) (by decide +kernel) (by decide +kernel) (by decide +kernel) (by decide +kernel) ⟨Nat.le_of_ble_eq_true rfl, Nat.le_of_ble_eq_true rfl⟩ ⟨Nat.le_of_ble_eq_true rfl, Nat.le_of_ble_eq_true rfl⟩ hN 0 rfl rfl rfl ([]) ([]) rfl (fun _ => rfl) rfl (Nat.le_of_ble_eq_true rfl) rfl dX4_restore_139 (cells' := 0) (slots' := 0) rfl rfl (fun r u hp => ?_)
      subst hp
      refine g_ws (ws' := wMd cI a_p a_bases_p a_tops_p a_words_p a_roots_p a_order_p a_numbers_p a_image_p a_other_p a_input_p a_fresh_p a_freshRoots_p a_heads_p a_kept_p a_thrown a_bases a_tops a_words a_roots a_reached a_order a_numbers a_size a_image a_otherSize a_other a_waiting a_input a_at a_ended a_told a_many a_fresh a_freshRoots a_heads a_count a_kept) rfl ?_
      refine g_istore (lv' := [(4, .int o12), (0, .ref a_p), (1, .int y1), (2, .int y2), (3, .int z3)]) F dX4_restore_142 (by decide) rfl ?_
      refine g_aload_n F dX4_restore_144 rfl 1 rfl ?_
      refine g_iload_n F dX4_restore_145 rfl 2 rfl ?_
      refine g_iload_n F dX4_restore_146 rfl 4 rfl ?_
      obtain ⟨o13, ho13, hf⟩ := bnE hf
      refine g_callPi (n := 2) (As := [.int y1, .int z3]) F (c_X4_slotsAt l dC dI cI cJ cH a_p a_bases_p a_tops_p a_words_p a_roots_p a_order_p a_numbers_p a_image_p a_other_p a_input_p a_fresh_p a_freshRoots_p a_heads_p a_kept_p a_thrown a_bases a_tops a_words a_roots a_reached a_order a_numbers a_size a_image a_otherSize a_other a_waiting a_input a_at a_ended a_told a_many a_fresh a_freshRoots a_heads a_count a_kept y1 z3 o13 ho13) ggX4_restore_X4_slotsAt rfl rfl rfl (by decide +kernel) (by decide +kernel) (by decide +kernel) (by decide +kernel) (by decide +kernel) ⟨Nat.le_of_ble_eq_true rfl, Nat.le_of_ble_eq_true rfl⟩ ⟨Nat.le_of_ble_eq_true rfl, Nat.le_of_ble_eq_true rfl⟩ hN 0 rfl rfl rfl ([]) ([]) rfl (fun _ => rfl) rfl (Nat.le_of_ble_eq_true rfl) rfl dX4_restore_147 (cells' := 0) (slots' := 0) rfl rfl (fun r u hp => ?_)
      subst hp
      refine g_ws (ws' := wMd cI a_p a_bases_p a_tops_p a_words_p a_roots_p a_order_p a_numbers_p a_image_p a_other_p a_input_p a_fresh_p a_freshRoots_p a_heads_p a_kept_p a_thrown a_bases a_tops a_words a_roots a_reached a_order a_numbers a_size a_image a_otherSize a_other a_waiting a_input a_at a_ended a_told a_many a_fresh a_freshRoots a_heads a_count a_kept) rfl ?_
      refine g_istore (lv' := [(5, .int o13), (4, .int o12), (0, .ref a_p), (1, .int y1), (2, .int y2), (3, .int z3)]) F dX4_restore_150 (by decide) rfl ?_
      refine g_iconst (v := 1) F dX4_restore_152 rfl ?_
      refine g_istore (lv' := [(6, .int (1 : Int32)), (5, .int o13), (4, .int o12), (0, .ref a_p), (1, .int y1), (2, .int y2), (3, .int z3)]) F dX4_restore_153 (by decide) rfl ?_
      obtain ⟨o18, ho18, hf⟩ := bnE hf
      refine g_lv [3, 4, 5, 6, 2, 1, 0] rfl ?_
      refine w_X4_restore_L155 F hN FU _ _ o18 ho18 ?_
      refine g_iload_n F dX4_restore_209 rfl 3 rfl ?_
      refine g_iconst (v := 1) F dX4_restore_210 rfl ?_
      refine g_iadd F dX4_restore_211 ?_
      refine g_iload F dX4_restore_212 4 rfl ?_
      refine g_iadd F dX4_restore_214 ?_
      obtain ⟨v19, ev19, hf⟩ := nmE hf
      refine g_nmi ev19 ?_
      refine g_istore_n (lv' := [(3, .int v19), (0, .ref a_p), (1, .int y1), (2, .int y2), (5, .int o13)]) F dX4_restore_215 rfl (by decide) rfl ?_
      refine g_goto (tgt := 128) F dX4_restore_216 (by decide) ?_
      refine g_lv [1, 2, 3, 0] rfl ?_
      exact ih _ _ o hf E0
def f_X4_restore_L222_s (a_freshRoots : (Nat → Int32)) (a_heads : (Nat → Int32)) (y1 : Int32) (y2 : Int32) (rc : Int32 → (Nat → Int32) → Option (Nat → Int32)) (z4 : Int32) (a_roots : (Nat → Int32)) : Option (Nat → Int32) :=
  if (4 : Int32) ≤ z4 then some a_roots else ck (inR z4 4) (Option.bind (f_X4_placed a_heads (a_freshRoots z4.toNatClampNeg) y2) fun o22 => ck (inR (((4 : Int32) * y1) + z4) 8) (nm (z4 + (1 : Int32)) fun v24 => rc v24 (upd a_roots (((4 : Int32) * y1) + z4).toNatClampNeg o22)))
def f_X4_restore_L222 (a_freshRoots : (Nat → Int32)) (a_heads : (Nat → Int32)) (y1 : Int32) (y2 : Int32) : Nat → Int32 → (Nat → Int32) → Option (Nat → Int32)
  | 0, _, _ => none
  | n + 1, z4, a_roots => f_X4_restore_L222_s a_freshRoots a_heads y1 y2 (f_X4_restore_L222 a_freshRoots a_heads y1 y2 n) z4 a_roots
set_option maxHeartbeats 4000000 in
theorem w_X4_restore_L222 {p : Program} {l : Launch} {e : Env} {s : State} {m : MethodId} {args : Array Value} {below : List Frame} {meth : Method} {c : Code} {A : Nat → Prop} {Q : State → Prop} {dC : Nat → ClassId} {dI : Nat → Nat → Nat} {cI cJ cH : ClassId} {a_p a_bases_p a_tops_p a_words_p a_roots_p a_order_p a_numbers_p a_image_p a_other_p a_input_p a_fresh_p a_freshRoots_p a_heads_p a_kept_p : Nat} {a_thrown : Int32} {a_bases : (Nat → Int32)} {a_tops : (Nat → Int32)} {a_words : (Nat → Int32)} {a_reached : Int32} {a_order : (Nat → Int32)} {a_numbers : (Nat → Int32)} {a_size : Int32} {a_image : (Nat → Int32)} {a_otherSize : Int32} {a_other : (Nat → Int32)} {a_waiting : Int32} {a_input : (Nat → Int32)} {a_at : Int32} {a_ended : Int32} {a_told : Int32} {a_many : Int32} {a_fresh : (Nat → Int32)} {a_freshRoots : (Nat → Int32)} {a_heads : (Nat → Int32)} {a_count : Int64} {a_kept : (Nat → Int32)} {y1 : Int32} {y2 : Int32} (F : gF p m c cX4_restore 7 s args wsX4_restore yX4_restore.cls (dC, dI) vwCl (gT cI cJ cH) A) (hN : ∀ w ∈ gN, va_Nw w s) : ∀ (n : Nat) (z4 : Int32) (a_roots : (Nat → Int32)) (o : (Nat → Int32)), f_X4_restore_L222 a_freshRoots a_heads y1 y2 n z4 a_roots = some o → (gW p l e rm_X4_restore s m args below meth c 0 0 Q (dC, dI) vwCl A 7 (wMd cI a_p a_bases_p a_tops_p a_words_p a_roots_p a_order_p a_numbers_p a_image_p a_other_p a_input_p a_fresh_p a_freshRoots_p a_heads_p a_kept_p a_thrown a_bases a_tops a_words o a_reached a_order a_numbers a_size a_image a_otherSize a_other a_waiting a_input a_at a_ended a_told a_many a_fresh a_freshRoots a_heads a_count a_kept) [(0, .ref a_p)] 257 []) → gW p l e rm_X4_restore s m args below meth c 0 0 Q (dC, dI) vwCl A 7 (wMd cI a_p a_bases_p a_tops_p a_words_p a_roots_p a_order_p a_numbers_p a_image_p a_other_p a_input_p a_fresh_p a_freshRoots_p a_heads_p a_kept_p a_thrown a_bases a_tops a_words a_roots a_reached a_order a_numbers a_size a_image a_otherSize a_other a_waiting a_input a_at a_ended a_told a_many a_fresh a_freshRoots a_heads a_count a_kept) [(0, .ref a_p), (1, .int y1), (2, .int y2), (4, .int z4)] 222 [] := by
  intro n
  induction n with
  | zero =>
    intro z4 a_roots o hf E0
    change none = some o at hf
    cases hf
  | succ n ih =>
    intro z4 a_roots o hf E0
    change f_X4_restore_L222_s a_freshRoots a_heads y1 y2 (f_X4_restore_L222 a_freshRoots a_heads y1 y2 n) z4 a_roots = some o at hf
    unfold f_X4_restore_L222_s at hf
    refine g_iload F dX4_restore_222 3 rfl ?_
    refine g_iconst (v := 4) F dX4_restore_224 rfl ?_
    refine g_icmp_ge (tgt := 257) F dX4_restore_225 (by decide) (fun c225 => ?_) (fun c225 => ?_)
    · have hf := iteT hf c225
      cases hf
      refine g_lv [0] rfl ?_
      exact E0
    · have hf := iteF hf c225
      refine g_aload_n F dX4_restore_228 rfl 0 rfl ?_
      refine g_get F h_X4_restore_4 0 rfl rfl 4 (by decide) (by decide +kernel) rfl dX4_restore_229 ?_
      refine g_iconst (v := 4) F dX4_restore_232 rfl ?_
      refine g_iload_n F dX4_restore_233 rfl 1 rfl ?_
      refine g_imul F dX4_restore_234 ?_
      refine g_iload F dX4_restore_235 3 rfl ?_
      refine g_iadd F dX4_restore_237 ?_
      refine g_aload_n F dX4_restore_238 rfl 0 rfl ?_
      refine g_aload_n F dX4_restore_239 rfl 0 rfl ?_
      refine g_get F h_X4_restore_4 0 rfl rfl 19 (by decide) (by decide +kernel) rfl dX4_restore_240 ?_
      refine g_iload F dX4_restore_243 3 rfl ?_
      obtain ⟨h21, hf⟩ := ckE hf
      refine g_iald F 11 0 rfl rfl h21 dX4_restore_245 ?_
      refine g_iload_n F dX4_restore_246 rfl 2 rfl ?_
      obtain ⟨o22, ho22, hf⟩ := bnE hf
      refine g_callPi (n := 2) (As := [.int (a_freshRoots z4.toNatClampNeg), .int y2]) F (c_X4_placed l dC dI cI cJ cH a_p a_bases_p a_tops_p a_words_p a_roots_p a_order_p a_numbers_p a_image_p a_other_p a_input_p a_fresh_p a_freshRoots_p a_heads_p a_kept_p a_thrown a_bases a_tops a_words a_roots a_reached a_order a_numbers a_size a_image a_otherSize a_other a_waiting a_input a_at a_ended a_told a_many a_fresh a_freshRoots a_heads a_count a_kept (a_freshRoots z4.toNatClampNeg) y2 o22 ho22) ggX4_restore_X4_placed rfl rfl rfl (by decide +kernel) (by decide +kernel) (by decide +kernel) (by decide +kernel) (by decide +kernel) ⟨Nat.le_of_ble_eq_true rfl, Nat.le_of_ble_eq_true rfl⟩ ⟨Nat.le_of_ble_eq_true rfl, Nat.le_of_ble_eq_true rfl⟩ hN 0 rfl rfl rfl ([]) ([]) rfl (fun _ => rfl) rfl (Nat.le_of_ble_eq_true rfl) rfl dX4_restore_247 (cells' := 0) (slots' := 0) rfl rfl (fun r u hp => ?_)
      subst hp
      refine g_ws (ws' := wMd cI a_p a_bases_p a_tops_p a_words_p a_roots_p a_order_p a_numbers_p a_image_p a_other_p a_input_p a_fresh_p a_freshRoots_p a_heads_p a_kept_p a_thrown a_bases a_tops a_words a_roots a_reached a_order a_numbers a_size a_image a_otherSize a_other a_waiting a_input a_at a_ended a_told a_many a_fresh a_freshRoots a_heads a_count a_kept) rfl ?_
      obtain ⟨h23, hf⟩ := ckE hf
      refine g_iast F 4 0 rfl rfl h23 dX4_restore_250 (ws' := wMd cI a_p a_bases_p a_tops_p a_words_p a_roots_p a_order_p a_numbers_p a_image_p a_other_p a_input_p a_fresh_p a_freshRoots_p a_heads_p a_kept_p a_thrown a_bases a_tops a_words (upd a_roots (((4 : Int32) * y1) + z4).toNatClampNeg o22) a_reached a_order a_numbers a_size a_image a_otherSize a_other a_waiting a_input a_at a_ended a_told a_many a_fresh a_freshRoots a_heads a_count a_kept) rfl ?_
      obtain ⟨v24, ev24, hf⟩ := nmE hf
      refine g_iinc (j := 3) (lv' := [(4, .int v24), (0, .ref a_p), (1, .int y1), (2, .int y2)]) F dX4_restore_251 rfl ev24.symm (by decide) rfl ?_
      refine g_goto (tgt := 222) F dX4_restore_254 (by decide) ?_
      refine g_lv [1, 2, 3, 0] rfl ?_
      exact ih _ _ o hf E0
def f_X4_restore (a_thrown : Int32) (a_bases : (Nat → Int32)) (a_tops : (Nat → Int32)) (a_words : (Nat → Int32)) (a_roots : (Nat → Int32)) (a_waiting : Int32) (a_input : (Nat → Int32)) (a_at : Int32) (a_ended : Int32) (a_told : Int32) (a_many : Int32) (a_fresh : (Nat → Int32)) (a_freshRoots : (Nat → Int32)) (a_heads : (Nat → Int32)) (a_count : Int64) (x1 : Int32) (x2 : Int32) : Option (Int32 × Int32 × (Nat → Int32) × (Nat → Int32) × (Nat → Int32) × (Nat → Int32) × Int32 × Int32 × Int32 × Int32 × Int32 × (Nat → Int32) × (Nat → Int32) × (Nat → Int32) × Int64) :=
  Option.bind (f_X4_isHeap x1) fun o1 => Option.bind (α := Int32) (if o1 = 0 then some (1 : Int32) else Option.bind (f_X4_isBase x2) fun o26 => if o26 = 0 then some (2 : Int32) else some (0 : Int32)) fun j2 => if j2 ≤ 0 then Option.bind (f_X4_readAll a_waiting a_input a_at a_ended a_told a_many a_fresh a_freshRoots a_heads a_count) fun o3 => if o3.2.1 < 0 then ck (inR x1 2) (ck (inR x1 2) (Option.bind (f_X4_restore_L81 o3.1 o3.2.2.2.2.1 x1 x2 (0 : Int32) FU (0 : Int32) a_words) fun o11 => Option.bind (f_X4_restore_L128 o3.1 o3.2.2.2.2.2.2.1 x1 x2 FU (0 : Int32) o11) fun o20 => Option.bind (f_X4_restore_L222 o3.2.2.2.2.2.1 o3.2.2.2.2.2.2.1 x1 x2 FU (0 : Int32) a_roots) fun o25 => some (o3.2.2.2.1, j2, upd a_bases x1.toNatClampNeg x2, upd a_tops x1.toNatClampNeg o3.1, o20, o25, (0 : Int32), o3.1, o3.2.1, o3.2.2.1, o3.2.2.2.1, o3.2.2.2.2.1, o3.2.2.2.2.2.1, o3.2.2.2.2.2.2.1, o3.2.2.2.2.2.2.2))) else some ((-1 : Int32) - o3.2.1, j2, a_bases, a_tops, a_words, a_roots, (0 : Int32), o3.1, o3.2.1, o3.2.2.1, o3.2.2.2.1, o3.2.2.2.2.1, o3.2.2.2.2.2.1, o3.2.2.2.2.2.2.1, o3.2.2.2.2.2.2.2) else some ((0 : Int32), j2, a_bases, a_tops, a_words, a_roots, a_waiting, a_at, a_ended, a_told, a_many, a_fresh, a_freshRoots, a_heads, a_count)
set_option maxHeartbeats 4000000 in
set_option maxRecDepth 100000 in
theorem c_X4_restore (l : Launch) (dC : Nat → ClassId) (dI : Nat → Nat → Nat) (cI cJ cH : ClassId) (a_p a_bases_p a_tops_p a_words_p a_roots_p a_order_p a_numbers_p a_image_p a_other_p a_input_p a_fresh_p a_freshRoots_p a_heads_p a_kept_p : Nat)  (a_thrown : Int32) (a_bases : (Nat → Int32)) (a_tops : (Nat → Int32)) (a_words : (Nat → Int32)) (a_roots : (Nat → Int32)) (a_reached : Int32) (a_order : (Nat → Int32)) (a_numbers : (Nat → Int32)) (a_size : Int32) (a_image : (Nat → Int32)) (a_otherSize : Int32) (a_other : (Nat → Int32)) (a_waiting : Int32) (a_input : (Nat → Int32)) (a_at : Int32) (a_ended : Int32) (a_told : Int32) (a_many : Int32) (a_fresh : (Nat → Int32)) (a_freshRoots : (Nat → Int32)) (a_heads : (Nat → Int32)) (a_count : Int64) (a_kept : (Nat → Int32)) (x1 : Int32) (x2 : Int32) (o : (Int32 × Int32 × (Nat → Int32) × (Nat → Int32) × (Nat → Int32) × (Nat → Int32) × Int32 × Int32 × Int32 × Int32 × Int32 × (Nat → Int32) × (Nat → Int32) × (Nat → Int32) × Int64)) (hf : f_X4_restore a_thrown a_bases a_tops a_words a_roots a_waiting a_input a_at a_ended a_told a_many a_fresh a_freshRoots a_heads a_count x1 x2 = some o) : ∀ sz : Nat, Met l yX4_restore wsX4_restore rm_X4_restore (gPre [.ref a_p, .int x1, .int x2] (dC, dI) vwCl (gT cI cJ cH) (wMd cI a_p a_bases_p a_tops_p a_words_p a_roots_p a_order_p a_numbers_p a_image_p a_other_p a_input_p a_fresh_p a_freshRoots_p a_heads_p a_kept_p a_thrown a_bases a_tops a_words a_roots a_reached a_order a_numbers a_size a_image a_otherSize a_other a_waiting a_input a_at a_ended a_told a_many a_fresh a_freshRoots a_heads a_count a_kept) sz) (va_Qi (fun (r : Int32) (u : (Int32 × (Nat → Int32) × (Nat → Int32) × (Nat → Int32) × (Nat → Int32) × Int32 × Int32 × Int32 × Int32 × Int32 × (Nat → Int32) × (Nat → Int32) × (Nat → Int32) × Int64)) => o.1 = r ∧ o.2 = u) (gB (dC, dI) vwCl (gT cI cJ cH) (fun (u : (Int32 × (Nat → Int32) × (Nat → Int32) × (Nat → Int32) × (Nat → Int32) × Int32 × Int32 × Int32 × Int32 × Int32 × (Nat → Int32) × (Nat → Int32) × (Nat → Int32) × Int64)) => wMd cI a_p a_bases_p a_tops_p a_words_p a_roots_p a_order_p a_numbers_p a_image_p a_other_p a_input_p a_fresh_p a_freshRoots_p a_heads_p a_kept_p u.1 u.2.1 u.2.2.1 u.2.2.2.1 u.2.2.2.2.1 a_reached a_order a_numbers a_size a_image a_otherSize a_other u.2.2.2.2.2.1 a_input u.2.2.2.2.2.2.1 u.2.2.2.2.2.2.2.1 u.2.2.2.2.2.2.2.2.1 u.2.2.2.2.2.2.2.2.2.1 u.2.2.2.2.2.2.2.2.2.2.1 u.2.2.2.2.2.2.2.2.2.2.2.1 u.2.2.2.2.2.2.2.2.2.2.2.2.1 u.2.2.2.2.2.2.2.2.2.2.2.2.2 a_kept) (va_A (wMd cI a_p a_bases_p a_tops_p a_words_p a_roots_p a_order_p a_numbers_p a_image_p a_other_p a_input_p a_fresh_p a_freshRoots_p a_heads_p a_kept_p a_thrown a_bases a_tops a_words a_roots a_reached a_order a_numbers a_size a_image a_otherSize a_other a_waiting a_input a_at a_ended a_told a_many a_fresh a_freshRoots a_heads a_count a_kept) sz)) (va_A (wMd cI a_p a_bases_p a_tops_p a_words_p a_roots_p a_order_p a_numbers_p a_image_p a_other_p a_input_p a_fresh_p a_freshRoots_p a_heads_p a_kept_p a_thrown a_bases a_tops a_words a_roots a_reached a_order a_numbers a_size a_image a_otherSize a_other a_waiting a_input a_at a_ended a_told a_many a_fresh a_freshRoots a_heads a_count a_kept) sz)) 0 0 (va_A (wMd cI a_p a_bases_p a_tops_p a_words_p a_roots_p a_order_p a_numbers_p a_image_p a_other_p a_input_p a_fresh_p a_freshRoots_p a_heads_p a_kept_p a_thrown a_bases a_tops a_words a_roots a_reached a_order a_numbers a_size a_image a_otherSize a_other a_waiting a_input a_at a_ended a_told a_many a_fresh a_freshRoots a_heads a_count a_kept) sz) := by
  refine g_met (fun A => va_Qi (fun (r : Int32) (u : (Int32 × (Nat → Int32) × (Nat → Int32) × (Nat → Int32) × (Nat → Int32) × Int32 × Int32 × Int32 × Int32 × Int32 × (Nat → Int32) × (Nat → Int32) × (Nat → Int32) × Int64)) => o.1 = r ∧ o.2 = u) (gB (dC, dI) vwCl (gT cI cJ cH) (fun (u : (Int32 × (Nat → Int32) × (Nat → Int32) × (Nat → Int32) × (Nat → Int32) × Int32 × Int32 × Int32 × Int32 × Int32 × (Nat → Int32) × (Nat → Int32) × (Nat → Int32) × Int64)) => wMd cI a_p a_bases_p a_tops_p a_words_p a_roots_p a_order_p a_numbers_p a_image_p a_other_p a_input_p a_fresh_p a_freshRoots_p a_heads_p a_kept_p u.1 u.2.1 u.2.2.1 u.2.2.2.1 u.2.2.2.2.1 a_reached a_order a_numbers a_size a_image a_otherSize a_other u.2.2.2.2.2.1 a_input u.2.2.2.2.2.2.1 u.2.2.2.2.2.2.2.1 u.2.2.2.2.2.2.2.2.1 u.2.2.2.2.2.2.2.2.2.1 u.2.2.2.2.2.2.2.2.2.2.1 u.2.2.2.2.2.2.2.2.2.2.2.1 u.2.2.2.2.2.2.2.2.2.2.2.2.1 u.2.2.2.2.2.2.2.2.2.2.2.2.2 a_kept) A) A) (by decide) rfl (Nat.le_of_ble_eq_true rfl) ?_
  intro p e s m args below meth c A Q F hlocks hr hname hN hQ
  unfold f_X4_restore at hf
  refine g_lvE (lv' := [(0, .ref a_p), (1, .int x1), (2, .int x2)]) rfl ?_
  refine g_aload_n F dX4_restore_0 rfl 0 rfl ?_
  refine g_iload_n F dX4_restore_1 rfl 1 rfl ?_
  obtain ⟨o1, ho1, hf⟩ := bnE hf
  refine g_callSi (n := 1) (As := [.int x1]) F (c_X4_isHeap l dC dI cI cJ cH x1 o1 ho1) ggX4_restore_X4_isHeap rfl rfl rfl (by decide +kernel) (by decide +kernel) (by decide +kernel) (by decide +kernel) ⟨Nat.le_of_ble_eq_true rfl, Nat.le_of_ble_eq_true rfl⟩ ⟨Nat.le_of_ble_eq_true rfl, Nat.le_of_ble_eq_true rfl⟩ hN [] rfl rfl (fun _ => rfl) rfl (Nat.le_of_ble_eq_true rfl) rfl dX4_restore_2 (cells' := 0) (slots' := 0) rfl rfl (fun r u hp => ?_)
  subst hp
  refine g_ws (ws' := wMd cI a_p a_bases_p a_tops_p a_words_p a_roots_p a_order_p a_numbers_p a_image_p a_other_p a_input_p a_fresh_p a_freshRoots_p a_heads_p a_kept_p a_thrown a_bases a_tops a_words a_roots a_reached a_order a_numbers a_size a_image a_otherSize a_other a_waiting a_input a_at a_ended a_told a_many a_fresh a_freshRoots a_heads a_count a_kept) rfl ?_
  obtain ⟨j2, hj2, hf⟩ := bnE hf
  have Kj2 : gW p l e rm_X4_restore s m args below meth c 0 0 Q (dC, dI) vwCl A 7 (wMd cI a_p a_bases_p a_tops_p a_words_p a_roots_p a_order_p a_numbers_p a_image_p a_other_p a_input_p a_fresh_p a_freshRoots_p a_heads_p a_kept_p a_thrown a_bases a_tops a_words a_roots a_reached a_order a_numbers a_size a_image a_otherSize a_other a_waiting a_input a_at a_ended a_told a_many a_fresh a_freshRoots a_heads a_count a_kept) [(0, .ref a_p), (1, .int x1), (2, .int x2)] 24 [.int j2, .ref a_p] := by
    refine g_put F h_X4_restore_4 tyX4 tyX4_ok nmX4 0 rfl rfl 0 (by decide) (by decide +kernel) rfl rfl rfl (Nat.le_of_ble_eq_true rfl) dX4_restore_24 (ws' := wMd cI a_p a_bases_p a_tops_p a_words_p a_roots_p a_order_p a_numbers_p a_image_p a_other_p a_input_p a_fresh_p a_freshRoots_p a_heads_p a_kept_p j2 a_bases a_tops a_words a_roots a_reached a_order a_numbers a_size a_image a_otherSize a_other a_waiting a_input a_at a_ended a_told a_many a_fresh a_freshRoots a_heads a_count a_kept) rfl ?_
    refine g_aload_n F dX4_restore_27 rfl 0 rfl ?_
    refine g_get F h_X4_restore_4 0 rfl rfl 0 (by decide) (by decide +kernel) rfl dX4_restore_28 ?_
    refine g_if_le (tgt := 36) F dX4_restore_31 (by decide) (fun c31 => ?_) (fun c31 => ?_)
    · have hf := iteT hf c31
      refine g_aload_n F dX4_restore_36 rfl 0 rfl ?_
      obtain ⟨o3, ho3, hf⟩ := bnE hf
      refine g_callPv (n := 0) (As := []) F (c_X4_readAll l dC dI cI cJ cH a_p a_bases_p a_tops_p a_words_p a_roots_p a_order_p a_numbers_p a_image_p a_other_p a_input_p a_fresh_p a_freshRoots_p a_heads_p a_kept_p j2 a_bases a_tops a_words a_roots a_reached a_order a_numbers a_size a_image a_otherSize a_other a_waiting a_input a_at a_ended a_told a_many a_fresh a_freshRoots a_heads a_count a_kept o3 ho3) ggX4_restore_X4_readAll rfl rfl rfl (by decide +kernel) (by decide +kernel) (by decide +kernel) (by decide +kernel) (by decide +kernel) ⟨Nat.le_of_ble_eq_true rfl, Nat.le_of_ble_eq_true rfl⟩ ⟨Nat.le_of_ble_eq_true rfl, Nat.le_of_ble_eq_true rfl⟩ hN 0 rfl rfl rfl ([]) ([]) rfl (fun _ => rfl) rfl (Nat.le_of_ble_eq_true rfl) rfl dX4_restore_37 (cells' := 0) (slots' := 0) rfl rfl (fun u hp => ?_)
      subst hp
      refine g_ws (ws' := wMd cI a_p a_bases_p a_tops_p a_words_p a_roots_p a_order_p a_numbers_p a_image_p a_other_p a_input_p a_fresh_p a_freshRoots_p a_heads_p a_kept_p j2 a_bases a_tops a_words a_roots a_reached a_order a_numbers a_size a_image a_otherSize a_other a_waiting a_input o3.1 o3.2.1 o3.2.2.1 o3.2.2.2.1 o3.2.2.2.2.1 o3.2.2.2.2.2.1 o3.2.2.2.2.2.2.1 o3.2.2.2.2.2.2.2 a_kept) rfl ?_
      refine g_aload_n F dX4_restore_40 rfl 0 rfl ?_
      refine g_iconst (v := 0) F dX4_restore_41 rfl ?_
      refine g_put F h_X4_restore_4 tyX4 tyX4_ok nmX4 0 rfl rfl 12 (by decide) (by decide +kernel) rfl rfl rfl (Nat.le_of_ble_eq_true rfl) dX4_restore_42 (ws' := wMd cI a_p a_bases_p a_tops_p a_words_p a_roots_p a_order_p a_numbers_p a_image_p a_other_p a_input_p a_fresh_p a_freshRoots_p a_heads_p a_kept_p j2 a_bases a_tops a_words a_roots a_reached a_order a_numbers a_size a_image a_otherSize a_other (0 : Int32) a_input o3.1 o3.2.1 o3.2.2.1 o3.2.2.2.1 o3.2.2.2.2.1 o3.2.2.2.2.2.1 o3.2.2.2.2.2.2.1 o3.2.2.2.2.2.2.2 a_kept) rfl ?_
      refine g_aload_n F dX4_restore_45 rfl 0 rfl ?_
      refine g_get F h_X4_restore_4 0 rfl rfl 15 (by decide) (by decide +kernel) rfl dX4_restore_46 ?_
      refine g_if_lt (tgt := 59) F dX4_restore_49 (by decide) (fun c49 => ?_) (fun c49 => ?_)
      · have hf := iteT hf c49
        refine g_aload_n F dX4_restore_59 rfl 0 rfl ?_
        refine g_get F h_X4_restore_4 0 rfl rfl 2 (by decide) (by decide +kernel) rfl dX4_restore_60 ?_
        refine g_iload_n F dX4_restore_63 rfl 1 rfl ?_
        refine g_aload_n F dX4_restore_64 rfl 0 rfl ?_
        refine g_get F h_X4_restore_4 0 rfl rfl 14 (by decide) (by decide +kernel) rfl dX4_restore_65 ?_
        obtain ⟨h4, hf⟩ := ckE hf
        refine g_iast F 2 0 rfl rfl h4 dX4_restore_68 (ws' := wMd cI a_p a_bases_p a_tops_p a_words_p a_roots_p a_order_p a_numbers_p a_image_p a_other_p a_input_p a_fresh_p a_freshRoots_p a_heads_p a_kept_p j2 a_bases (upd a_tops x1.toNatClampNeg o3.1) a_words a_roots a_reached a_order a_numbers a_size a_image a_otherSize a_other (0 : Int32) a_input o3.1 o3.2.1 o3.2.2.1 o3.2.2.2.1 o3.2.2.2.2.1 o3.2.2.2.2.2.1 o3.2.2.2.2.2.2.1 o3.2.2.2.2.2.2.2 a_kept) rfl ?_
        refine g_aload_n F dX4_restore_69 rfl 0 rfl ?_
        refine g_get F h_X4_restore_4 0 rfl rfl 1 (by decide) (by decide +kernel) rfl dX4_restore_70 ?_
        refine g_iload_n F dX4_restore_73 rfl 1 rfl ?_
        refine g_iload_n F dX4_restore_74 rfl 2 rfl ?_
        obtain ⟨h5, hf⟩ := ckE hf
        refine g_iast F 1 0 rfl rfl h5 dX4_restore_75 (ws' := wMd cI a_p a_bases_p a_tops_p a_words_p a_roots_p a_order_p a_numbers_p a_image_p a_other_p a_input_p a_fresh_p a_freshRoots_p a_heads_p a_kept_p j2 (upd a_bases x1.toNatClampNeg x2) (upd a_tops x1.toNatClampNeg o3.1) a_words a_roots a_reached a_order a_numbers a_size a_image a_otherSize a_other (0 : Int32) a_input o3.1 o3.2.1 o3.2.2.1 o3.2.2.2.1 o3.2.2.2.2.1 o3.2.2.2.2.2.1 o3.2.2.2.2.2.2.1 o3.2.2.2.2.2.2.2 a_kept) rfl ?_
        refine g_iconst (v := 0) F dX4_restore_76 rfl ?_
        refine g_istore_n (lv' := [(3, .int (0 : Int32)), (0, .ref a_p), (1, .int x1), (2, .int x2)]) F dX4_restore_77 rfl (by decide) rfl ?_
        refine g_iconst (v := 0) F dX4_restore_78 rfl ?_
        refine g_istore (lv' := [(4, .int (0 : Int32)), (3, .int (0 : Int32)), (0, .ref a_p), (1, .int x1), (2, .int x2)]) F dX4_restore_79 (by decide) rfl ?_
        obtain ⟨o11, ho11, hf⟩ := bnE hf
        refine g_lv [2, 3, 4, 1, 0] rfl ?_
        refine w_X4_restore_L81 F hN FU _ _ o11 ho11 ?_
        obtain ⟨o20, ho20, hf⟩ := bnE hf
        refine g_lv [0, 1, 2, 3] rfl ?_
        refine w_X4_restore_L128 F hN FU _ _ o20 ho20 ?_
        refine g_iconst (v := 0) F dX4_restore_219 rfl ?_
        refine g_istore (lv' := [(4, .int (0 : Int32)), (0, .ref a_p), (1, .int x1), (2, .int x2)]) F dX4_restore_220 (by decide) rfl ?_
        obtain ⟨o25, ho25, hf⟩ := bnE hf
        refine g_lv [1, 2, 3, 0] rfl ?_
        refine w_X4_restore_L222 F hN FU _ _ o25 ho25 ?_
        refine g_aload_n F dX4_restore_257 rfl 0 rfl ?_
        refine g_get F h_X4_restore_4 0 rfl rfl 17 (by decide) (by decide +kernel) rfl dX4_restore_258 ?_
        subst hQ
        exact g_iret F hlocks hr (j2, upd a_bases x1.toNatClampNeg x2, upd a_tops x1.toNatClampNeg o3.1, o20, o25, (0 : Int32), o3.1, o3.2.1, o3.2.2.1, o3.2.2.2.1, o3.2.2.2.2.1, o3.2.2.2.2.2.1, o3.2.2.2.2.2.2.1, o3.2.2.2.2.2.2.2) rfl (pr2 (Option.some.inj hf)) dX4_restore_261
      · have hf := iteF hf c49
        refine g_iconst (v := -1) F dX4_restore_52 rfl ?_
        refine g_aload_n F dX4_restore_53 rfl 0 rfl ?_
        refine g_get F h_X4_restore_4 0 rfl rfl 15 (by decide) (by decide +kernel) rfl dX4_restore_54 ?_
        refine g_isub F dX4_restore_57 ?_
        subst hQ
        exact g_iret F hlocks hr (j2, a_bases, a_tops, a_words, a_roots, (0 : Int32), o3.1, o3.2.1, o3.2.2.1, o3.2.2.2.1, o3.2.2.2.2.1, o3.2.2.2.2.2.1, o3.2.2.2.2.2.2.1, o3.2.2.2.2.2.2.2) rfl (pr2 (Option.some.inj hf)) dX4_restore_58
    · have hf := iteF hf c31
      refine g_iconst (v := 0) F dX4_restore_34 rfl ?_
      subst hQ
      exact g_iret F hlocks hr (j2, a_bases, a_tops, a_words, a_roots, a_waiting, a_at, a_ended, a_told, a_many, a_fresh, a_freshRoots, a_heads, a_count) rfl (pr2 (Option.some.inj hf)) dX4_restore_35
  clear hf
  have hf := hj2
  refine g_if_ne (tgt := 12) F dX4_restore_5 (by decide) (fun c5 => ?_) (fun c5 => ?_)
  · have hf := iteF hf c5
    refine g_iload_n F dX4_restore_12 rfl 2 rfl ?_
    obtain ⟨o26, ho26, hf⟩ := bnE hf
    refine g_callSi (n := 1) (As := [.int x2]) F (c_X4_isBase l dC dI cI cJ cH x2 o26 ho26) ggX4_restore_X4_isBase rfl rfl rfl (by decide +kernel) (by decide +kernel) (by decide +kernel) (by decide +kernel) ⟨Nat.le_of_ble_eq_true rfl, Nat.le_of_ble_eq_true rfl⟩ ⟨Nat.le_of_ble_eq_true rfl, Nat.le_of_ble_eq_true rfl⟩ hN [] rfl rfl (fun _ => rfl) rfl (Nat.le_of_ble_eq_true rfl) rfl dX4_restore_13 (cells' := 0) (slots' := 0) rfl rfl (fun r u hp => ?_)
    subst hp
    refine g_ws (ws' := wMd cI a_p a_bases_p a_tops_p a_words_p a_roots_p a_order_p a_numbers_p a_image_p a_other_p a_input_p a_fresh_p a_freshRoots_p a_heads_p a_kept_p a_thrown a_bases a_tops a_words a_roots a_reached a_order a_numbers a_size a_image a_otherSize a_other a_waiting a_input a_at a_ended a_told a_many a_fresh a_freshRoots a_heads a_count a_kept) rfl ?_
    refine g_if_ne (tgt := 23) F dX4_restore_16 (by decide) (fun c16 => ?_) (fun c16 => ?_)
    · have hf := iteF hf c16
      refine g_iconst (v := 0) F dX4_restore_23 rfl ?_
      cases hf
      refine g_lv [0, 1, 2] rfl ?_
      exact Kj2
    · have hf := iteT hf c16
      refine g_iconst (v := 2) F dX4_restore_19 rfl ?_
      refine g_goto (tgt := 24) F dX4_restore_20 (by decide) ?_
      cases hf
      refine g_lv [0, 1, 2] rfl ?_
      exact Kj2
  · have hf := iteT hf c5
    refine g_iconst (v := 1) F dX4_restore_8 rfl ?_
    refine g_goto (tgt := 24) F dX4_restore_9 (by decide) ?_
    cases hf
    refine g_lv [0, 1, 2] rfl ?_
    exact Kj2
