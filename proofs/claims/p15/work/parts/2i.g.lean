/-! HeapImages$Reader.readSlots(LHeapImages$Heap;I)V -/
def rm_X2_readSlots : Room := { frames := 4, cells := 0, slots := 0, locals := 94 }
theorem h_X2_readSlots_1 : ∀ w ∈ wsX10, w ∈ wsX2_readSlots := by decide +kernel
def f_X2_readSlots_L24_s (a_objects : Int32) (ai_row : (Nat → Int32)) (ai_size : Int32) (y2 : Int32) (y3 : Int32) (y4 : Int32) (rc : Int32 → Int32 → Int32 → Int32 → (Nat → Int32) → Option (Int32 × Int32 × Int32 × (Nat → Int32))) (z5 : Int32) (a_place : Int32) (a_end : Int32) (a_toldObjects : Int32) (b_words : (Nat → Int32)) : Option (Int32 × Int32 × Int32 × (Nat → Int32)) :=
  if y4 ≤ z5 then some (a_place, a_end, a_toldObjects, b_words) else Option.bind (f_X2_goesOn a_end) fun o5 => if o5 = 0 then some (a_place, a_end, a_toldObjects, b_words) else nm ((y2 + (1 : Int32)) + z5) fun v6 => if y3 = (2 : Int32) then Option.bind (f_X2_nextWord a_place a_end ai_row ai_size) fun o12 => ck (inR v6 256) (nm (z5 + (1 : Int32)) fun v14 => rc v14 o12.2.1 o12.2.2 a_toldObjects (upd b_words v6.toNatClampNeg o12.1)) else Option.bind (α := Int32) (if y3 = (3 : Int32) then if z5 = 0 then some (1 : Int32) else some (0 : Int32) else some (1 : Int32)) fun j7 => Option.bind (α := Int32) (if y3 = (3 : Int32) then if z5 = (1 : Int32) then some (1 : Int32) else some (0 : Int32) else some (1 : Int32)) fun j8 => Option.bind (f_X2_nextValue a_place a_end a_objects a_toldObjects ai_row ai_size j7 j8) fun o9 => ck (inR v6 256) (nm (z5 + (1 : Int32)) fun v11 => rc v11 o9.2.1 o9.2.2.1 o9.2.2.2 (upd b_words v6.toNatClampNeg o9.1))
def f_X2_readSlots_L24 (a_objects : Int32) (ai_row : (Nat → Int32)) (ai_size : Int32) (y2 : Int32) (y3 : Int32) (y4 : Int32) : Nat → Int32 → Int32 → Int32 → Int32 → (Nat → Int32) → Option (Int32 × Int32 × Int32 × (Nat → Int32))
  | 0, _, _, _, _, _ => none
  | n + 1, z5, a_place, a_end, a_toldObjects, b_words => f_X2_readSlots_L24_s a_objects ai_row ai_size y2 y3 y4 (f_X2_readSlots_L24 a_objects ai_row ai_size y2 y3 y4 n) z5 a_place a_end a_toldObjects b_words
set_option maxHeartbeats 4000000 in
theorem w_X2_readSlots_L24 {p : Program} {l : Launch} {e : Env} {s : State} {m : MethodId} {args : Array Value} {below : List Frame} {meth : Method} {c : Code} {A : Nat → Prop} {Q : State → Prop} {dC : Nat → ClassId} {dI : Nat → Nat → Nat} {cI cJ cH : ClassId} {a_p ai_p ai_row_p b_p b_words_p b_roots_p b_heads_p b_marks_p b_order_p b_targets_p : Nat} {a_objects : Int32} {ai_row : (Nat → Int32)} {ai_size : Int32} {b_roots : (Nat → Int32)} {b_base : Int32} {b_top : Int32} {b_heads : (Nat → Int32)} {b_objects : Int32} {b_marks : (Nat → Int32)} {b_order : (Nat → Int32)} {b_reached : Int32} {b_targets : (Nat → Int32)} {y2 : Int32} {y3 : Int32} {y4 : Int32} (F : gF p m c cX2_readSlots 9 s args wsX2_readSlots yX2_readSlots.cls (dC, dI) vwCl (gT cI cJ cH) A) (hN : ∀ w ∈ gN, va_Nw w s) : ∀ (n : Nat) (z5 : Int32) (a_place : Int32) (a_end : Int32) (a_toldObjects : Int32) (b_words : (Nat → Int32)) (o : (Int32 × Int32 × Int32 × (Nat → Int32))), f_X2_readSlots_L24 a_objects ai_row ai_size y2 y3 y4 n z5 a_place a_end a_toldObjects b_words = some o → (gW p l e rm_X2_readSlots s m args below meth c 0 0 Q (dC, dI) vwCl A 9 (wRd cI a_p ai_p o.1 o.2.1 a_objects o.2.2.1 ++ wBy cI ai_p ai_row_p ai_row ai_size ++ wHp cI b_p b_words_p b_roots_p b_heads_p b_marks_p b_order_p b_targets_p o.2.2.2 b_roots b_base b_top b_heads b_objects b_marks b_order b_reached b_targets) [] 121 []) → gW p l e rm_X2_readSlots s m args below meth c 0 0 Q (dC, dI) vwCl A 9 (wRd cI a_p ai_p a_place a_end a_objects a_toldObjects ++ wBy cI ai_p ai_row_p ai_row ai_size ++ wHp cI b_p b_words_p b_roots_p b_heads_p b_marks_p b_order_p b_targets_p b_words b_roots b_base b_top b_heads b_objects b_marks b_order b_reached b_targets) [(0, .ref a_p), (1, .ref b_p), (2, .int y2), (3, .int y3), (4, .int y4), (5, .int z5)] 24 [] := by
  intro n
  induction n with
  | zero =>
    intro z5 a_place a_end a_toldObjects b_words o hf E0
    change none = some o at hf
    cases hf
  | succ n ih =>
    intro z5 a_place a_end a_toldObjects b_words o hf E0
    change f_X2_readSlots_L24_s a_objects ai_row ai_size y2 y3 y4 (f_X2_readSlots_L24 a_objects ai_row ai_size y2 y3 y4 n) z5 a_place a_end a_toldObjects b_words = some o at hf
    unfold f_X2_readSlots_L24_s at hf
    refine g_iload F dX2_readSlots_24 5 rfl ?_
    refine g_iload F dX2_readSlots_26 4 rfl ?_
    refine g_icmp_ge (tgt := 121) F dX2_readSlots_28 (by decide) (fun c28 => ?_) (fun c28 => ?_)
    · have hf := iteT hf c28
      cases hf
      refine g_lv [] rfl ?_
      exact E0
    · have hf := iteF hf c28
      refine g_aload_n F dX2_readSlots_31 rfl 0 rfl ?_
      obtain ⟨o5, ho5, hf⟩ := bnE hf
      refine g_callPi (n := 0) (As := []) F (c_X2_goesOn l dC dI cI cJ cH a_p ai_p ai_row_p a_place a_end a_objects a_toldObjects ai_row ai_size o5 ho5) ggX2_readSlots_X2_goesOn rfl rfl rfl (by decide +kernel) (by decide +kernel) (by decide +kernel) (by decide +kernel) (by decide +kernel) ⟨Nat.le_of_ble_eq_true rfl, Nat.le_of_ble_eq_true rfl⟩ ⟨Nat.le_of_ble_eq_true rfl, Nat.le_of_ble_eq_true rfl⟩ hN 0 rfl rfl rfl ([]) (wHp cI b_p b_words_p b_roots_p b_heads_p b_marks_p b_order_p b_targets_p b_words b_roots b_base b_top b_heads b_objects b_marks b_order b_reached b_targets) rfl (fun _ => rfl) rfl (Nat.le_of_ble_eq_true rfl) rfl dX2_readSlots_32 (cells' := 0) (slots' := 0) rfl rfl (fun r u hp => ?_)
      subst hp
      refine g_ws (ws' := wRd cI a_p ai_p a_place a_end a_objects a_toldObjects ++ wBy cI ai_p ai_row_p ai_row ai_size ++ wHp cI b_p b_words_p b_roots_p b_heads_p b_marks_p b_order_p b_targets_p b_words b_roots b_base b_top b_heads b_objects b_marks b_order b_reached b_targets) rfl ?_
      refine g_if_eq (tgt := 121) F dX2_readSlots_35 (by decide) (fun c35 => ?_) (fun c35 => ?_)
      · have hf := iteT hf c35
        cases hf
        refine g_lv [] rfl ?_
        exact E0
      · have hf := iteF hf c35
        refine g_iload_n F dX2_readSlots_38 rfl 2 rfl ?_
        refine g_iconst (v := 1) F dX2_readSlots_39 rfl ?_
        refine g_iadd F dX2_readSlots_40 ?_
        refine g_iload F dX2_readSlots_41 5 rfl ?_
        refine g_iadd F dX2_readSlots_43 ?_
        obtain ⟨v6, ev6, hf⟩ := nmE hf
        refine g_nmi ev6 ?_
        refine g_istore (lv' := [(6, .int v6), (0, .ref a_p), (1, .ref b_p), (2, .int y2), (3, .int y3), (4, .int y4), (5, .int z5)]) F dX2_readSlots_44 (by decide) rfl ?_
        refine g_iload_n F dX2_readSlots_46 rfl 4 rfl ?_
        refine g_iconst (v := 2) F dX2_readSlots_47 rfl ?_
        refine g_icmp_ne (tgt := 65) F dX2_readSlots_48 (by decide) (fun c48 => ?_) (fun c48 => ?_)
        · have hf := iteF hf c48
          refine g_iload_n F dX2_readSlots_65 rfl 4 rfl ?_
          refine g_iconst (v := 3) F dX2_readSlots_66 rfl ?_
          obtain ⟨j7, hj7, hf⟩ := bnE hf
          have Kj7 : gW p l e rm_X2_readSlots s m args below meth c 0 0 Q (dC, dI) vwCl A 9 (wRd cI a_p ai_p a_place a_end a_objects a_toldObjects ++ wBy cI ai_p ai_row_p ai_row ai_size ++ wHp cI b_p b_words_p b_roots_p b_heads_p b_marks_p b_order_p b_targets_p b_words b_roots b_base b_top b_heads b_objects b_marks b_order b_reached b_targets) [(0, .ref a_p), (1, .ref b_p), (2, .int y2), (3, .int y3), (4, .int y4), (5, .int z5), (6, .int v6)] 80 [.int j7] := by
            refine g_istore (lv' := [(7, .int j7), (0, .ref a_p), (1, .ref b_p), (2, .int y2), (3, .int y3), (4, .int y4), (5, .int z5), (6, .int v6)]) F dX2_readSlots_80 (by decide) rfl ?_
            refine g_iload_n F dX2_readSlots_82 rfl 4 rfl ?_
            refine g_iconst (v := 3) F dX2_readSlots_83 rfl ?_
            obtain ⟨j8, hj8, hf⟩ := bnE hf
            have Kj8 : gW p l e rm_X2_readSlots s m args below meth c 0 0 Q (dC, dI) vwCl A 9 (wRd cI a_p ai_p a_place a_end a_objects a_toldObjects ++ wBy cI ai_p ai_row_p ai_row ai_size ++ wHp cI b_p b_words_p b_roots_p b_heads_p b_marks_p b_order_p b_targets_p b_words b_roots b_base b_top b_heads b_objects b_marks b_order b_reached b_targets) [(0, .ref a_p), (1, .ref b_p), (2, .int y2), (3, .int y3), (4, .int y4), (5, .int z5), (6, .int v6), (7, .int j7)] 98 [.int j8] := by
              refine g_istore (lv' := [(8, .int j8), (0, .ref a_p), (1, .ref b_p), (2, .int y2), (3, .int y3), (4, .int y4), (5, .int z5), (6, .int v6), (7, .int j7)]) F dX2_readSlots_98 (by decide) rfl ?_
              refine g_aload_n F dX2_readSlots_100 rfl 2 rfl ?_
              refine g_getN (host := "HeapImages") F h_X2_readSlots_1 3 rfl rfl 0 (by decide) (hN _ (by decide +kernel)) rfl dX2_readSlots_101 ?_
              refine g_iload F dX2_readSlots_104 7 rfl ?_
              refine g_aload_n F dX2_readSlots_106 rfl 1 rfl ?_
              refine g_iload F dX2_readSlots_107 8 rfl ?_
              refine g_iload F dX2_readSlots_109 0 rfl ?_
              obtain ⟨o9, ho9, hf⟩ := bnE hf
              refine g_callPi (n := 2) (As := [.int j7, .int j8]) F (c_X2_nextValue l dC dI cI cJ cH a_p ai_p ai_row_p a_place a_end a_objects a_toldObjects ai_row ai_size j7 j8 o9 ho9) ggX2_readSlots_X2_nextValue rfl rfl rfl (by decide +kernel) (by decide +kernel) (by decide +kernel) (by decide +kernel) (by decide +kernel) ⟨Nat.le_of_ble_eq_true rfl, Nat.le_of_ble_eq_true rfl⟩ ⟨Nat.le_of_ble_eq_true rfl, Nat.le_of_ble_eq_true rfl⟩ hN 0 rfl rfl rfl ([]) (wHp cI b_p b_words_p b_roots_p b_heads_p b_marks_p b_order_p b_targets_p b_words b_roots b_base b_top b_heads b_objects b_marks b_order b_reached b_targets) rfl (fun _ => rfl) rfl (Nat.le_of_ble_eq_true rfl) rfl dX2_readSlots_111 (cells' := 0) (slots' := 0) rfl rfl (fun r u hp => ?_)
              obtain ⟨hp1, hp2⟩ := hp
              subst hp1
              subst hp2
              refine g_ws (ws' := wRd cI a_p ai_p o9.2.1 o9.2.2.1 a_objects o9.2.2.2 ++ wBy cI ai_p ai_row_p ai_row ai_size ++ wHp cI b_p b_words_p b_roots_p b_heads_p b_marks_p b_order_p b_targets_p b_words b_roots b_base b_top b_heads b_objects b_marks b_order b_reached b_targets) rfl ?_
              obtain ⟨h10, hf⟩ := ckE hf
              refine g_iast F 4 0 rfl rfl h10 dX2_readSlots_114 (ws' := wRd cI a_p ai_p o9.2.1 o9.2.2.1 a_objects o9.2.2.2 ++ wBy cI ai_p ai_row_p ai_row ai_size ++ wHp cI b_p b_words_p b_roots_p b_heads_p b_marks_p b_order_p b_targets_p (upd b_words v6.toNatClampNeg o9.1) b_roots b_base b_top b_heads b_objects b_marks b_order b_reached b_targets) rfl ?_
              obtain ⟨v11, ev11, hf⟩ := nmE hf
              refine g_iinc (j := 6) (lv' := [(5, .int v11), (8, .int j8), (0, .ref a_p), (1, .ref b_p), (2, .int y2), (3, .int y3), (4, .int y4), (6, .int v6), (7, .int j7)]) F dX2_readSlots_115 rfl ev11.symm (by decide) rfl ?_
              refine g_goto (tgt := 24) F dX2_readSlots_118 (by decide) ?_
              refine g_lv [2, 3, 4, 5, 6, 0] rfl ?_
              exact ih _ _ _ _ _ o hf E0
            clear hf
            have hf := hj8
            refine g_icmp_ne (tgt := 93) F dX2_readSlots_84 (by decide) (fun c84 => ?_) (fun c84 => ?_)
            · have hf := iteF hf c84
              refine g_iconst (v := 1) F dX2_readSlots_93 rfl ?_
              refine g_goto (tgt := 98) F dX2_readSlots_94 (by decide) ?_
              cases hf
              refine g_lv [1, 2, 3, 4, 5, 6, 7, 0] rfl ?_
              exact Kj8
            · have hf := iteT hf c84
              refine g_iload F dX2_readSlots_87 6 rfl ?_
              refine g_iconst (v := 1) F dX2_readSlots_89 rfl ?_
              refine g_icmp_ne (tgt := 97) F dX2_readSlots_90 (by decide) (fun c90 => ?_) (fun c90 => ?_)
              · have hf := iteF hf c90
                refine g_iconst (v := 0) F dX2_readSlots_97 rfl ?_
                cases hf
                refine g_lv [1, 2, 3, 4, 5, 6, 7, 0] rfl ?_
                exact Kj8
              · have hf := iteT hf c90
                refine g_iconst (v := 1) F dX2_readSlots_93 rfl ?_
                refine g_goto (tgt := 98) F dX2_readSlots_94 (by decide) ?_
                cases hf
                refine g_lv [1, 2, 3, 4, 5, 6, 7, 0] rfl ?_
                exact Kj8
          clear hf
          have hf := hj7
          refine g_icmp_ne (tgt := 75) F dX2_readSlots_67 (by decide) (fun c67 => ?_) (fun c67 => ?_)
          · have hf := iteF hf c67
            refine g_iconst (v := 1) F dX2_readSlots_75 rfl ?_
            refine g_goto (tgt := 80) F dX2_readSlots_76 (by decide) ?_
            cases hf
            refine g_lv [1, 2, 3, 4, 5, 6, 0] rfl ?_
            exact Kj7
          · have hf := iteT hf c67
            refine g_iload F dX2_readSlots_70 6 rfl ?_
            refine g_if_ne (tgt := 79) F dX2_readSlots_72 (by decide) (fun c72 => ?_) (fun c72 => ?_)
            · have hf := iteF hf c72
              refine g_iconst (v := 0) F dX2_readSlots_79 rfl ?_
              cases hf
              refine g_lv [1, 2, 3, 4, 5, 6, 0] rfl ?_
              exact Kj7
            · have hf := iteT hf c72
              refine g_iconst (v := 1) F dX2_readSlots_75 rfl ?_
              refine g_goto (tgt := 80) F dX2_readSlots_76 (by decide) ?_
              cases hf
              refine g_lv [1, 2, 3, 4, 5, 6, 0] rfl ?_
              exact Kj7
        · have hf := iteT hf c48
          refine g_aload_n F dX2_readSlots_51 rfl 2 rfl ?_
          refine g_getN (host := "HeapImages") F h_X2_readSlots_1 3 rfl rfl 0 (by decide) (hN _ (by decide +kernel)) rfl dX2_readSlots_52 ?_
          refine g_iload F dX2_readSlots_55 0 rfl ?_
          refine g_aload_n F dX2_readSlots_57 rfl 1 rfl ?_
          obtain ⟨o12, ho12, hf⟩ := bnE hf
          refine g_callPi (n := 0) (As := []) F (c_X2_nextWord l dC dI cI cJ cH a_p ai_p ai_row_p a_place a_end a_objects a_toldObjects ai_row ai_size o12 ho12) ggX2_readSlots_X2_nextWord rfl rfl rfl (by decide +kernel) (by decide +kernel) (by decide +kernel) (by decide +kernel) (by decide +kernel) ⟨Nat.le_of_ble_eq_true rfl, Nat.le_of_ble_eq_true rfl⟩ ⟨Nat.le_of_ble_eq_true rfl, Nat.le_of_ble_eq_true rfl⟩ hN 0 rfl rfl rfl ([]) (wHp cI b_p b_words_p b_roots_p b_heads_p b_marks_p b_order_p b_targets_p b_words b_roots b_base b_top b_heads b_objects b_marks b_order b_reached b_targets) rfl (fun _ => rfl) rfl (Nat.le_of_ble_eq_true rfl) rfl dX2_readSlots_58 (cells' := 0) (slots' := 0) rfl rfl (fun r u hp => ?_)
          obtain ⟨hp1, hp2⟩ := hp
          subst hp1
          subst hp2
          refine g_ws (ws' := wRd cI a_p ai_p o12.2.1 o12.2.2 a_objects a_toldObjects ++ wBy cI ai_p ai_row_p ai_row ai_size ++ wHp cI b_p b_words_p b_roots_p b_heads_p b_marks_p b_order_p b_targets_p b_words b_roots b_base b_top b_heads b_objects b_marks b_order b_reached b_targets) rfl ?_
          obtain ⟨h13, hf⟩ := ckE hf
          refine g_iast F 4 0 rfl rfl h13 dX2_readSlots_61 (ws' := wRd cI a_p ai_p o12.2.1 o12.2.2 a_objects a_toldObjects ++ wBy cI ai_p ai_row_p ai_row ai_size ++ wHp cI b_p b_words_p b_roots_p b_heads_p b_marks_p b_order_p b_targets_p (upd b_words v6.toNatClampNeg o12.1) b_roots b_base b_top b_heads b_objects b_marks b_order b_reached b_targets) rfl ?_
          refine g_goto (tgt := 115) F dX2_readSlots_62 (by decide) ?_
          obtain ⟨v14, ev14, hf⟩ := nmE hf
          refine g_iinc (j := 6) (lv' := [(5, .int v14), (6, .int v6), (0, .ref a_p), (1, .ref b_p), (2, .int y2), (3, .int y3), (4, .int y4)]) F dX2_readSlots_115 rfl ev14.symm (by decide) rfl ?_
          refine g_goto (tgt := 24) F dX2_readSlots_118 (by decide) ?_
          refine g_lv [2, 3, 4, 5, 6, 0] rfl ?_
          exact ih _ _ _ _ _ o hf E0
def f_X2_readSlots (a_place : Int32) (a_end : Int32) (a_objects : Int32) (a_toldObjects : Int32) (ai_row : (Nat → Int32)) (ai_size : Int32) (b_words : (Nat → Int32)) (x2 : Int32) : Option (Int32 × Int32 × Int32 × (Nat → Int32)) :=
  ck (inR x2 256) (Option.bind (f_X3_kindOf (b_words x2.toNatClampNeg)) fun o2 => ck (inR x2 256) (Option.bind (f_X3_slotsOf (b_words x2.toNatClampNeg)) fun o4 => Option.bind (f_X2_readSlots_L24 a_objects ai_row ai_size x2 o2 o4 FU (0 : Int32) a_place a_end a_toldObjects b_words) fun o15 => some (o15.1, o15.2.1, o15.2.2.1, o15.2.2.2)))
set_option maxHeartbeats 4000000 in
set_option maxRecDepth 100000 in
theorem c_X2_readSlots (l : Launch) (dC : Nat → ClassId) (dI : Nat → Nat → Nat) (cI cJ cH : ClassId) (a_p ai_p ai_row_p b_p b_words_p b_roots_p b_heads_p b_marks_p b_order_p b_targets_p : Nat)  (a_place : Int32) (a_end : Int32) (a_objects : Int32) (a_toldObjects : Int32) (ai_row : (Nat → Int32)) (ai_size : Int32) (b_words : (Nat → Int32)) (b_roots : (Nat → Int32)) (b_base : Int32) (b_top : Int32) (b_heads : (Nat → Int32)) (b_objects : Int32) (b_marks : (Nat → Int32)) (b_order : (Nat → Int32)) (b_reached : Int32) (b_targets : (Nat → Int32)) (x2 : Int32) (o : (Int32 × Int32 × Int32 × (Nat → Int32))) (hf : f_X2_readSlots a_place a_end a_objects a_toldObjects ai_row ai_size b_words x2 = some o) : ∀ sz : Nat, Met l yX2_readSlots wsX2_readSlots rm_X2_readSlots (gPre [.ref a_p, .ref b_p, .int x2] (dC, dI) vwCl (gT cI cJ cH) (wRd cI a_p ai_p a_place a_end a_objects a_toldObjects ++ wBy cI ai_p ai_row_p ai_row ai_size ++ wHp cI b_p b_words_p b_roots_p b_heads_p b_marks_p b_order_p b_targets_p b_words b_roots b_base b_top b_heads b_objects b_marks b_order b_reached b_targets) sz) (va_Qv (fun (u : (Int32 × Int32 × Int32 × (Nat → Int32))) => o = u) (gB (dC, dI) vwCl (gT cI cJ cH) (fun (u : (Int32 × Int32 × Int32 × (Nat → Int32))) => wRd cI a_p ai_p u.1 u.2.1 a_objects u.2.2.1 ++ wBy cI ai_p ai_row_p ai_row ai_size ++ wHp cI b_p b_words_p b_roots_p b_heads_p b_marks_p b_order_p b_targets_p u.2.2.2 b_roots b_base b_top b_heads b_objects b_marks b_order b_reached b_targets) (va_A (wRd cI a_p ai_p a_place a_end a_objects a_toldObjects ++ wBy cI ai_p ai_row_p ai_row ai_size ++ wHp cI b_p b_words_p b_roots_p b_heads_p b_marks_p b_order_p b_targets_p b_words b_roots b_base b_top b_heads b_objects b_marks b_order b_reached b_targets) sz)) (va_A (wRd cI a_p ai_p a_place a_end a_objects a_toldObjects ++ wBy cI ai_p ai_row_p ai_row ai_size ++ wHp cI b_p b_words_p b_roots_p b_heads_p b_marks_p b_order_p b_targets_p b_words b_roots b_base b_top b_heads b_objects b_marks b_order b_reached b_targets) sz)) 0 0 (va_A (wRd cI a_p ai_p a_place a_end a_objects a_toldObjects ++ wBy cI ai_p ai_row_p ai_row ai_size ++ wHp cI b_p b_words_p b_roots_p b_heads_p b_marks_p b_order_p b_targets_p b_words b_roots b_base b_top b_heads b_objects b_marks b_order b_reached b_targets) sz) := by
  refine g_met (fun A => va_Qv (fun (u : (Int32 × Int32 × Int32 × (Nat → Int32))) => o = u) (gB (dC, dI) vwCl (gT cI cJ cH) (fun (u : (Int32 × Int32 × Int32 × (Nat → Int32))) => wRd cI a_p ai_p u.1 u.2.1 a_objects u.2.2.1 ++ wBy cI ai_p ai_row_p ai_row ai_size ++ wHp cI b_p b_words_p b_roots_p b_heads_p b_marks_p b_order_p b_targets_p u.2.2.2 b_roots b_base b_top b_heads b_objects b_marks b_order b_reached b_targets) A) A) (by decide) rfl (Nat.le_of_ble_eq_true rfl) ?_
  intro p e s m args below meth c A Q F hlocks hr hname hN hQ
  unfold f_X2_readSlots at hf
  refine g_lvE (lv' := [(0, .ref a_p), (1, .ref b_p), (2, .int x2)]) rfl ?_
  refine g_aload_n F dX2_readSlots_0 rfl 1 rfl ?_
  refine g_getN (host := "HeapImages") F h_X2_readSlots_1 3 rfl rfl 0 (by decide) (hN _ (by decide +kernel)) rfl dX2_readSlots_1 ?_
  refine g_iload_n F dX2_readSlots_4 rfl 2 rfl ?_
  obtain ⟨h1, hf⟩ := ckE hf
  refine g_iald F 4 0 rfl rfl h1 dX2_readSlots_5 ?_
  obtain ⟨o2, ho2, hf⟩ := bnE hf
  refine g_callNi (host := "HeapImages") (n := 1) (As := [.int (b_words x2.toNatClampNeg)]) F (c_X3_kindOf l dC dI cI cJ cH (b_words x2.toNatClampNeg) o2 ho2) ggX2_readSlots_X3_kindOf rfl rfl rfl (by decide +kernel) (hN _ (by decide +kernel)) (by decide +kernel) (by decide +kernel) ⟨Nat.le_of_ble_eq_true rfl, Nat.le_of_ble_eq_true rfl⟩ ⟨Nat.le_of_ble_eq_true rfl, Nat.le_of_ble_eq_true rfl⟩ hN [] rfl rfl (fun _ => rfl) rfl (Nat.le_of_ble_eq_true rfl) rfl dX2_readSlots_6 (cells' := 0) (slots' := 0) rfl rfl (fun r u hp => ?_)
  subst hp
  refine g_ws (ws' := wRd cI a_p ai_p a_place a_end a_objects a_toldObjects ++ wBy cI ai_p ai_row_p ai_row ai_size ++ wHp cI b_p b_words_p b_roots_p b_heads_p b_marks_p b_order_p b_targets_p b_words b_roots b_base b_top b_heads b_objects b_marks b_order b_reached b_targets) rfl ?_
  refine g_istore_n (lv' := [(3, .int o2), (0, .ref a_p), (1, .ref b_p), (2, .int x2)]) F dX2_readSlots_9 rfl (by decide) rfl ?_
  refine g_aload_n F dX2_readSlots_10 rfl 2 rfl ?_
  refine g_getN (host := "HeapImages") F h_X2_readSlots_1 3 rfl rfl 0 (by decide) (hN _ (by decide +kernel)) rfl dX2_readSlots_11 ?_
  refine g_iload_n F dX2_readSlots_14 rfl 3 rfl ?_
  obtain ⟨h3, hf⟩ := ckE hf
  refine g_iald F 4 0 rfl rfl h3 dX2_readSlots_15 ?_
  obtain ⟨o4, ho4, hf⟩ := bnE hf
  refine g_callNi (host := "HeapImages") (n := 1) (As := [.int (b_words x2.toNatClampNeg)]) F (c_X3_slotsOf l dC dI cI cJ cH (b_words x2.toNatClampNeg) o4 ho4) ggX2_readSlots_X3_slotsOf rfl rfl rfl (by decide +kernel) (hN _ (by decide +kernel)) (by decide +kernel) (by decide +kernel) ⟨Nat.le_of_ble_eq_true rfl, Nat.le_of_ble_eq_true rfl⟩ ⟨Nat.le_of_ble_eq_true rfl, Nat.le_of_ble_eq_true rfl⟩ hN [] rfl rfl (fun _ => rfl) rfl (Nat.le_of_ble_eq_true rfl) rfl dX2_readSlots_16 (cells' := 0) (slots' := 0) rfl rfl (fun r u hp => ?_)
  subst hp
  refine g_ws (ws' := wRd cI a_p ai_p a_place a_end a_objects a_toldObjects ++ wBy cI ai_p ai_row_p ai_row ai_size ++ wHp cI b_p b_words_p b_roots_p b_heads_p b_marks_p b_order_p b_targets_p b_words b_roots b_base b_top b_heads b_objects b_marks b_order b_reached b_targets) rfl ?_
  refine g_istore (lv' := [(4, .int o4), (3, .int o2), (0, .ref a_p), (1, .ref b_p), (2, .int x2)]) F dX2_readSlots_19 (by decide) rfl ?_
  refine g_iconst (v := 0) F dX2_readSlots_21 rfl ?_
  refine g_istore (lv' := [(5, .int (0 : Int32)), (4, .int o4), (3, .int o2), (0, .ref a_p), (1, .ref b_p), (2, .int x2)]) F dX2_readSlots_22 (by decide) rfl ?_
  obtain ⟨o15, ho15, hf⟩ := bnE hf
  refine g_lv [3, 4, 5, 2, 1, 0] rfl ?_
  refine w_X2_readSlots_L24 F hN FU _ _ _ _ _ o15 ho15 ?_
  subst hQ
  exact g_vret F hlocks hr (o15.1, o15.2.1, o15.2.2.1, o15.2.2.2) rfl (Option.some.inj hf).symm dX2_readSlots_121

/-! HeapImages$Reader.readSum()V -/
def rm_X2_readSum : Room := { frames := 2, cells := 0, slots := 0, locals := 42 }
theorem h_X2_readSum_2 : ∀ w ∈ wsX20, w ∈ wsX2_readSum := by decide +kernel
def f_X2_readSum (a_place : Int32) (a_end : Int32) (ai_row : (Nat → Int32)) (ai_size : Int32) : Option (Int32 × Int32) :=
  Option.bind (f_X0_sumOf ai_row a_place) fun o1 => Option.bind (f_X2_nextByte a_place a_end ai_row ai_size) fun o2 => Option.bind (f_X2_nextByte o2.2.1 o2.2.2 ai_row ai_size) fun o3 => nm (o2.1 + (o3.1 <<< ((8 : Int32) &&& 31))) fun v4 => if v4 = o1 then some (o3.2.1, o3.2.2) else Option.bind (f_X2_endAt o3.2.2 a_place) fun o5 => some (o3.2.1, o5)
set_option maxHeartbeats 4000000 in
set_option maxRecDepth 100000 in
theorem c_X2_readSum (l : Launch) (dC : Nat → ClassId) (dI : Nat → Nat → Nat) (cI cJ cH : ClassId) (a_p ai_p ai_row_p : Nat)  (a_place : Int32) (a_end : Int32) (a_objects : Int32) (a_toldObjects : Int32) (ai_row : (Nat → Int32)) (ai_size : Int32)  (o : (Int32 × Int32)) (hf : f_X2_readSum a_place a_end ai_row ai_size = some o) : ∀ sz : Nat, Met l yX2_readSum wsX2_readSum rm_X2_readSum (gPre [.ref a_p] (dC, dI) vwCl (gT cI cJ cH) (wRd cI a_p ai_p a_place a_end a_objects a_toldObjects ++ wBy cI ai_p ai_row_p ai_row ai_size) sz) (va_Qv (fun (u : (Int32 × Int32)) => o = u) (gB (dC, dI) vwCl (gT cI cJ cH) (fun (u : (Int32 × Int32)) => wRd cI a_p ai_p u.1 u.2 a_objects a_toldObjects ++ wBy cI ai_p ai_row_p ai_row ai_size) (va_A (wRd cI a_p ai_p a_place a_end a_objects a_toldObjects ++ wBy cI ai_p ai_row_p ai_row ai_size) sz)) (va_A (wRd cI a_p ai_p a_place a_end a_objects a_toldObjects ++ wBy cI ai_p ai_row_p ai_row ai_size) sz)) 0 0 (va_A (wRd cI a_p ai_p a_place a_end a_objects a_toldObjects ++ wBy cI ai_p ai_row_p ai_row ai_size) sz) := by
  refine g_met (fun A => va_Qv (fun (u : (Int32 × Int32)) => o = u) (gB (dC, dI) vwCl (gT cI cJ cH) (fun (u : (Int32 × Int32)) => wRd cI a_p ai_p u.1 u.2 a_objects a_toldObjects ++ wBy cI ai_p ai_row_p ai_row ai_size) A) A) (by decide) rfl (Nat.le_of_ble_eq_true rfl) ?_
  intro p e s m args below meth c A Q F hlocks hr hname hN hQ
  unfold f_X2_readSum at hf
  refine g_lvE (lv' := [(0, .ref a_p)]) rfl ?_
  refine g_aload_n F dX2_readSum_0 rfl 0 rfl ?_
  refine g_get F h_X2_readSum_2 0 rfl rfl 1 (by decide) (by decide +kernel) rfl dX2_readSum_1 ?_
  refine g_istore_n (lv' := [(1, .int a_place), (0, .ref a_p)]) F dX2_readSum_4 rfl (by decide) rfl ?_
  refine g_aload_n F dX2_readSum_5 rfl 1 rfl ?_
  refine g_get F h_X2_readSum_2 0 rfl rfl 0 (by decide) (by decide +kernel) rfl dX2_readSum_6 ?_
  refine g_iload_n F dX2_readSum_9 rfl 0 rfl ?_
  obtain ⟨o1, ho1, hf⟩ := bnE hf
  refine g_callPi (n := 1) (As := [.int a_place]) F (c_X0_sumOf l dC dI cI cJ cH ai_p ai_row_p ai_row ai_size a_place o1 ho1) ggX2_readSum_X0_sumOf rfl rfl rfl (by decide +kernel) (by decide +kernel) (by decide +kernel) (by decide +kernel) (by decide +kernel) ⟨Nat.le_of_ble_eq_true rfl, Nat.le_of_ble_eq_true rfl⟩ ⟨Nat.le_of_ble_eq_true rfl, Nat.le_of_ble_eq_true rfl⟩ hN 1 rfl rfl rfl (wRd cI a_p ai_p a_place a_end a_objects a_toldObjects) ([]) rfl (fun _ => rfl) rfl (Nat.le_of_ble_eq_true rfl) rfl dX2_readSum_10 (cells' := 0) (slots' := 0) rfl rfl (fun r u hp => ?_)
  subst hp
  refine g_ws (ws' := wRd cI a_p ai_p a_place a_end a_objects a_toldObjects ++ wBy cI ai_p ai_row_p ai_row ai_size) rfl ?_
  refine g_istore_n (lv' := [(2, .int o1), (1, .int a_place), (0, .ref a_p)]) F dX2_readSum_13 rfl (by decide) rfl ?_
  refine g_aload_n F dX2_readSum_14 rfl 2 rfl ?_
  obtain ⟨o2, ho2, hf⟩ := bnE hf
  refine g_callPi (n := 0) (As := []) F (c_X2_nextByte l dC dI cI cJ cH a_p ai_p ai_row_p a_place a_end a_objects a_toldObjects ai_row ai_size o2 ho2) ggX2_readSum_X2_nextByte rfl rfl rfl (by decide +kernel) (by decide +kernel) (by decide +kernel) (by decide +kernel) (by decide +kernel) ⟨Nat.le_of_ble_eq_true rfl, Nat.le_of_ble_eq_true rfl⟩ ⟨Nat.le_of_ble_eq_true rfl, Nat.le_of_ble_eq_true rfl⟩ hN 0 rfl rfl rfl ([]) ([]) rfl (fun _ => rfl) rfl (Nat.le_of_ble_eq_true rfl) rfl dX2_readSum_15 (cells' := 0) (slots' := 0) rfl rfl (fun r u hp => ?_)
  obtain ⟨hp1, hp2⟩ := hp
  subst hp1
  subst hp2
  refine g_ws (ws' := wRd cI a_p ai_p o2.2.1 o2.2.2 a_objects a_toldObjects ++ wBy cI ai_p ai_row_p ai_row ai_size) rfl ?_
  refine g_istore_n (lv' := [(3, .int o2.1), (2, .int o1), (1, .int a_place), (0, .ref a_p)]) F dX2_readSum_18 rfl (by decide) rfl ?_
  refine g_iload_n F dX2_readSum_19 rfl 0 rfl ?_
  refine g_aload_n F dX2_readSum_20 rfl 3 rfl ?_
  obtain ⟨o3, ho3, hf⟩ := bnE hf
  refine g_callPi (n := 0) (As := []) F (c_X2_nextByte l dC dI cI cJ cH a_p ai_p ai_row_p o2.2.1 o2.2.2 a_objects a_toldObjects ai_row ai_size o3 ho3) ggX2_readSum_X2_nextByte rfl rfl rfl (by decide +kernel) (by decide +kernel) (by decide +kernel) (by decide +kernel) (by decide +kernel) ⟨Nat.le_of_ble_eq_true rfl, Nat.le_of_ble_eq_true rfl⟩ ⟨Nat.le_of_ble_eq_true rfl, Nat.le_of_ble_eq_true rfl⟩ hN 0 rfl rfl rfl ([]) ([]) rfl (fun _ => rfl) rfl (Nat.le_of_ble_eq_true rfl) rfl dX2_readSum_21 (cells' := 0) (slots' := 0) rfl rfl (fun r u hp => ?_)
  obtain ⟨hp1, hp2⟩ := hp
  subst hp1
  subst hp2
  refine g_ws (ws' := wRd cI a_p ai_p o3.2.1 o3.2.2 a_objects a_toldObjects ++ wBy cI ai_p ai_row_p ai_row ai_size) rfl ?_
  refine g_bipush (v := 8) F dX2_readSum_24 rfl ?_
  refine g_ishl F dX2_readSum_26 ?_
  refine g_iadd F dX2_readSum_27 ?_
  obtain ⟨v4, ev4, hf⟩ := nmE hf
  refine g_nmi ev4 ?_
  refine g_istore_n (lv' := [(3, .int v4), (2, .int o1), (1, .int a_place), (0, .ref a_p)]) F dX2_readSum_28 rfl (by decide) rfl ?_
  refine g_iload_n F dX2_readSum_29 rfl 0 rfl ?_
  refine g_iload_n F dX2_readSum_30 rfl 1 rfl ?_
  refine g_icmp_eq (tgt := 39) F dX2_readSum_31 (by decide) (fun c31 => ?_) (fun c31 => ?_)
  · have hf := iteT hf c31
    subst hQ
    exact g_vret F hlocks hr (o3.2.1, o3.2.2) rfl (Option.some.inj hf).symm dX2_readSum_39
  · have hf := iteF hf c31
    refine g_aload_n F dX2_readSum_34 rfl 3 rfl ?_
    refine g_iload_n F dX2_readSum_35 rfl 2 rfl ?_
    obtain ⟨o5, ho5, hf⟩ := bnE hf
    refine g_callPv (n := 1) (As := [.int a_place]) F (c_X2_endAt l dC dI cI cJ cH a_p ai_p ai_row_p o3.2.1 o3.2.2 a_objects a_toldObjects ai_row ai_size a_place o5 ho5) ggX2_readSum_X2_endAt rfl rfl rfl (by decide +kernel) (by decide +kernel) (by decide +kernel) (by decide +kernel) (by decide +kernel) ⟨Nat.le_of_ble_eq_true rfl, Nat.le_of_ble_eq_true rfl⟩ ⟨Nat.le_of_ble_eq_true rfl, Nat.le_of_ble_eq_true rfl⟩ hN 0 rfl rfl rfl ([]) ([]) rfl (fun _ => rfl) rfl (Nat.le_of_ble_eq_true rfl) rfl dX2_readSum_36 (cells' := 0) (slots' := 0) rfl rfl (fun u hp => ?_)
    subst hp
    refine g_ws (ws' := wRd cI a_p ai_p o3.2.1 o5 a_objects a_toldObjects ++ wBy cI ai_p ai_row_p ai_row ai_size) rfl ?_
    subst hQ
    exact g_vret F hlocks hr (o3.2.1, o5) rfl (Option.some.inj hf).symm dX2_readSum_39

/-! HeapImages$Reader.readInto(LHeapImages$Heap;)I -/
def rm_X2_readInto : Room := { frames := 5, cells := 0, slots := 0, locals := 122 }
theorem h_X2_readInto_0 : ∀ w ∈ wsX00, w ∈ wsX2_readInto := by decide +kernel
theorem h_X2_readInto_1 : ∀ w ∈ wsX10, w ∈ wsX2_readInto := by decide +kernel
theorem h_X2_readInto_2 : ∀ w ∈ wsX20, w ∈ wsX2_readInto := by decide +kernel
def f_X2_readInto_L25_s (a_objects : Int32) (ai_row : (Nat → Int32)) (ai_size : Int32) (rc : Int32 → Int32 → Int32 → Int32 → (Nat → Int32) → Option (Int32 × Int32 × Int32 × (Nat → Int32))) (z2 : Int32) (a_place : Int32) (a_end : Int32) (a_toldObjects : Int32) (b_roots : (Nat → Int32)) : Option (Int32 × Int32 × Int32 × (Nat → Int32)) :=
  if (4 : Int32) ≤ z2 then some (a_place, a_end, a_toldObjects, b_roots) else Option.bind (f_X2_goesOn a_end) fun o3 => if o3 = 0 then some (a_place, a_end, a_toldObjects, b_roots) else Option.bind (f_X2_nextValue a_place a_end a_objects a_toldObjects ai_row ai_size (1 : Int32) (1 : Int32)) fun o4 => ck (inR z2 4) (nm (z2 + (1 : Int32)) fun v6 => rc v6 o4.2.1 o4.2.2.1 o4.2.2.2 (upd b_roots z2.toNatClampNeg o4.1))
def f_X2_readInto_L25 (a_objects : Int32) (ai_row : (Nat → Int32)) (ai_size : Int32) : Nat → Int32 → Int32 → Int32 → Int32 → (Nat → Int32) → Option (Int32 × Int32 × Int32 × (Nat → Int32))
  | 0, _, _, _, _, _ => none
  | n + 1, z2, a_place, a_end, a_toldObjects, b_roots => f_X2_readInto_L25_s a_objects ai_row ai_size (f_X2_readInto_L25 a_objects ai_row ai_size n) z2 a_place a_end a_toldObjects b_roots
set_option maxHeartbeats 4000000 in
theorem w_X2_readInto_L25 {p : Program} {l : Launch} {e : Env} {s : State} {m : MethodId} {args : Array Value} {below : List Frame} {meth : Method} {c : Code} {A : Nat → Prop} {Q : State → Prop} {dC : Nat → ClassId} {dI : Nat → Nat → Nat} {cI cJ cH : ClassId} {a_p ai_p ai_row_p b_p b_words_p b_roots_p b_heads_p b_marks_p b_order_p b_targets_p : Nat} {a_objects : Int32} {ai_row : (Nat → Int32)} {ai_size : Int32} {b_words : (Nat → Int32)} {b_base : Int32} {b_top : Int32} {b_heads : (Nat → Int32)} {b_objects : Int32} {b_marks : (Nat → Int32)} {b_order : (Nat → Int32)} {b_reached : Int32} {b_targets : (Nat → Int32)}  (F : gF p m c cX2_readInto 4 s args wsX2_readInto yX2_readInto.cls (dC, dI) vwCl (gT cI cJ cH) A) (hN : ∀ w ∈ gN, va_Nw w s) : ∀ (n : Nat) (z2 : Int32) (a_place : Int32) (a_end : Int32) (a_toldObjects : Int32) (b_roots : (Nat → Int32)) (o : (Int32 × Int32 × Int32 × (Nat → Int32))), f_X2_readInto_L25 a_objects ai_row ai_size n z2 a_place a_end a_toldObjects b_roots = some o → (gW p l e rm_X2_readInto s m args below meth c 0 0 Q (dC, dI) vwCl A 4 (wRd cI a_p ai_p o.1 o.2.1 a_objects o.2.2.1 ++ wBy cI ai_p ai_row_p ai_row ai_size ++ wHp cI b_p b_words_p b_roots_p b_heads_p b_marks_p b_order_p b_targets_p b_words o.2.2.2 b_base b_top b_heads b_objects b_marks b_order b_reached b_targets) [(0, .ref a_p), (1, .ref b_p)] 55 []) → gW p l e rm_X2_readInto s m args below meth c 0 0 Q (dC, dI) vwCl A 4 (wRd cI a_p ai_p a_place a_end a_objects a_toldObjects ++ wBy cI ai_p ai_row_p ai_row ai_size ++ wHp cI b_p b_words_p b_roots_p b_heads_p b_marks_p b_order_p b_targets_p b_words b_roots b_base b_top b_heads b_objects b_marks b_order b_reached b_targets) [(0, .ref a_p), (1, .ref b_p), (2, .int z2)] 25 [] := by
  intro n
  induction n with
  | zero =>
    intro z2 a_place a_end a_toldObjects b_roots o hf E0
    change none = some o at hf
    cases hf
  | succ n ih =>
    intro z2 a_place a_end a_toldObjects b_roots o hf E0
    change f_X2_readInto_L25_s a_objects ai_row ai_size (f_X2_readInto_L25 a_objects ai_row ai_size n) z2 a_place a_end a_toldObjects b_roots = some o at hf
    unfold f_X2_readInto_L25_s at hf
    refine g_iload_n F dX2_readInto_25 rfl 2 rfl ?_
    refine g_iconst (v := 4) F dX2_readInto_26 rfl ?_
    refine g_icmp_ge (tgt := 55) F dX2_readInto_27 (by decide) (fun c27 => ?_) (fun c27 => ?_)
    · have hf := iteT hf c27
      cases hf
      refine g_lv [0, 1] rfl ?_
      exact E0
    · have hf := iteF hf c27
      refine g_aload_n F dX2_readInto_30 rfl 0 rfl ?_
      obtain ⟨o3, ho3, hf⟩ := bnE hf
      refine g_callPi (n := 0) (As := []) F (c_X2_goesOn l dC dI cI cJ cH a_p ai_p ai_row_p a_place a_end a_objects a_toldObjects ai_row ai_size o3 ho3) ggX2_readInto_X2_goesOn rfl rfl rfl (by decide +kernel) (by decide +kernel) (by decide +kernel) (by decide +kernel) (by decide +kernel) ⟨Nat.le_of_ble_eq_true rfl, Nat.le_of_ble_eq_true rfl⟩ ⟨Nat.le_of_ble_eq_true rfl, Nat.le_of_ble_eq_true rfl⟩ hN 0 rfl rfl rfl ([]) (wHp cI b_p b_words_p b_roots_p b_heads_p b_marks_p b_order_p b_targets_p b_words b_roots b_base b_top b_heads b_objects b_marks b_order b_reached b_targets) rfl (fun _ => rfl) rfl (Nat.le_of_ble_eq_true rfl) rfl dX2_readInto_31 (cells' := 0) (slots' := 0) rfl rfl (fun r u hp => ?_)
      subst hp
      refine g_ws (ws' := wRd cI a_p ai_p a_place a_end a_objects a_toldObjects ++ wBy cI ai_p ai_row_p ai_row ai_size ++ wHp cI b_p b_words_p b_roots_p b_heads_p b_marks_p b_order_p b_targets_p b_words b_roots b_base b_top b_heads b_objects b_marks b_order b_reached b_targets) rfl ?_
      refine g_if_eq (tgt := 55) F dX2_readInto_34 (by decide) (fun c34 => ?_) (fun c34 => ?_)
      · have hf := iteT hf c34
        cases hf
        refine g_lv [0, 1] rfl ?_
        exact E0
      · have hf := iteF hf c34
        refine g_aload_n F dX2_readInto_37 rfl 1 rfl ?_
        refine g_getN (host := "HeapImages") F h_X2_readInto_1 3 rfl rfl 1 (by decide) (hN _ (by decide +kernel)) rfl dX2_readInto_38 ?_
        refine g_iload_n F dX2_readInto_41 rfl 2 rfl ?_
        refine g_aload_n F dX2_readInto_42 rfl 0 rfl ?_
        refine g_iconst (v := 1) F dX2_readInto_43 rfl ?_
        refine g_iconst (v := 1) F dX2_readInto_44 rfl ?_
        obtain ⟨o4, ho4, hf⟩ := bnE hf
        refine g_callPi (n := 2) (As := [.int (1 : Int32), .int (1 : Int32)]) F (c_X2_nextValue l dC dI cI cJ cH a_p ai_p ai_row_p a_place a_end a_objects a_toldObjects ai_row ai_size (1 : Int32) (1 : Int32) o4 ho4) ggX2_readInto_X2_nextValue rfl rfl rfl (by decide +kernel) (by decide +kernel) (by decide +kernel) (by decide +kernel) (by decide +kernel) ⟨Nat.le_of_ble_eq_true rfl, Nat.le_of_ble_eq_true rfl⟩ ⟨Nat.le_of_ble_eq_true rfl, Nat.le_of_ble_eq_true rfl⟩ hN 0 rfl rfl rfl ([]) (wHp cI b_p b_words_p b_roots_p b_heads_p b_marks_p b_order_p b_targets_p b_words b_roots b_base b_top b_heads b_objects b_marks b_order b_reached b_targets) rfl (fun _ => rfl) rfl (Nat.le_of_ble_eq_true rfl) rfl dX2_readInto_45 (cells' := 0) (slots' := 0) rfl rfl (fun r u hp => ?_)
        obtain ⟨hp1, hp2⟩ := hp
        subst hp1
        subst hp2
        refine g_ws (ws' := wRd cI a_p ai_p o4.2.1 o4.2.2.1 a_objects o4.2.2.2 ++ wBy cI ai_p ai_row_p ai_row ai_size ++ wHp cI b_p b_words_p b_roots_p b_heads_p b_marks_p b_order_p b_targets_p b_words b_roots b_base b_top b_heads b_objects b_marks b_order b_reached b_targets) rfl ?_
        obtain ⟨h5, hf⟩ := ckE hf
        refine g_iast F 5 0 rfl rfl h5 dX2_readInto_48 (ws' := wRd cI a_p ai_p o4.2.1 o4.2.2.1 a_objects o4.2.2.2 ++ wBy cI ai_p ai_row_p ai_row ai_size ++ wHp cI b_p b_words_p b_roots_p b_heads_p b_marks_p b_order_p b_targets_p b_words (upd b_roots z2.toNatClampNeg o4.1) b_base b_top b_heads b_objects b_marks b_order b_reached b_targets) rfl ?_
        obtain ⟨v6, ev6, hf⟩ := nmE hf
        refine g_iinc (j := 2) (lv' := [(2, .int v6), (0, .ref a_p), (1, .ref b_p)]) F dX2_readInto_49 rfl ev6.symm (by decide) rfl ?_
        refine g_goto (tgt := 25) F dX2_readInto_52 (by decide) ?_
        refine g_lv [1, 2, 0] rfl ?_
        exact ih _ _ _ _ _ o hf E0
def f_X2_readInto_L57_s (a_objects : Int32) (ai_row : (Nat → Int32)) (ai_size : Int32) (rc : Int32 → Int32 → Int32 → Int32 → (Nat → Int32) → Int32 → Option (Int32 × Int32 × Int32 × (Nat → Int32) × Int32)) (z2 : Int32) (a_place : Int32) (a_end : Int32) (a_toldObjects : Int32) (b_words : (Nat → Int32)) (b_top : Int32) : Option (Int32 × Int32 × Int32 × (Nat → Int32) × Int32) :=
  if a_objects ≤ z2 then some (a_place, a_end, a_toldObjects, b_words, b_top) else Option.bind (f_X2_goesOn a_end) fun o8 => if o8 = 0 then some (a_place, a_end, a_toldObjects, b_words, b_top) else Option.bind (f_X2_readHead a_place a_end a_toldObjects ai_row ai_size b_words b_top z2) fun o9 => if o9.1 < 0 then nm (z2 + (1 : Int32)) fun v10 => rc v10 o9.2.1 o9.2.2.1 a_toldObjects o9.2.2.2.1 o9.2.2.2.2 else Option.bind (f_X2_readSlots o9.2.1 o9.2.2.1 a_objects a_toldObjects ai_row ai_size o9.2.2.2.1 o9.1) fun o11 => nm (z2 + (1 : Int32)) fun v12 => rc v12 o11.1 o11.2.1 o11.2.2.1 o11.2.2.2 o9.2.2.2.2
def f_X2_readInto_L57 (a_objects : Int32) (ai_row : (Nat → Int32)) (ai_size : Int32) : Nat → Int32 → Int32 → Int32 → Int32 → (Nat → Int32) → Int32 → Option (Int32 × Int32 × Int32 × (Nat → Int32) × Int32)
  | 0, _, _, _, _, _, _ => none
  | n + 1, z2, a_place, a_end, a_toldObjects, b_words, b_top => f_X2_readInto_L57_s a_objects ai_row ai_size (f_X2_readInto_L57 a_objects ai_row ai_size n) z2 a_place a_end a_toldObjects b_words b_top
set_option maxHeartbeats 4000000 in
theorem w_X2_readInto_L57 {p : Program} {l : Launch} {e : Env} {s : State} {m : MethodId} {args : Array Value} {below : List Frame} {meth : Method} {c : Code} {A : Nat → Prop} {Q : State → Prop} {dC : Nat → ClassId} {dI : Nat → Nat → Nat} {cI cJ cH : ClassId} {a_p ai_p ai_row_p b_p b_words_p b_roots_p b_heads_p b_marks_p b_order_p b_targets_p : Nat} {a_objects : Int32} {ai_row : (Nat → Int32)} {ai_size : Int32} {b_roots : (Nat → Int32)} {b_base : Int32} {b_heads : (Nat → Int32)} {b_objects : Int32} {b_marks : (Nat → Int32)} {b_order : (Nat → Int32)} {b_reached : Int32} {b_targets : (Nat → Int32)}  (F : gF p m c cX2_readInto 4 s args wsX2_readInto yX2_readInto.cls (dC, dI) vwCl (gT cI cJ cH) A) (hN : ∀ w ∈ gN, va_Nw w s) : ∀ (n : Nat) (z2 : Int32) (a_place : Int32) (a_end : Int32) (a_toldObjects : Int32) (b_words : (Nat → Int32)) (b_top : Int32) (o : (Int32 × Int32 × Int32 × (Nat → Int32) × Int32)), f_X2_readInto_L57 a_objects ai_row ai_size n z2 a_place a_end a_toldObjects b_words b_top = some o → (gW p l e rm_X2_readInto s m args below meth c 0 0 Q (dC, dI) vwCl A 4 (wRd cI a_p ai_p o.1 o.2.1 a_objects o.2.2.1 ++ wBy cI ai_p ai_row_p ai_row ai_size ++ wHp cI b_p b_words_p b_roots_p b_heads_p b_marks_p b_order_p b_targets_p o.2.2.2.1 b_roots b_base o.2.2.2.2 b_heads b_objects b_marks b_order b_reached b_targets) [(0, .ref a_p), (1, .ref b_p)] 95 []) → gW p l e rm_X2_readInto s m args below meth c 0 0 Q (dC, dI) vwCl A 4 (wRd cI a_p ai_p a_place a_end a_objects a_toldObjects ++ wBy cI ai_p ai_row_p ai_row ai_size ++ wHp cI b_p b_words_p b_roots_p b_heads_p b_marks_p b_order_p b_targets_p b_words b_roots b_base b_top b_heads b_objects b_marks b_order b_reached b_targets) [(0, .ref a_p), (1, .ref b_p), (2, .int z2)] 57 [] := by
  intro n
  induction n with
  | zero =>
    intro z2 a_place a_end a_toldObjects b_words b_top o hf E0
    change none = some o at hf
    cases hf
  | succ n ih =>
    intro z2 a_place a_end a_toldObjects b_words b_top o hf E0
    change f_X2_readInto_L57_s a_objects ai_row ai_size (f_X2_readInto_L57 a_objects ai_row ai_size n) z2 a_place a_end a_toldObjects b_words b_top = some o at hf
    unfold f_X2_readInto_L57_s at hf
    refine g_iload_n F dX2_readInto_57 rfl 2 rfl ?_
    refine g_aload_n F dX2_readInto_58 rfl 0 rfl ?_
    refine g_get F h_X2_readInto_2 0 rfl rfl 3 (by decide) (by decide +kernel) rfl dX2_readInto_59 ?_
    refine g_icmp_ge (tgt := 95) F dX2_readInto_62 (by decide) (fun c62 => ?_) (fun c62 => ?_)
    · have hf := iteT hf c62
      cases hf
      refine g_lv [0, 1] rfl ?_
      exact E0
    · have hf := iteF hf c62
      refine g_aload_n F dX2_readInto_65 rfl 0 rfl ?_
      obtain ⟨o8, ho8, hf⟩ := bnE hf
      refine g_callPi (n := 0) (As := []) F (c_X2_goesOn l dC dI cI cJ cH a_p ai_p ai_row_p a_place a_end a_objects a_toldObjects ai_row ai_size o8 ho8) ggX2_readInto_X2_goesOn rfl rfl rfl (by decide +kernel) (by decide +kernel) (by decide +kernel) (by decide +kernel) (by decide +kernel) ⟨Nat.le_of_ble_eq_true rfl, Nat.le_of_ble_eq_true rfl⟩ ⟨Nat.le_of_ble_eq_true rfl, Nat.le_of_ble_eq_true rfl⟩ hN 0 rfl rfl rfl ([]) (wHp cI b_p b_words_p b_roots_p b_heads_p b_marks_p b_order_p b_targets_p b_words b_roots b_base b_top b_heads b_objects b_marks b_order b_reached b_targets) rfl (fun _ => rfl) rfl (Nat.le_of_ble_eq_true rfl) rfl dX2_readInto_66 (cells' := 0) (slots' := 0) rfl rfl (fun r u hp => ?_)
      subst hp
      refine g_ws (ws' := wRd cI a_p ai_p a_place a_end a_objects a_toldObjects ++ wBy cI ai_p ai_row_p ai_row ai_size ++ wHp cI b_p b_words_p b_roots_p b_heads_p b_marks_p b_order_p b_targets_p b_words b_roots b_base b_top b_heads b_objects b_marks b_order b_reached b_targets) rfl ?_
      refine g_if_eq (tgt := 95) F dX2_readInto_69 (by decide) (fun c69 => ?_) (fun c69 => ?_)
      · have hf := iteT hf c69
        cases hf
        refine g_lv [0, 1] rfl ?_
        exact E0
      · have hf := iteF hf c69
        refine g_aload_n F dX2_readInto_72 rfl 0 rfl ?_
        refine g_aload_n F dX2_readInto_73 rfl 1 rfl ?_
        refine g_iload_n F dX2_readInto_74 rfl 2 rfl ?_
        obtain ⟨o9, ho9, hf⟩ := bnE hf
        refine g_callPi (n := 2) (As := [.ref b_p, .int z2]) F (c_X2_readHead l dC dI cI cJ cH a_p ai_p ai_row_p b_p b_words_p b_roots_p b_heads_p b_marks_p b_order_p b_targets_p a_place a_end a_objects a_toldObjects ai_row ai_size b_words b_roots b_base b_top b_heads b_objects b_marks b_order b_reached b_targets z2 o9 ho9) ggX2_readInto_X2_readHead rfl rfl rfl (by decide +kernel) (by decide +kernel) (by decide +kernel) (by decide +kernel) (by decide +kernel) ⟨Nat.le_of_ble_eq_true rfl, Nat.le_of_ble_eq_true rfl⟩ ⟨Nat.le_of_ble_eq_true rfl, Nat.le_of_ble_eq_true rfl⟩ hN 0 rfl rfl rfl ([]) ([]) rfl (fun _ => rfl) rfl (Nat.le_of_ble_eq_true rfl) rfl dX2_readInto_75 (cells' := 0) (slots' := 0) rfl rfl (fun r u hp => ?_)
        obtain ⟨hp1, hp2⟩ := hp
        subst hp1
        subst hp2
        refine g_ws (ws' := wRd cI a_p ai_p o9.2.1 o9.2.2.1 a_objects a_toldObjects ++ wBy cI ai_p ai_row_p ai_row ai_size ++ wHp cI b_p b_words_p b_roots_p b_heads_p b_marks_p b_order_p b_targets_p o9.2.2.2.1 b_roots b_base o9.2.2.2.2 b_heads b_objects b_marks b_order b_reached b_targets) rfl ?_
        refine g_istore_n (lv' := [(3, .int o9.1), (0, .ref a_p), (1, .ref b_p), (2, .int z2)]) F dX2_readInto_78 rfl (by decide) rfl ?_
        refine g_iload_n F dX2_readInto_79 rfl 0 rfl ?_
        refine g_if_lt (tgt := 89) F dX2_readInto_80 (by decide) (fun c80 => ?_) (fun c80 => ?_)
        · have hf := iteT hf c80
          obtain ⟨v10, ev10, hf⟩ := nmE hf
          refine g_iinc (j := 3) (lv' := [(2, .int v10), (3, .int o9.1), (0, .ref a_p), (1, .ref b_p)]) F dX2_readInto_89 rfl ev10.symm (by decide) rfl ?_
          refine g_goto (tgt := 57) F dX2_readInto_92 (by decide) ?_
          refine g_lv [2, 3, 0] rfl ?_
          exact ih _ _ _ _ _ _ o hf E0
        · have hf := iteF hf c80
          refine g_aload_n F dX2_readInto_83 rfl 1 rfl ?_
          refine g_aload_n F dX2_readInto_84 rfl 2 rfl ?_
          refine g_iload_n F dX2_readInto_85 rfl 0 rfl ?_
          obtain ⟨o11, ho11, hf⟩ := bnE hf
          refine g_callPv (n := 2) (As := [.ref b_p, .int o9.1]) F (c_X2_readSlots l dC dI cI cJ cH a_p ai_p ai_row_p b_p b_words_p b_roots_p b_heads_p b_marks_p b_order_p b_targets_p o9.2.1 o9.2.2.1 a_objects a_toldObjects ai_row ai_size o9.2.2.2.1 b_roots b_base o9.2.2.2.2 b_heads b_objects b_marks b_order b_reached b_targets o9.1 o11 ho11) ggX2_readInto_X2_readSlots rfl rfl rfl (by decide +kernel) (by decide +kernel) (by decide +kernel) (by decide +kernel) (by decide +kernel) ⟨Nat.le_of_ble_eq_true rfl, Nat.le_of_ble_eq_true rfl⟩ ⟨Nat.le_of_ble_eq_true rfl, Nat.le_of_ble_eq_true rfl⟩ hN 0 rfl rfl rfl ([]) ([]) rfl (fun _ => rfl) rfl (Nat.le_of_ble_eq_true rfl) rfl dX2_readInto_86 (cells' := 0) (slots' := 0) rfl rfl (fun u hp => ?_)
          subst hp
          refine g_ws (ws' := wRd cI a_p ai_p o11.1 o11.2.1 a_objects o11.2.2.1 ++ wBy cI ai_p ai_row_p ai_row ai_size ++ wHp cI b_p b_words_p b_roots_p b_heads_p b_marks_p b_order_p b_targets_p o11.2.2.2 b_roots b_base o9.2.2.2.2 b_heads b_objects b_marks b_order b_reached b_targets) rfl ?_
          obtain ⟨v12, ev12, hf⟩ := nmE hf
          refine g_iinc (j := 3) (lv' := [(2, .int v12), (3, .int o9.1), (0, .ref a_p), (1, .ref b_p)]) F dX2_readInto_89 rfl ev12.symm (by decide) rfl ?_
          refine g_goto (tgt := 57) F dX2_readInto_92 (by decide) ?_
          refine g_lv [2, 3, 0] rfl ?_
          exact ih _ _ _ _ _ _ o hf E0
def f_X2_readInto (a_place : Int32) (a_end : Int32) (a_objects : Int32) (a_toldObjects : Int32) (ai_row : (Nat → Int32)) (ai_size : Int32) (b_words : (Nat → Int32)) (b_roots : (Nat → Int32)) (b_base : Int32) (b_top : Int32) (b_heads : (Nat → Int32)) (b_objects : Int32) (b_marks : (Nat → Int32)) : Option (Int32 × Int32 × Int32 × Int32 × Int32 × (Nat → Int32) × (Nat → Int32) × Int32 × (Nat → Int32) × Int32 × (Nat → Int32)) :=
  Option.bind (f_X2_readSign (0 : Int32) (-1 : Int32) ai_row ai_size) fun o1 => Option.bind (f_X2_readObjectCount o1.1 o1.2 a_objects ai_row ai_size) fun o2 => Option.bind (f_X2_readInto_L25 o2.2.2 ai_row ai_size FU (0 : Int32) o2.1 o2.2.1 (0 : Int32) b_roots) fun o7 => Option.bind (f_X2_readInto_L57 o2.2.2 ai_row ai_size FU (0 : Int32) o7.1 o7.2.1 o7.2.2.1 b_words b_top) fun o13 => Option.bind (f_X2_readSum o13.1 o13.2.1 ai_row ai_size) fun o14 => Option.bind (α := Int32) (if ai_size ≤ o14.1 then some o14.2 else Option.bind (f_X2_endAt o14.2 o14.1) fun o18 => some o18) fun j15 => Option.bind (f_X2_goesOn j15) fun o16 => if o16 = 0 then some ((-1 : Int32) - j15, o14.1, j15, o2.2.2, o13.2.2.1, o13.2.2.2.1, o7.2.2.2, o13.2.2.2.2, b_heads, b_objects, b_marks) else Option.bind (f_X1_resolveReferences o13.2.2.2.1 o7.2.2.2 b_base o13.2.2.2.2 b_heads b_objects b_marks) fun o17 => some (o2.2.2, o14.1, j15, o2.2.2, o13.2.2.1, o17.1, o17.2.1, o13.2.2.2.2, o17.2.2.1, o17.2.2.2.1, o17.2.2.2.2)
set_option maxHeartbeats 4000000 in
set_option maxRecDepth 100000 in
theorem c_X2_readInto (l : Launch) (dC : Nat → ClassId) (dI : Nat → Nat → Nat) (cI cJ cH : ClassId) (a_p ai_p ai_row_p b_p b_words_p b_roots_p b_heads_p b_marks_p b_order_p b_targets_p : Nat)  (a_place : Int32) (a_end : Int32) (a_objects : Int32) (a_toldObjects : Int32) (ai_row : (Nat → Int32)) (ai_size : Int32) (b_words : (Nat → Int32)) (b_roots : (Nat → Int32)) (b_base : Int32) (b_top : Int32) (b_heads : (Nat → Int32)) (b_objects : Int32) (b_marks : (Nat → Int32)) (b_order : (Nat → Int32)) (b_reached : Int32) (b_targets : (Nat → Int32))  (o : (Int32 × Int32 × Int32 × Int32 × Int32 × (Nat → Int32) × (Nat → Int32) × Int32 × (Nat → Int32) × Int32 × (Nat → Int32))) (hf : f_X2_readInto a_place a_end a_objects a_toldObjects ai_row ai_size b_words b_roots b_base b_top b_heads b_objects b_marks = some o) : ∀ sz : Nat, Met l yX2_readInto wsX2_readInto rm_X2_readInto (gPre [.ref a_p, .ref b_p] (dC, dI) vwCl (gT cI cJ cH) (wRd cI a_p ai_p a_place a_end a_objects a_toldObjects ++ wBy cI ai_p ai_row_p ai_row ai_size ++ wHp cI b_p b_words_p b_roots_p b_heads_p b_marks_p b_order_p b_targets_p b_words b_roots b_base b_top b_heads b_objects b_marks b_order b_reached b_targets) sz) (va_Qi (fun (r : Int32) (u : (Int32 × Int32 × Int32 × Int32 × (Nat → Int32) × (Nat → Int32) × Int32 × (Nat → Int32) × Int32 × (Nat → Int32))) => o.1 = r ∧ o.2 = u) (gB (dC, dI) vwCl (gT cI cJ cH) (fun (u : (Int32 × Int32 × Int32 × Int32 × (Nat → Int32) × (Nat → Int32) × Int32 × (Nat → Int32) × Int32 × (Nat → Int32))) => wRd cI a_p ai_p u.1 u.2.1 u.2.2.1 u.2.2.2.1 ++ wBy cI ai_p ai_row_p ai_row ai_size ++ wHp cI b_p b_words_p b_roots_p b_heads_p b_marks_p b_order_p b_targets_p u.2.2.2.2.1 u.2.2.2.2.2.1 b_base u.2.2.2.2.2.2.1 u.2.2.2.2.2.2.2.1 u.2.2.2.2.2.2.2.2.1 u.2.2.2.2.2.2.2.2.2 b_order b_reached b_targets) (va_A (wRd cI a_p ai_p a_place a_end a_objects a_toldObjects ++ wBy cI ai_p ai_row_p ai_row ai_size ++ wHp cI b_p b_words_p b_roots_p b_heads_p b_marks_p b_order_p b_targets_p b_words b_roots b_base b_top b_heads b_objects b_marks b_order b_reached b_targets) sz)) (va_A (wRd cI a_p ai_p a_place a_end a_objects a_toldObjects ++ wBy cI ai_p ai_row_p ai_row ai_size ++ wHp cI b_p b_words_p b_roots_p b_heads_p b_marks_p b_order_p b_targets_p b_words b_roots b_base b_top b_heads b_objects b_marks b_order b_reached b_targets) sz)) 0 0 (va_A (wRd cI a_p ai_p a_place a_end a_objects a_toldObjects ++ wBy cI ai_p ai_row_p ai_row ai_size ++ wHp cI b_p b_words_p b_roots_p b_heads_p b_marks_p b_order_p b_targets_p b_words b_roots b_base b_top b_heads b_objects b_marks b_order b_reached b_targets) sz) := by
  refine g_met (fun A => va_Qi (fun (r : Int32) (u : (Int32 × Int32 × Int32 × Int32 × (Nat → Int32) × (Nat → Int32) × Int32 × (Nat → Int32) × Int32 × (Nat → Int32))) => o.1 = r ∧ o.2 = u) (gB (dC, dI) vwCl (gT cI cJ cH) (fun (u : (Int32 × Int32 × Int32 × Int32 × (Nat → Int32) × (Nat → Int32) × Int32 × (Nat → Int32) × Int32 × (Nat → Int32))) => wRd cI a_p ai_p u.1 u.2.1 u.2.2.1 u.2.2.2.1 ++ wBy cI ai_p ai_row_p ai_row ai_size ++ wHp cI b_p b_words_p b_roots_p b_heads_p b_marks_p b_order_p b_targets_p u.2.2.2.2.1 u.2.2.2.2.2.1 b_base u.2.2.2.2.2.2.1 u.2.2.2.2.2.2.2.1 u.2.2.2.2.2.2.2.2.1 u.2.2.2.2.2.2.2.2.2 b_order b_reached b_targets) A) A) (by decide) rfl (Nat.le_of_ble_eq_true rfl) ?_
  intro p e s m args below meth c A Q F hlocks hr hname hN hQ
  unfold f_X2_readInto at hf
  refine g_lvE (lv' := [(0, .ref a_p), (1, .ref b_p)]) rfl ?_
  refine g_aload_n F dX2_readInto_0 rfl 0 rfl ?_
  refine g_iconst (v := 0) F dX2_readInto_1 rfl ?_
  refine g_put F h_X2_readInto_2 tyX2 tyX2_ok nmX2 0 rfl rfl 1 (by decide) (by decide +kernel) rfl rfl rfl (Nat.le_of_ble_eq_true rfl) dX2_readInto_2 (ws' := wRd cI a_p ai_p (0 : Int32) a_end a_objects a_toldObjects ++ wBy cI ai_p ai_row_p ai_row ai_size ++ wHp cI b_p b_words_p b_roots_p b_heads_p b_marks_p b_order_p b_targets_p b_words b_roots b_base b_top b_heads b_objects b_marks b_order b_reached b_targets) rfl ?_
  refine g_aload_n F dX2_readInto_5 rfl 0 rfl ?_
  refine g_iconst (v := -1) F dX2_readInto_6 rfl ?_
  refine g_put F h_X2_readInto_2 tyX2 tyX2_ok nmX2 0 rfl rfl 2 (by decide) (by decide +kernel) rfl rfl rfl (Nat.le_of_ble_eq_true rfl) dX2_readInto_7 (ws' := wRd cI a_p ai_p (0 : Int32) (-1 : Int32) a_objects a_toldObjects ++ wBy cI ai_p ai_row_p ai_row ai_size ++ wHp cI b_p b_words_p b_roots_p b_heads_p b_marks_p b_order_p b_targets_p b_words b_roots b_base b_top b_heads b_objects b_marks b_order b_reached b_targets) rfl ?_
  refine g_aload_n F dX2_readInto_10 rfl 0 rfl ?_
  refine g_iconst (v := 0) F dX2_readInto_11 rfl ?_
  refine g_put F h_X2_readInto_2 tyX2 tyX2_ok nmX2 0 rfl rfl 4 (by decide) (by decide +kernel) rfl rfl rfl (Nat.le_of_ble_eq_true rfl) dX2_readInto_12 (ws' := wRd cI a_p ai_p (0 : Int32) (-1 : Int32) a_objects (0 : Int32) ++ wBy cI ai_p ai_row_p ai_row ai_size ++ wHp cI b_p b_words_p b_roots_p b_heads_p b_marks_p b_order_p b_targets_p b_words b_roots b_base b_top b_heads b_objects b_marks b_order b_reached b_targets) rfl ?_
  refine g_aload_n F dX2_readInto_15 rfl 0 rfl ?_
  obtain ⟨o1, ho1, hf⟩ := bnE hf
  refine g_callPv (n := 0) (As := []) F (c_X2_readSign l dC dI cI cJ cH a_p ai_p ai_row_p (0 : Int32) (-1 : Int32) a_objects (0 : Int32) ai_row ai_size o1 ho1) ggX2_readInto_X2_readSign rfl rfl rfl (by decide +kernel) (by decide +kernel) (by decide +kernel) (by decide +kernel) (by decide +kernel) ⟨Nat.le_of_ble_eq_true rfl, Nat.le_of_ble_eq_true rfl⟩ ⟨Nat.le_of_ble_eq_true rfl, Nat.le_of_ble_eq_true rfl⟩ hN 0 rfl rfl rfl ([]) (wHp cI b_p b_words_p b_roots_p b_heads_p b_marks_p b_order_p b_targets_p b_words b_roots b_base b_top b_heads b_objects b_marks b_order b_reached b_targets) rfl (fun _ => rfl) rfl (Nat.le_of_ble_eq_true rfl) rfl dX2_readInto_16 (cells' := 0) (slots' := 0) rfl rfl (fun u hp => ?_)
  subst hp
  refine g_ws (ws' := wRd cI a_p ai_p o1.1 o1.2 a_objects (0 : Int32) ++ wBy cI ai_p ai_row_p ai_row ai_size ++ wHp cI b_p b_words_p b_roots_p b_heads_p b_marks_p b_order_p b_targets_p b_words b_roots b_base b_top b_heads b_objects b_marks b_order b_reached b_targets) rfl ?_
  refine g_aload_n F dX2_readInto_19 rfl 0 rfl ?_
  obtain ⟨o2, ho2, hf⟩ := bnE hf
  refine g_callPv (n := 0) (As := []) F (c_X2_readObjectCount l dC dI cI cJ cH a_p ai_p ai_row_p o1.1 o1.2 a_objects (0 : Int32) ai_row ai_size o2 ho2) ggX2_readInto_X2_readObjectCount rfl rfl rfl (by decide +kernel) (by decide +kernel) (by decide +kernel) (by decide +kernel) (by decide +kernel) ⟨Nat.le_of_ble_eq_true rfl, Nat.le_of_ble_eq_true rfl⟩ ⟨Nat.le_of_ble_eq_true rfl, Nat.le_of_ble_eq_true rfl⟩ hN 0 rfl rfl rfl ([]) (wHp cI b_p b_words_p b_roots_p b_heads_p b_marks_p b_order_p b_targets_p b_words b_roots b_base b_top b_heads b_objects b_marks b_order b_reached b_targets) rfl (fun _ => rfl) rfl (Nat.le_of_ble_eq_true rfl) rfl dX2_readInto_20 (cells' := 0) (slots' := 0) rfl rfl (fun u hp => ?_)
  subst hp
  refine g_ws (ws' := wRd cI a_p ai_p o2.1 o2.2.1 o2.2.2 (0 : Int32) ++ wBy cI ai_p ai_row_p ai_row ai_size ++ wHp cI b_p b_words_p b_roots_p b_heads_p b_marks_p b_order_p b_targets_p b_words b_roots b_base b_top b_heads b_objects b_marks b_order b_reached b_targets) rfl ?_
  refine g_iconst (v := 0) F dX2_readInto_23 rfl ?_
  refine g_istore_n (lv' := [(2, .int (0 : Int32)), (0, .ref a_p), (1, .ref b_p)]) F dX2_readInto_24 rfl (by decide) rfl ?_
  obtain ⟨o7, ho7, hf⟩ := bnE hf
  refine g_lv [1, 2, 0] rfl ?_
  refine w_X2_readInto_L25 F hN FU _ _ _ _ _ o7 ho7 ?_
  refine g_iconst (v := 0) F dX2_readInto_55 rfl ?_
  refine g_istore_n (lv' := [(2, .int (0 : Int32)), (0, .ref a_p), (1, .ref b_p)]) F dX2_readInto_56 rfl (by decide) rfl ?_
  obtain ⟨o13, ho13, hf⟩ := bnE hf
  refine g_lv [1, 2, 0] rfl ?_
  refine w_X2_readInto_L57 F hN FU _ _ _ _ _ _ o13 ho13 ?_
  refine g_aload_n F dX2_readInto_95 rfl 0 rfl ?_
  obtain ⟨o14, ho14, hf⟩ := bnE hf
  refine g_callPv (n := 0) (As := []) F (c_X2_readSum l dC dI cI cJ cH a_p ai_p ai_row_p o13.1 o13.2.1 o2.2.2 o13.2.2.1 ai_row ai_size o14 ho14) ggX2_readInto_X2_readSum rfl rfl rfl (by decide +kernel) (by decide +kernel) (by decide +kernel) (by decide +kernel) (by decide +kernel) ⟨Nat.le_of_ble_eq_true rfl, Nat.le_of_ble_eq_true rfl⟩ ⟨Nat.le_of_ble_eq_true rfl, Nat.le_of_ble_eq_true rfl⟩ hN 0 rfl rfl rfl ([]) (wHp cI b_p b_words_p b_roots_p b_heads_p b_marks_p b_order_p b_targets_p o13.2.2.2.1 o7.2.2.2 b_base o13.2.2.2.2 b_heads b_objects b_marks b_order b_reached b_targets) rfl (fun _ => rfl) rfl (Nat.le_of_ble_eq_true rfl) rfl dX2_readInto_96 (cells' := 0) (slots' := 0) rfl rfl (fun u hp => ?_)
  subst hp
  refine g_ws (ws' := wRd cI a_p ai_p o14.1 o14.2 o2.2.2 o13.2.2.1 ++ wBy cI ai_p ai_row_p ai_row ai_size ++ wHp cI b_p b_words_p b_roots_p b_heads_p b_marks_p b_order_p b_targets_p o13.2.2.2.1 o7.2.2.2 b_base o13.2.2.2.2 b_heads b_objects b_marks b_order b_reached b_targets) rfl ?_
  refine g_aload_n F dX2_readInto_99 rfl 0 rfl ?_
  refine g_get F h_X2_readInto_2 0 rfl rfl 1 (by decide) (by decide +kernel) rfl dX2_readInto_100 ?_
  refine g_aload_n F dX2_readInto_103 rfl 0 rfl ?_
  refine g_get F h_X2_readInto_2 0 rfl rfl 0 (by decide) (by decide +kernel) rfl dX2_readInto_104 ?_
  refine g_getN (host := "HeapImages") F h_X2_readInto_0 1 rfl rfl 1 (by decide) (hN _ (by decide +kernel)) rfl dX2_readInto_107 ?_
  obtain ⟨j15, hj15, hf⟩ := bnE hf
  have Kj15 : gW p l e rm_X2_readInto s m args below meth c 0 0 Q (dC, dI) vwCl A 4 (wRd cI a_p ai_p o14.1 j15 o2.2.2 o13.2.2.1 ++ wBy cI ai_p ai_row_p ai_row ai_size ++ wHp cI b_p b_words_p b_roots_p b_heads_p b_marks_p b_order_p b_targets_p o13.2.2.2.1 o7.2.2.2 b_base o13.2.2.2.2 b_heads b_objects b_marks b_order b_reached b_targets) [(0, .ref a_p), (1, .ref b_p)] 121 [] := by
    refine g_aload_n F dX2_readInto_121 rfl 0 rfl ?_
    obtain ⟨o16, ho16, hf⟩ := bnE hf
    refine g_callPi (n := 0) (As := []) F (c_X2_goesOn l dC dI cI cJ cH a_p ai_p ai_row_p o14.1 j15 o2.2.2 o13.2.2.1 ai_row ai_size o16 ho16) ggX2_readInto_X2_goesOn rfl rfl rfl (by decide +kernel) (by decide +kernel) (by decide +kernel) (by decide +kernel) (by decide +kernel) ⟨Nat.le_of_ble_eq_true rfl, Nat.le_of_ble_eq_true rfl⟩ ⟨Nat.le_of_ble_eq_true rfl, Nat.le_of_ble_eq_true rfl⟩ hN 0 rfl rfl rfl ([]) (wHp cI b_p b_words_p b_roots_p b_heads_p b_marks_p b_order_p b_targets_p o13.2.2.2.1 o7.2.2.2 b_base o13.2.2.2.2 b_heads b_objects b_marks b_order b_reached b_targets) rfl (fun _ => rfl) rfl (Nat.le_of_ble_eq_true rfl) rfl dX2_readInto_122 (cells' := 0) (slots' := 0) rfl rfl (fun r u hp => ?_)
    subst hp
    refine g_ws (ws' := wRd cI a_p ai_p o14.1 j15 o2.2.2 o13.2.2.1 ++ wBy cI ai_p ai_row_p ai_row ai_size ++ wHp cI b_p b_words_p b_roots_p b_heads_p b_marks_p b_order_p b_targets_p o13.2.2.2.1 o7.2.2.2 b_base o13.2.2.2.2 b_heads b_objects b_marks b_order b_reached b_targets) rfl ?_
    refine g_if_ne (tgt := 135) F dX2_readInto_125 (by decide) (fun c125 => ?_) (fun c125 => ?_)
    · have hf := iteF hf c125
      refine g_aload_n F dX2_readInto_135 rfl 1 rfl ?_
      obtain ⟨o17, ho17, hf⟩ := bnE hf
      refine g_callPv (n := 0) (As := []) F (c_X1_resolveReferences l dC dI cI cJ cH b_p b_words_p b_roots_p b_heads_p b_marks_p b_order_p b_targets_p o13.2.2.2.1 o7.2.2.2 b_base o13.2.2.2.2 b_heads b_objects b_marks b_order b_reached b_targets o17 ho17) ggX2_readInto_X1_resolveReferences rfl rfl rfl (by decide +kernel) (by decide +kernel) (by decide +kernel) (by decide +kernel) (by decide +kernel) ⟨Nat.le_of_ble_eq_true rfl, Nat.le_of_ble_eq_true rfl⟩ ⟨Nat.le_of_ble_eq_true rfl, Nat.le_of_ble_eq_true rfl⟩ hN 3 rfl rfl rfl (wRd cI a_p ai_p o14.1 j15 o2.2.2 o13.2.2.1 ++ wBy cI ai_p ai_row_p ai_row ai_size) ([]) rfl (fun _ => rfl) rfl (Nat.le_of_ble_eq_true rfl) rfl dX2_readInto_136 (cells' := 0) (slots' := 0) rfl rfl (fun u hp => ?_)
      subst hp
      refine g_ws (ws' := wRd cI a_p ai_p o14.1 j15 o2.2.2 o13.2.2.1 ++ wBy cI ai_p ai_row_p ai_row ai_size ++ wHp cI b_p b_words_p b_roots_p b_heads_p b_marks_p b_order_p b_targets_p o17.1 o17.2.1 b_base o13.2.2.2.2 o17.2.2.1 o17.2.2.2.1 o17.2.2.2.2 b_order b_reached b_targets) rfl ?_
      refine g_aload_n F dX2_readInto_139 rfl 0 rfl ?_
      refine g_get F h_X2_readInto_2 0 rfl rfl 3 (by decide) (by decide +kernel) rfl dX2_readInto_140 ?_
      subst hQ
      exact g_iret F hlocks hr (o14.1, j15, o2.2.2, o13.2.2.1, o17.1, o17.2.1, o13.2.2.2.2, o17.2.2.1, o17.2.2.2.1, o17.2.2.2.2) rfl (pr2 (Option.some.inj hf)) dX2_readInto_143
    · have hf := iteT hf c125
      refine g_iconst (v := -1) F dX2_readInto_128 rfl ?_
      refine g_aload_n F dX2_readInto_129 rfl 0 rfl ?_
      refine g_get F h_X2_readInto_2 0 rfl rfl 2 (by decide) (by decide +kernel) rfl dX2_readInto_130 ?_
      refine g_isub F dX2_readInto_133 ?_
      subst hQ
      exact g_iret F hlocks hr (o14.1, j15, o2.2.2, o13.2.2.1, o13.2.2.2.1, o7.2.2.2, o13.2.2.2.2, b_heads, b_objects, b_marks) rfl (pr2 (Option.some.inj hf)) dX2_readInto_134
  clear hf
  have hf := hj15
  refine g_icmp_ge (tgt := 121) F dX2_readInto_110 (by decide) (fun c110 => ?_) (fun c110 => ?_)
  · have hf := iteT hf c110
    cases hf
    refine g_lv [0, 1] rfl ?_
    exact Kj15
  · have hf := iteF hf c110
    refine g_aload_n F dX2_readInto_113 rfl 0 rfl ?_
    refine g_aload_n F dX2_readInto_114 rfl 0 rfl ?_
    refine g_get F h_X2_readInto_2 0 rfl rfl 1 (by decide) (by decide +kernel) rfl dX2_readInto_115 ?_
    obtain ⟨o18, ho18, hf⟩ := bnE hf
    refine g_callPv (n := 1) (As := [.int o14.1]) F (c_X2_endAt l dC dI cI cJ cH a_p ai_p ai_row_p o14.1 o14.2 o2.2.2 o13.2.2.1 ai_row ai_size o14.1 o18 ho18) ggX2_readInto_X2_endAt rfl rfl rfl (by decide +kernel) (by decide +kernel) (by decide +kernel) (by decide +kernel) (by decide +kernel) ⟨Nat.le_of_ble_eq_true rfl, Nat.le_of_ble_eq_true rfl⟩ ⟨Nat.le_of_ble_eq_true rfl, Nat.le_of_ble_eq_true rfl⟩ hN 0 rfl rfl rfl ([]) (wHp cI b_p b_words_p b_roots_p b_heads_p b_marks_p b_order_p b_targets_p o13.2.2.2.1 o7.2.2.2 b_base o13.2.2.2.2 b_heads b_objects b_marks b_order b_reached b_targets) rfl (fun _ => rfl) rfl (Nat.le_of_ble_eq_true rfl) rfl dX2_readInto_118 (cells' := 0) (slots' := 0) rfl rfl (fun u hp => ?_)
    subst hp
    refine g_ws (ws' := wRd cI a_p ai_p o14.1 o18 o2.2.2 o13.2.2.1 ++ wBy cI ai_p ai_row_p ai_row ai_size ++ wHp cI b_p b_words_p b_roots_p b_heads_p b_marks_p b_order_p b_targets_p o13.2.2.2.1 o7.2.2.2 b_base o13.2.2.2.2 b_heads b_objects b_marks b_order b_reached b_targets) rfl ?_
    cases hf
    refine g_lv [0, 1] rfl ?_
    exact Kj15
