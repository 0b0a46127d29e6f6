abbrev gT (cI cJ cH : ClassId) : List (ClassId × FieldType) := [(cI, .int), (cJ, .long), (cH, .object "HeapImages$Heap")]
abbrev wAr (cI : ClassId) (p n : Nat) (row : Nat → Int32) : va_W := [(p, .inl (cI, n, .inl row))]
abbrev wBy (cI : ClassId) (p row_p : Nat) (row_c : Nat → Int32) (size_c : Int32) : va_W := [(p, .inr (0, [.ref row_p, .int size_c])), (row_p, .inl (cI, 2000, .inl row_c))]
abbrev wHp (cI : ClassId) (p words_p roots_p heads_p marks_p order_p targets_p : Nat) (words_c : Nat → Int32) (roots_c : Nat → Int32) (base_c : Int32) (top_c : Int32) (heads_c : Nat → Int32) (objects_c : Int32) (marks_c : Nat → Int32) (order_c : Nat → Int32) (reached_c : Int32) (targets_c : Nat → Int32) : va_W := [(p, .inr (1, [.ref words_p, .ref roots_p, .int base_c, .int top_c, .ref heads_p, .int objects_c, .ref marks_p, .ref order_p, .int reached_c, .ref targets_p])), (words_p, .inl (cI, 256, .inl words_c)), (roots_p, .inl (cI, 4, .inl roots_c)), (heads_p, .inl (cI, 256, .inl heads_c)), (marks_p, .inl (cI, 256, .inl marks_c)), (order_p, .inl (cI, 256, .inl order_c)), (targets_p, .inl (cI, 256, .inl targets_c))]
abbrev wRd (cI : ClassId) (p input_r : Nat) (place_c : Int32) (end_c : Int32) (objects_c : Int32) (toldObjects_c : Int32) : va_W := [(p, .inr (2, [.ref input_r, .int place_c, .int end_c, .int objects_c, .int toldObjects_c]))]
abbrev wMd (cI : ClassId) (p bases_p tops_p words_p roots_p order_p numbers_p image_p other_p input_p fresh_p freshRoots_p heads_p kept_p : Nat) (thrown_c : Int32) (bases_c : Nat → Int32) (tops_c : Nat → Int32) (words_c : Nat → Int32) (roots_c : Nat → Int32) (reached_c : Int32) (order_c : Nat → Int32) (numbers_c : Nat → Int32) (size_c : Int32) (image_c : Nat → Int32) (otherSize_c : Int32) (other_c : Nat → Int32) (waiting_c : Int32) (input_c : Nat → Int32) (at_c : Int32) (ended_c : Int32) (told_c : Int32) (many_c : Int32) (fresh_c : Nat → Int32) (freshRoots_c : Nat → Int32) (heads_c : Nat → Int32) (count_c : Int64) (kept_c : Nat → Int32) : va_W := [(p, .inr (4, [.int thrown_c, .ref bases_p, .ref tops_p, .ref words_p, .ref roots_p, .int reached_c, .ref order_p, .ref numbers_p, .int size_c, .ref image_p, .int otherSize_c, .ref other_p, .int waiting_c, .ref input_p, .int at_c, .int ended_c, .int told_c, .int many_c, .ref fresh_p, .ref freshRoots_p, .ref heads_p, .long count_c, .ref kept_p])), (bases_p, .inl (cI, 2, .inl bases_c)), (tops_p, .inl (cI, 2, .inl tops_c)), (words_p, .inl (cI, 512, .inl words_c)), (roots_p, .inl (cI, 8, .inl roots_c)), (order_p, .inl (cI, 256, .inl order_c)), (numbers_p, .inl (cI, 256, .inl numbers_c)), (image_p, .inl (cI, 3000, .inl image_c)), (other_p, .inl (cI, 3000, .inl other_c)), (input_p, .inl (cI, 2000, .inl input_c)), (fresh_p, .inl (cI, 256, .inl fresh_c)), (freshRoots_p, .inl (cI, 4, .inl freshRoots_c)), (heads_p, .inl (cI, 256, .inl heads_c)), (kept_p, .inl (cI, 3000, .inl kept_c))]
def FU : Nat := 5000
/-! HeapImages.kindOf(I)I -/
def rm_X3_kindOf : Room := { frames := 0, cells := 0, slots := 0, locals := 0 }
def f_X3_kindOf (x0 : Int32) : Option Int32 :=
  some (x0 / (64 : Int32))
set_option maxHeartbeats 4000000 in
set_option maxRecDepth 100000 in
theorem c_X3_kindOf (l : Launch) (dC : Nat → ClassId) (dI : Nat → Nat → Nat) (cI cJ cH : ClassId)    (x0 : Int32) (o : Int32) (hf : f_X3_kindOf x0 = some o) : ∀ sz : Nat, Met l yX3_kindOf wsX3_kindOf rm_X3_kindOf (gPre [.int x0] (dC, dI) vwCl (gT cI cJ cH) ([]) sz) (va_Qi (fun (r : Int32) (u : Unit) => o = r) (gB (dC, dI) vwCl (gT cI cJ cH) (fun (u : Unit) => []) (va_A ([]) sz)) (va_A ([]) sz)) 0 0 (va_A ([]) sz) := by
  refine g_met (fun A => va_Qi (fun (r : Int32) (u : Unit) => o = r) (gB (dC, dI) vwCl (gT cI cJ cH) (fun (u : Unit) => []) A) A) (by decide) rfl (Nat.le_of_ble_eq_true rfl) ?_
  intro p e s m args below meth c A Q F hlocks hr hname hN hQ
  unfold f_X3_kindOf at hf
  refine g_lvE (lv' := [(0, .int x0)]) rfl ?_
  refine g_iload_n F dX3_kindOf_0 rfl 0 rfl ?_
  refine g_bipush (v := 64) F dX3_kindOf_1 rfl ?_
  refine g_idiv F dX3_kindOf_3 (by decide) ?_
  subst hQ
  exact g_iret F hlocks hr () rfl (Option.some.inj hf).symm dX3_kindOf_4

/-! HeapImages.slotsOf(I)I -/
def rm_X3_slotsOf : Room := { frames := 0, cells := 0, slots := 0, locals := 0 }
def f_X3_slotsOf (x0 : Int32) : Option Int32 :=
  some (x0 - x0 / (64 : Int32) * (64 : Int32))
set_option maxHeartbeats 4000000 in
set_option maxRecDepth 100000 in
theorem c_X3_slotsOf (l : Launch) (dC : Nat → ClassId) (dI : Nat → Nat → Nat) (cI cJ cH : ClassId)    (x0 : Int32) (o : Int32) (hf : f_X3_slotsOf x0 = some o) : ∀ sz : Nat, Met l yX3_slotsOf wsX3_slotsOf rm_X3_slotsOf (gPre [.int x0] (dC, dI) vwCl (gT cI cJ cH) ([]) sz) (va_Qi (fun (r : Int32) (u : Unit) => o = r) (gB (dC, dI) vwCl (gT cI cJ cH) (fun (u : Unit) => []) (va_A ([]) sz)) (va_A ([]) sz)) 0 0 (va_A ([]) sz) := by
  refine g_met (fun A => va_Qi (fun (r : Int32) (u : Unit) => o = r) (gB (dC, dI) vwCl (gT cI cJ cH) (fun (u : Unit) => []) A) A) (by decide) rfl (Nat.le_of_ble_eq_true rfl) ?_
  intro p e s m args below meth c A Q F hlocks hr hname hN hQ
  unfold f_X3_slotsOf at hf
  refine g_lvE (lv' := [(0, .int x0)]) rfl ?_
  refine g_iload_n F dX3_slotsOf_0 rfl 0 rfl ?_
  refine g_bipush (v := 64) F dX3_slotsOf_1 rfl ?_
  refine g_irem F dX3_slotsOf_3 (by decide) ?_
  subst hQ
  exact g_iret F hlocks hr () rfl (Option.some.inj hf).symm dX3_slotsOf_4

/-! HeapImages.mayHaveSlots(JJ)Z -/
def rm_X3_mayHaveSlots : Room := { frames := 0, cells := 0, slots := 0, locals := 0 }
def f_X3_mayHaveSlots (x0 : Int64) (x1 : Int64) : Option Int32 :=
  if (lg_cmp x0 (3 : Int64)) = 0 then if (lg_cmp x1 (2 : Int64)) = 0 then some (1 : Int32) else some (0 : Int32) else if (lg_cmp x0 (1 : Int64)) = 0 then if (lg_cmp x1 (0 : Int64)) < 0 then some (0 : Int32) else if 0 < (lg_cmp x1 (40 : Int64)) then some (0 : Int32) else some (1 : Int32) else if (lg_cmp x0 (2 : Int64)) = 0 then if (lg_cmp x1 (0 : Int64)) < 0 then some (0 : Int32) else if 0 < (lg_cmp x1 (40 : Int64)) then some (0 : Int32) else some (1 : Int32) else some (0 : Int32)
set_option maxHeartbeats 4000000 in
set_option maxRecDepth 100000 in
theorem c_X3_mayHaveSlots (l : Launch) (dC : Nat → ClassId) (dI : Nat → Nat → Nat) (cI cJ cH : ClassId)    (x0 : Int64) (x1 : Int64) (o : Int32) (hf : f_X3_mayHaveSlots x0 x1 = some o) : ∀ sz : Nat, Met l yX3_mayHaveSlots wsX3_mayHaveSlots rm_X3_mayHaveSlots (gPre [.long x0, .long x1] (dC, dI) vwCl (gT cI cJ cH) ([]) sz) (va_Qi (fun (r : Int32) (u : Unit) => o = r) (gB (dC, dI) vwCl (gT cI cJ cH) (fun (u : Unit) => []) (va_A ([]) sz)) (va_A ([]) sz)) 0 0 (va_A ([]) sz) := by
  refine g_met (fun A => va_Qi (fun (r : Int32) (u : Unit) => o = r) (gB (dC, dI) vwCl (gT cI cJ cH) (fun (u : Unit) => []) A) A) (by decide) rfl (Nat.le_of_ble_eq_true rfl) ?_
  intro p e s m args below meth c A Q F hlocks hr hname hN hQ
  unfold f_X3_mayHaveSlots at hf
  refine g_lvE (lv' := [(0, .long x0), (2, .long x1)]) rfl ?_
  refine g_lload_n F dX3_mayHaveSlots_0 rfl 0 rfl ?_
  refine g_ldc2 (v := 3) F (by decide +kernel) dX3_mayHaveSlots_1 ?_
  refine g_lcmp F dX3_mayHaveSlots_4 ?_
  refine g_if_ne (tgt := 22) F dX3_mayHaveSlots_5 (by decide) (fun c5 => ?_) (fun c5 => ?_)
  · have hf := iteF hf c5
    refine g_lload_n F dX3_mayHaveSlots_22 rfl 0 rfl ?_
    refine g_lconst (v := 1) F dX3_mayHaveSlots_23 rfl ?_
    refine g_lcmp F dX3_mayHaveSlots_24 ?_
    refine g_if_eq (tgt := 36) F dX3_mayHaveSlots_25 (by decide) (fun c25 => ?_) (fun c25 => ?_)
    · have hf := iteT hf c25
      refine g_lload_n F dX3_mayHaveSlots_36 rfl 1 rfl ?_
      refine g_lconst (v := 0) F dX3_mayHaveSlots_37 rfl ?_
      refine g_lcmp F dX3_mayHaveSlots_38 ?_
      refine g_if_lt (tgt := 54) F dX3_mayHaveSlots_39 (by decide) (fun c39 => ?_) (fun c39 => ?_)
      · have hf := iteT hf c39
        refine g_iconst (v := 0) F dX3_mayHaveSlots_54 rfl ?_
        subst hQ
        exact g_zret F hlocks hr rfl () rfl (Option.some.inj hf).symm dX3_mayHaveSlots_55
      · have hf := iteF hf c39
        refine g_lload_n F dX3_mayHaveSlots_42 rfl 1 rfl ?_
        refine g_ldc2 (v := 40) F (by decide +kernel) dX3_mayHaveSlots_43 ?_
        refine g_lcmp F dX3_mayHaveSlots_46 ?_
        refine g_if_gt (tgt := 54) F dX3_mayHaveSlots_47 (by decide) (fun c47 => ?_) (fun c47 => ?_)
        · have hf := iteT hf c47
          refine g_iconst (v := 0) F dX3_mayHaveSlots_54 rfl ?_
          subst hQ
          exact g_zret F hlocks hr rfl () rfl (Option.some.inj hf).symm dX3_mayHaveSlots_55
        · have hf := iteF hf c47
          refine g_iconst (v := 1) F dX3_mayHaveSlots_50 rfl ?_
          refine g_goto (tgt := 55) F dX3_mayHaveSlots_51 (by decide) ?_
          subst hQ
          exact g_zret F hlocks hr rfl () rfl (Option.some.inj hf).symm dX3_mayHaveSlots_55
    · have hf := iteF hf c25
      refine g_lload_n F dX3_mayHaveSlots_28 rfl 0 rfl ?_
      refine g_ldc2 (v := 2) F (by decide +kernel) dX3_mayHaveSlots_29 ?_
      refine g_lcmp F dX3_mayHaveSlots_32 ?_
      refine g_if_ne (tgt := 54) F dX3_mayHaveSlots_33 (by decide) (fun c33 => ?_) (fun c33 => ?_)
      · have hf := iteF hf c33
        refine g_iconst (v := 0) F dX3_mayHaveSlots_54 rfl ?_
        subst hQ
        exact g_zret F hlocks hr rfl () rfl (Option.some.inj hf).symm dX3_mayHaveSlots_55
      · have hf := iteT hf c33
        refine g_lload_n F dX3_mayHaveSlots_36 rfl 1 rfl ?_
        refine g_lconst (v := 0) F dX3_mayHaveSlots_37 rfl ?_
        refine g_lcmp F dX3_mayHaveSlots_38 ?_
        refine g_if_lt (tgt := 54) F dX3_mayHaveSlots_39 (by decide) (fun c39 => ?_) (fun c39 => ?_)
        · have hf := iteT hf c39
          refine g_iconst (v := 0) F dX3_mayHaveSlots_54 rfl ?_
          subst hQ
          exact g_zret F hlocks hr rfl () rfl (Option.some.inj hf).symm dX3_mayHaveSlots_55
        · have hf := iteF hf c39
          refine g_lload_n F dX3_mayHaveSlots_42 rfl 1 rfl ?_
          refine g_ldc2 (v := 40) F (by decide +kernel) dX3_mayHaveSlots_43 ?_
          refine g_lcmp F dX3_mayHaveSlots_46 ?_
          refine g_if_gt (tgt := 54) F dX3_mayHaveSlots_47 (by decide) (fun c47 => ?_) (fun c47 => ?_)
          · have hf := iteT hf c47
            refine g_iconst (v := 0) F dX3_mayHaveSlots_54 rfl ?_
            subst hQ
            exact g_zret F hlocks hr rfl () rfl (Option.some.inj hf).symm dX3_mayHaveSlots_55
          · have hf := iteF hf c47
            refine g_iconst (v := 1) F dX3_mayHaveSlots_50 rfl ?_
            refine g_goto (tgt := 55) F dX3_mayHaveSlots_51 (by decide) ?_
            subst hQ
            exact g_zret F hlocks hr rfl () rfl (Option.some.inj hf).symm dX3_mayHaveSlots_55
  · have hf := iteT hf c5
    refine g_lload_n F dX3_mayHaveSlots_8 rfl 1 rfl ?_
    refine g_ldc2 (v := 2) F (by decide +kernel) dX3_mayHaveSlots_9 ?_
    refine g_lcmp F dX3_mayHaveSlots_12 ?_
    refine g_if_ne (tgt := 20) F dX3_mayHaveSlots_13 (by decide) (fun c13 => ?_) (fun c13 => ?_)
    · have hf := iteF hf c13
      refine g_iconst (v := 0) F dX3_mayHaveSlots_20 rfl ?_
      subst hQ
      exact g_zret F hlocks hr rfl () rfl (Option.some.inj hf).symm dX3_mayHaveSlots_21
    · have hf := iteT hf c13
      refine g_iconst (v := 1) F dX3_mayHaveSlots_16 rfl ?_
      refine g_goto (tgt := 21) F dX3_mayHaveSlots_17 (by decide) ?_
      subst hQ
      exact g_zret F hlocks hr rfl () rfl (Option.some.inj hf).symm dX3_mayHaveSlots_21

/-! HeapImages.isHead(I)Z -/
def rm_X3_isHead : Room := { frames := 1, cells := 0, slots := 0, locals := 23 }
def f_X3_isHead (x0 : Int32) : Option Int32 :=
  if x0 < 0 then some (0 : Int32) else Option.bind (f_X3_kindOf x0) fun o1 => Option.bind (f_X3_slotsOf x0) fun o2 => Option.bind (f_X3_mayHaveSlots o1.toInt64 o2.toInt64) fun o3 => if o3 = 0 then some (0 : Int32) else some (1 : Int32)
set_option maxHeartbeats 4000000 in
set_option maxRecDepth 100000 in
theorem c_X3_isHead (l : Launch) (dC : Nat → ClassId) (dI : Nat → Nat → Nat) (cI cJ cH : ClassId)    (x0 : Int32) (o : Int32) (hf : f_X3_isHead x0 = some o) : ∀ sz : Nat, Met l yX3_isHead wsX3_isHead rm_X3_isHead (gPre [.int x0] (dC, dI) vwCl (gT cI cJ cH) ([]) sz) (va_Qi (fun (r : Int32) (u : Unit) => o = r) (gB (dC, dI) vwCl (gT cI cJ cH) (fun (u : Unit) => []) (va_A ([]) sz)) (va_A ([]) sz)) 0 0 (va_A ([]) sz) := by
  refine g_met (fun A => va_Qi (fun (r : Int32) (u : Unit) => o = r) (gB (dC, dI) vwCl (gT cI cJ cH) (fun (u : Unit) => []) A) A) (by decide) rfl (Nat.le_of_ble_eq_true rfl) ?_
  intro p e s m args below meth c A Q F hlocks hr hname hN hQ
  unfold f_X3_isHead at hf
  refine g_lvE (lv' := [(0, .int x0)]) rfl ?_
  refine g_iload_n F dX3_isHead_0 rfl 0 rfl ?_
  refine g_if_lt (tgt := 24) F dX3_isHead_1 (by decide) (fun c1 => ?_) (fun c1 => ?_)
  · have hf := iteT hf c1
    refine g_iconst (v := 0) F dX3_isHead_24 rfl ?_
    subst hQ
    exact g_zret F hlocks hr rfl () rfl (Option.some.inj hf).symm dX3_isHead_25
  · have hf := iteF hf c1
    refine g_iload_n F dX3_isHead_4 rfl 0 rfl ?_
    obtain ⟨o1, ho1, hf⟩ := bnE hf
    refine g_callSi (n := 1) (As := [.int x0]) F (c_X3_kindOf l dC dI cI cJ cH x0 o1 ho1) ggX3_isHead_X3_kindOf rfl rfl rfl (by decide +kernel) (by decide +kernel) (by decide +kernel) (by decide +kernel) ⟨Nat.le_of_ble_eq_true rfl, Nat.le_of_ble_eq_true rfl⟩ ⟨Nat.le_of_ble_eq_true rfl, Nat.le_of_ble_eq_true rfl⟩ hN [] rfl rfl (fun _ => rfl) rfl (Nat.le_of_ble_eq_true rfl) rfl dX3_isHead_5 (cells' := 0) (slots' := 0) rfl rfl (fun r u hp => ?_)
    subst hp
    refine g_ws (ws' := []) rfl ?_
    refine g_i2l F dX3_isHead_8 ?_
    refine g_iload_n F dX3_isHead_9 rfl 0 rfl ?_
    obtain ⟨o2, ho2, hf⟩ := bnE hf
    refine g_callSi (n := 1) (As := [.int x0]) F (c_X3_slotsOf l dC dI cI cJ cH x0 o2 ho2) ggX3_isHead_X3_slotsOf rfl rfl rfl (by decide +kernel) (by decide +kernel) (by decide +kernel) (by decide +kernel) ⟨Nat.le_of_ble_eq_true rfl, Nat.le_of_ble_eq_true rfl⟩ ⟨Nat.le_of_ble_eq_true rfl, Nat.le_of_ble_eq_true rfl⟩ hN [] rfl rfl (fun _ => rfl) rfl (Nat.le_of_ble_eq_true rfl) rfl dX3_isHead_10 (cells' := 0) (slots' := 0) rfl rfl (fun r u hp => ?_)
    subst hp
    refine g_ws (ws' := []) rfl ?_
    refine g_i2l F dX3_isHead_13 ?_
    obtain ⟨o3, ho3, hf⟩ := bnE hf
    refine g_callSi (n := 2) (As := [.long o1.toInt64, .long o2.toInt64]) F (c_X3_mayHaveSlots l dC dI cI cJ cH o1.toInt64 o2.toInt64 o3 ho3) ggX3_isHead_X3_mayHaveSlots rfl rfl rfl (by decide +kernel) (by decide +kernel) (by decide +kernel) (by decide +kernel) ⟨Nat.le_of_ble_eq_true rfl, Nat.le_of_ble_eq_true rfl⟩ ⟨Nat.le_of_ble_eq_true rfl, Nat.le_of_ble_eq_true rfl⟩ hN [] rfl rfl (fun _ => rfl) rfl (Nat.le_of_ble_eq_true rfl) rfl dX3_isHead_14 (cells' := 0) (slots' := 0) rfl rfl (fun r u hp => ?_)
    subst hp
    refine g_ws (ws' := []) rfl ?_
    refine g_if_eq (tgt := 24) F dX3_isHead_17 (by decide) (fun c17 => ?_) (fun c17 => ?_)
    · have hf := iteT hf c17
      refine g_iconst (v := 0) F dX3_isHead_24 rfl ?_
      subst hQ
      exact g_zret F hlocks hr rfl () rfl (Option.some.inj hf).symm dX3_isHead_25
    · have hf := iteF hf c17
      refine g_iconst (v := 1) F dX3_isHead_20 rfl ?_
      refine g_goto (tgt := 25) F dX3_isHead_21 (by decide) ?_
      subst hQ
      exact g_zret F hlocks hr rfl () rfl (Option.some.inj hf).symm dX3_isHead_25

/-! HeapImages.valuesOf(I)I -/
def rm_X3_valuesOf : Room := { frames := 1, cells := 0, slots := 0, locals := 20 }
def f_X3_valuesOf (x0 : Int32) : Option Int32 :=
  Option.bind (f_X3_kindOf x0) fun o1 => if o1 = (2 : Int32) then some (0 : Int32) else Option.bind (f_X3_slotsOf x0) fun o2 => some o2
set_option maxHeartbeats 4000000 in
set_option maxRecDepth 100000 in
theorem c_X3_valuesOf (l : Launch) (dC : Nat → ClassId) (dI : Nat → Nat → Nat) (cI cJ cH : ClassId)    (x0 : Int32) (o : Int32) (hf : f_X3_valuesOf x0 = some o) : ∀ sz : Nat, Met l yX3_valuesOf wsX3_valuesOf rm_X3_valuesOf (gPre [.int x0] (dC, dI) vwCl (gT cI cJ cH) ([]) sz) (va_Qi (fun (r : Int32) (u : Unit) => o = r) (gB (dC, dI) vwCl (gT cI cJ cH) (fun (u : Unit) => []) (va_A ([]) sz)) (va_A ([]) sz)) 0 0 (va_A ([]) sz) := by
  refine g_met (fun A => va_Qi (fun (r : Int32) (u : Unit) => o = r) (gB (dC, dI) vwCl (gT cI cJ cH) (fun (u : Unit) => []) A) A) (by decide) rfl (Nat.le_of_ble_eq_true rfl) ?_
  intro p e s m args below meth c A Q F hlocks hr hname hN hQ
  unfold f_X3_valuesOf at hf
  refine g_lvE (lv' := [(0, .int x0)]) rfl ?_
  refine g_iload_n F dX3_valuesOf_0 rfl 0 rfl ?_
  obtain ⟨o1, ho1, hf⟩ := bnE hf
  refine g_callSi (n := 1) (As := [.int x0]) F (c_X3_kindOf l dC dI cI cJ cH x0 o1 ho1) ggX3_valuesOf_X3_kindOf rfl rfl rfl (by decide +kernel) (by decide +kernel) (by decide +kernel) (by decide +kernel) ⟨Nat.le_of_ble_eq_true rfl, Nat.le_of_ble_eq_true rfl⟩ ⟨Nat.le_of_ble_eq_true rfl, Nat.le_of_ble_eq_true rfl⟩ hN [] rfl rfl (fun _ => rfl) rfl (Nat.le_of_ble_eq_true rfl) rfl dX3_valuesOf_1 (cells' := 0) (slots' := 0) rfl rfl (fun r u hp => ?_)
  subst hp
  refine g_ws (ws' := []) rfl ?_
  refine g_iconst (v := 2) F dX3_valuesOf_4 rfl ?_
  refine g_icmp_ne (tgt := 12) F dX3_valuesOf_5 (by decide) (fun c5 => ?_) (fun c5 => ?_)
  · have hf := iteF hf c5
    refine g_iload_n F dX3_valuesOf_12 rfl 0 rfl ?_
    obtain ⟨o2, ho2, hf⟩ := bnE hf
    refine g_callSi (n := 1) (As := [.int x0]) F (c_X3_slotsOf l dC dI cI cJ cH x0 o2 ho2) ggX3_valuesOf_X3_slotsOf rfl rfl rfl (by decide +kernel) (by decide +kernel) (by decide +kernel) (by decide +kernel) ⟨Nat.le_of_ble_eq_true rfl, Nat.le_of_ble_eq_true rfl⟩ ⟨Nat.le_of_ble_eq_true rfl, Nat.le_of_ble_eq_true rfl⟩ hN [] rfl rfl (fun _ => rfl) rfl (Nat.le_of_ble_eq_true rfl) rfl dX3_valuesOf_13 (cells' := 0) (slots' := 0) rfl rfl (fun r u hp => ?_)
    subst hp
    refine g_ws (ws' := []) rfl ?_
    subst hQ
    exact g_iret F hlocks hr () rfl (Option.some.inj hf).symm dX3_valuesOf_16
  · have hf := iteT hf c5
    refine g_iconst (v := 0) F dX3_valuesOf_8 rfl ?_
    refine g_goto (tgt := 16) F dX3_valuesOf_9 (by decide) ?_
    subst hQ
    exact g_iret F hlocks hr () rfl (Option.some.inj hf).symm dX3_valuesOf_16

/-! HeapImages.isNumber(I)Z -/
def rm_X3_isNumber : Room := { frames := 0, cells := 0, slots := 0, locals := 0 }
def f_X3_isNumber (x0 : Int32) : Option Int32 :=
  if (x0 &&& (1 : Int32)) = 0 then some (0 : Int32) else some (1 : Int32)
set_option maxHeartbeats 4000000 in
set_option maxRecDepth 100000 in
theorem c_X3_isNumber (l : Launch) (dC : Nat → ClassId) (dI : Nat → Nat → Nat) (cI cJ cH : ClassId)    (x0 : Int32) (o : Int32) (hf : f_X3_isNumber x0 = some o) : ∀ sz : Nat, Met l yX3_isNumber wsX3_isNumber rm_X3_isNumber (gPre [.int x0] (dC, dI) vwCl (gT cI cJ cH) ([]) sz) (va_Qi (fun (r : Int32) (u : Unit) => o = r) (gB (dC, dI) vwCl (gT cI cJ cH) (fun (u : Unit) => []) (va_A ([]) sz)) (va_A ([]) sz)) 0 0 (va_A ([]) sz) := by
  refine g_met (fun A => va_Qi (fun (r : Int32) (u : Unit) => o = r) (gB (dC, dI) vwCl (gT cI cJ cH) (fun (u : Unit) => []) A) A) (by decide) rfl (Nat.le_of_ble_eq_true rfl) ?_
  intro p e s m args below meth c A Q F hlocks hr hname hN hQ
  unfold f_X3_isNumber at hf
  refine g_lvE (lv' := [(0, .int x0)]) rfl ?_
  refine g_iload_n F dX3_isNumber_0 rfl 0 rfl ?_
  refine g_iconst (v := 1) F dX3_isNumber_1 rfl ?_
  refine g_iand F dX3_isNumber_2 ?_
  refine g_if_eq (tgt := 10) F dX3_isNumber_3 (by decide) (fun c3 => ?_) (fun c3 => ?_)
  · have hf := iteT hf c3
    refine g_iconst (v := 0) F dX3_isNumber_10 rfl ?_
    subst hQ
    exact g_zret F hlocks hr rfl () rfl (Option.some.inj hf).symm dX3_isNumber_11
  · have hf := iteF hf c3
    refine g_iconst (v := 1) F dX3_isNumber_6 rfl ?_
    refine g_goto (tgt := 11) F dX3_isNumber_7 (by decide) ?_
    subst hQ
    exact g_zret F hlocks hr rfl () rfl (Option.some.inj hf).symm dX3_isNumber_11
