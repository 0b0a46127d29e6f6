/-! HeapImagesModel.thrown()I -/
def rm_X4_thrown : Room := { frames := 0, cells := 0, slots := 0, locals := 0 }
theorem h_X4_thrown_4 : ∀ w ∈ wsX40, w ∈ wsX4_thrown := by decide +kernel
def f_X4_thrown (a_thrown : Int32) : Option Int32 :=
  some a_thrown
set_option maxHeartbeats 4000000 in
set_option maxRecDepth 100000 in
theorem c_X4_thrown (l : Launch) (dC : Nat → ClassId) (dI : Nat → Nat → Nat) (cI cJ cH : ClassId) (a_p a_bases_p a_tops_p a_words_p a_roots_p a_order_p a_numbers_p a_image_p a_other_p a_input_p a_fresh_p a_freshRoots_p a_heads_p a_kept_p : Nat)  (a_thrown : Int32) (a_bases : (Nat → Int32)) (a_tops : (Nat → Int32)) (a_words : (Nat → Int32)) (a_roots : (Nat → Int32)) (a_reached : Int32) (a_order : (Nat → Int32)) (a_numbers : (Nat → Int32)) (a_size : Int32) (a_image : (Nat → Int32)) (a_otherSize : Int32) (a_other : (Nat → Int32)) (a_waiting : Int32) (a_input : (Nat → Int32)) (a_at : Int32) (a_ended : Int32) (a_told : Int32) (a_many : Int32) (a_fresh : (Nat → Int32)) (a_freshRoots : (Nat → Int32)) (a_heads : (Nat → Int32)) (a_count : Int64) (a_kept : (Nat → Int32))  (o : Int32) (hf : f_X4_thrown a_thrown = some o) : ∀ sz : Nat, Met l yX4_thrown wsX4_thrown rm_X4_thrown (gPre [.ref a_p] (dC, dI) vwCl (gT cI cJ cH) (wMd cI a_p a_bases_p a_tops_p a_words_p a_roots_p a_order_p a_numbers_p a_image_p a_other_p a_input_p a_fresh_p a_freshRoots_p a_heads_p a_kept_p a_thrown a_bases a_tops a_words a_roots a_reached a_order a_numbers a_size a_image a_otherSize a_other a_waiting a_input a_at a_ended a_told a_many a_fresh a_freshRoots a_heads a_count a_kept) sz) (va_Qi (fun (r : Int32) (u : Unit) => o = r) (gB (dC, dI) vwCl (gT cI cJ cH) (fun (u : Unit) => wMd cI a_p a_bases_p a_tops_p a_words_p a_roots_p a_order_p a_numbers_p a_image_p a_other_p a_input_p a_fresh_p a_freshRoots_p a_heads_p a_kept_p a_thrown a_bases a_tops a_words a_roots a_reached a_order a_numbers a_size a_image a_otherSize a_other a_waiting a_input a_at a_ended a_told a_many a_fresh a_freshRoots a_heads a_count a_kept) (va_A (wMd cI a_p a_bases_p a_tops_p a_words_p a_roots_p a_order_p a_numbers_p a_image_p a_other_p a_input_p a_fresh_p a_freshRoots_p a_heads_p a_kept_p a_thrown a_bases a_tops a_words a_roots a_reached a_order a_numbers a_size a_image a_otherSize a_other a_waiting a_input a_at a_ended a_told a_many a_fresh a_freshRoots a_heads a_count a_kept) sz)) (va_A (wMd cI a_p a_bases_p a_tops_p a_words_p a_roots_p a_order_p a_numbers_p a_image_p a_other_p a_input_p a_fresh_p a_freshRoots_p a_heads_p a_kept_p a_thrown a_bases a_tops a_words a_roots a_reached a_order a_numbers a_size a_image a_otherSize a_other a_waiting a_input a_at a_ended a_told a_many a_fresh a_freshRoots a_heads a_count a_kept) sz)) 0 0 (va_A (wMd cI a_p a_bases_p a_tops_p a_words_p a_roots_p a_order_p a_numbers_p a_image_p a_other_p a_input_p a_fresh_p a_freshRoots_p a_heads_p a_kept_p a_thrown a_bases a_tops a_words a_roots a_reached a_order a_numbers a_size a_image a_otherSize a_other a_waiting a_input a_at a_ended a_told a_many a_fresh a_freshRoots a_heads a_count a_kept) sz) := by
  refine g_met (fun A => va_Qi (fun (r : Int32) (u : Unit) => o = r) (gB (dC, dI) vwCl (gT cI cJ cH) (fun (u : Unit) => wMd cI a_p a_bases_p a_tops_p a_words_p a_roots_p a_order_p a_numbers_p a_image_p a_other_p a_input_p a_fresh_p a_freshRoots_p a_heads_p a_kept_p a_thrown a_bases a_tops a_words a_roots a_reached a_order a_numbers a_size a_image a_otherSize a_other a_waiting a_input a_at a_ended a_told a_many a_fresh a_freshRoots a_heads a_count a_kept) A) A) (by decide) rfl (Nat.le_of_ble_eq_true rfl) ?_
  intro p e s m args below meth c A Q F hlocks hr hname hN hQ
  unfold f_X4_thrown at hf
  refine g_lvE (lv' := [(0, .ref a_p)]) rfl ?_
  refine g_aload_n F dX4_thrown_0 rfl 0 rfl ?_
  refine g_get F h_X4_thrown_4 0 rfl rfl 0 (by decide) (by decide +kernel) rfl dX4_thrown_1 ?_
  subst hQ
  exact g_iret F hlocks hr () rfl (Option.some.inj hf).symm dX4_thrown_4

/-! HeapImagesModel.isHeap(I)Z -/
def rm_X4_isHeap : Room := { frames := 0, cells := 0, slots := 0, locals := 0 }
def f_X4_isHeap (x0 : Int32) : Option Int32 :=
  if x0 = 0 then some (1 : Int32) else if x0 = (1 : Int32) then some (1 : Int32) else some (0 : Int32)
set_option maxHeartbeats 4000000 in
set_option maxRecDepth 100000 in
theorem c_X4_isHeap (l : Launch) (dC : Nat → ClassId) (dI : Nat → Nat → Nat) (cI cJ cH : ClassId)    (x0 : Int32) (o : Int32) (hf : f_X4_isHeap x0 = some o) : ∀ sz : Nat, Met l yX4_isHeap wsX4_isHeap rm_X4_isHeap (gPre [.int x0] (dC, dI) vwCl (gT cI cJ cH) ([]) sz) (va_Qi (fun (r : Int32) (u : Unit) => o = r) (gB (dC, dI) vwCl (gT cI cJ cH) (fun (u : Unit) => []) (va_A ([]) sz)) (va_A ([]) sz)) 0 0 (va_A ([]) sz) := by
  refine g_met (fun A => va_Qi (fun (r : Int32) (u : Unit) => o = r) (gB (dC, dI) vwCl (gT cI cJ cH) (fun (u : Unit) => []) A) A) (by decide) rfl (Nat.le_of_ble_eq_true rfl) ?_
  intro p e s m args below meth c A Q F hlocks hr hname hN hQ
  unfold f_X4_isHeap at hf
  refine g_lvE (lv' := [(0, .int x0)]) rfl ?_
  refine g_iload_n F dX4_isHeap_0 rfl 0 rfl ?_
  refine g_if_eq (tgt := 9) F dX4_isHeap_1 (by decide) (fun c1 => ?_) (fun c1 => ?_)
  · have hf := iteT hf c1
    refine g_iconst (v := 1) F dX4_isHeap_9 rfl ?_
    refine g_goto (tgt := 14) F dX4_isHeap_10 (by decide) ?_
    subst hQ
    exact g_zret F hlocks hr rfl () rfl (Option.some.inj hf).symm dX4_isHeap_14
  · have hf := iteF hf c1
    refine g_iload_n F dX4_isHeap_4 rfl 0 rfl ?_
    refine g_iconst (v := 1) F dX4_isHeap_5 rfl ?_
    refine g_icmp_ne (tgt := 13) F dX4_isHeap_6 (by decide) (fun c6 => ?_) (fun c6 => ?_)
    · have hf := iteF hf c6
      refine g_iconst (v := 0) F dX4_isHeap_13 rfl ?_
      subst hQ
      exact g_zret F hlocks hr rfl () rfl (Option.some.inj hf).symm dX4_isHeap_14
    · have hf := iteT hf c6
      refine g_iconst (v := 1) F dX4_isHeap_9 rfl ?_
      refine g_goto (tgt := 14) F dX4_isHeap_10 (by decide) ?_
      subst hQ
      exact g_zret F hlocks hr rfl () rfl (Option.some.inj hf).symm dX4_isHeap_14

/-! HeapImagesModel.isSize(II)Z -/
def rm_X4_isSize : Room := { frames := 0, cells := 0, slots := 0, locals := 0 }
def f_X4_isSize (x0 : Int32) (x1 : Int32) : Option Int32 :=
  if x0 = (3 : Int32) then if x1 = (2 : Int32) then some (1 : Int32) else some (0 : Int32) else if x0 = (1 : Int32) then if x1 < 0 then some (0 : Int32) else if (40 : Int32) < x1 then some (0 : Int32) else some (1 : Int32) else if x0 = (2 : Int32) then if x1 < 0 then some (0 : Int32) else if (40 : Int32) < x1 then some (0 : Int32) else some (1 : Int32) else some (0 : Int32)
set_option maxHeartbeats 4000000 in
set_option maxRecDepth 100000 in
theorem c_X4_isSize (l : Launch) (dC : Nat → ClassId) (dI : Nat → Nat → Nat) (cI cJ cH : ClassId)    (x0 : Int32) (x1 : Int32) (o : Int32) (hf : f_X4_isSize x0 x1 = some o) : ∀ sz : Nat, Met l yX4_isSize wsX4_isSize rm_X4_isSize (gPre [.int x0, .int x1] (dC, dI) vwCl (gT cI cJ cH) ([]) sz) (va_Qi (fun (r : Int32) (u : Unit) => o = r) (gB (dC, dI) vwCl (gT cI cJ cH) (fun (u : Unit) => []) (va_A ([]) sz)) (va_A ([]) sz)) 0 0 (va_A ([]) sz) := by
  refine g_met (fun A => va_Qi (fun (r : Int32) (u : Unit) => o = r) (gB (dC, dI) vwCl (gT cI cJ cH) (fun (u : Unit) => []) A) A) (by decide) rfl (Nat.le_of_ble_eq_true rfl) ?_
  intro p e s m args below meth c A Q F hlocks hr hname hN hQ
  unfold f_X4_isSize at hf
  refine g_lvE (lv' := [(0, .int x0), (1, .int x1)]) rfl ?_
  refine g_iload_n F dX4_isSize_0 rfl 0 rfl ?_
  refine g_iconst (v := 3) F dX4_isSize_1 rfl ?_
  refine g_icmp_ne (tgt := 18) F dX4_isSize_2 (by decide) (fun c2 => ?_) (fun c2 => ?_)
  · have hf := iteF hf c2
    refine g_iload_n F dX4_isSize_18 rfl 0 rfl ?_
    refine g_iconst (v := 1) F dX4_isSize_19 rfl ?_
    refine g_icmp_eq (tgt := 28) F dX4_isSize_20 (by decide) (fun c20 => ?_) (fun c20 => ?_)
    · have hf := iteT hf c20
      refine g_iload_n F dX4_isSize_28 rfl 1 rfl ?_
      refine g_if_lt (tgt := 42) F dX4_isSize_29 (by decide) (fun c29 => ?_) (fun c29 => ?_)
      · have hf := iteT hf c29
        refine g_iconst (v := 0) F dX4_isSize_42 rfl ?_
        subst hQ
        exact g_zret F hlocks hr rfl () rfl (Option.some.inj hf).symm dX4_isSize_43
      · have hf := iteF hf c29
        refine g_iload_n F dX4_isSize_32 rfl 1 rfl ?_
        refine g_bipush (v := 40) F dX4_isSize_33 rfl ?_
        refine g_icmp_gt (tgt := 42) F dX4_isSize_35 (by decide) (fun c35 => ?_) (fun c35 => ?_)
        · have hf := iteT hf c35
          refine g_iconst (v := 0) F dX4_isSize_42 rfl ?_
          subst hQ
          exact g_zret F hlocks hr rfl () rfl (Option.some.inj hf).symm dX4_isSize_43
        · have hf := iteF hf c35
          refine g_iconst (v := 1) F dX4_isSize_38 rfl ?_
          refine g_goto (tgt := 43) F dX4_isSize_39 (by decide) ?_
          subst hQ
          exact g_zret F hlocks hr rfl () rfl (Option.some.inj hf).symm dX4_isSize_43
    · have hf := iteF hf c20
      refine g_iload_n F dX4_isSize_23 rfl 0 rfl ?_
      refine g_iconst (v := 2) F dX4_isSize_24 rfl ?_
      refine g_icmp_ne (tgt := 42) F dX4_isSize_25 (by decide) (fun c25 => ?_) (fun c25 => ?_)
      · have hf := iteF hf c25
        refine g_iconst (v := 0) F dX4_isSize_42 rfl ?_
        subst hQ
        exact g_zret F hlocks hr rfl () rfl (Option.some.inj hf).symm dX4_isSize_43
      · have hf := iteT hf c25
        refine g_iload_n F dX4_isSize_28 rfl 1 rfl ?_
        refine g_if_lt (tgt := 42) F dX4_isSize_29 (by decide) (fun c29 => ?_) (fun c29 => ?_)
        · have hf := iteT hf c29
          refine g_iconst (v := 0) F dX4_isSize_42 rfl ?_
          subst hQ
          exact g_zret F hlocks hr rfl () rfl (Option.some.inj hf).symm dX4_isSize_43
        · have hf := iteF hf c29
          refine g_iload_n F dX4_isSize_32 rfl 1 rfl ?_
          refine g_bipush (v := 40) F dX4_isSize_33 rfl ?_
          refine g_icmp_gt (tgt := 42) F dX4_isSize_35 (by decide) (fun c35 => ?_) (fun c35 => ?_)
          · have hf := iteT hf c35
            refine g_iconst (v := 0) F dX4_isSize_42 rfl ?_
            subst hQ
            exact g_zret F hlocks hr rfl () rfl (Option.some.inj hf).symm dX4_isSize_43
          · have hf := iteF hf c35
            refine g_iconst (v := 1) F dX4_isSize_38 rfl ?_
            refine g_goto (tgt := 43) F dX4_isSize_39 (by decide) ?_
            subst hQ
            exact g_zret F hlocks hr rfl () rfl (Option.some.inj hf).symm dX4_isSize_43
  · have hf := iteT hf c2
    refine g_iload_n F dX4_isSize_5 rfl 1 rfl ?_
    refine g_iconst (v := 2) F dX4_isSize_6 rfl ?_
    refine g_icmp_ne (tgt := 14) F dX4_isSize_7 (by decide) (fun c7 => ?_) (fun c7 => ?_)
    · have hf := iteF hf c7
      refine g_iconst (v := 0) F dX4_isSize_14 rfl ?_
      refine g_goto (tgt := 43) F dX4_isSize_15 (by decide) ?_
      subst hQ
      exact g_zret F hlocks hr rfl () rfl (Option.some.inj hf).symm dX4_isSize_43
    · have hf := iteT hf c7
      refine g_iconst (v := 1) F dX4_isSize_10 rfl ?_
      refine g_goto (tgt := 43) F dX4_isSize_11 (by decide) ?_
      subst hQ
      exact g_zret F hlocks hr rfl () rfl (Option.some.inj hf).symm dX4_isSize_43

/-! HeapImagesModel.make(III)I -/
def rm_X4_make : Room := { frames := 1, cells := 0, slots := 0, locals := 21 }
theorem h_X4_make_4 : ∀ w ∈ wsX40, w ∈ wsX4_make := by decide +kernel
def f_X4_make_L87_s (y1 : Int32) (y2 : Int32) (y3 : Int32) (y4 : Int32) (rc : Int32 → (Nat → Int32) → Option (Nat → Int32)) (z5 : Int32) (a_words : (Nat → Int32)) : Option (Nat → Int32) :=
  if y3 ≤ z5 then some a_words else if y2 = (3 : Int32) then if z5 = (1 : Int32) then ck (inR (((((256 : Int32) * y1) + y4) + (1 : Int32)) + z5) 512) (nm (z5 + (1 : Int32)) fun v11 => rc v11 (upd a_words (((((256 : Int32) * y1) + y4) + (1 : Int32)) + z5).toNatClampNeg (1 : Int32))) else ck (inR (((((256 : Int32) * y1) + y4) + (1 : Int32)) + z5) 512) (nm (z5 + (1 : Int32)) fun v9 => rc v9 (upd a_words (((((256 : Int32) * y1) + y4) + (1 : Int32)) + z5).toNatClampNeg (0 : Int32))) else ck (inR (((((256 : Int32) * y1) + y4) + (1 : Int32)) + z5) 512) (nm (z5 + (1 : Int32)) fun v7 => rc v7 (upd a_words (((((256 : Int32) * y1) + y4) + (1 : Int32)) + z5).toNatClampNeg (0 : Int32)))
def f_X4_make_L87 (y1 : Int32) (y2 : Int32) (y3 : Int32) (y4 : Int32) : Nat → Int32 → (Nat → Int32) → Option (Nat → Int32)
  | 0, _, _ => none
  | n + 1, z5, a_words => f_X4_make_L87_s y1 y2 y3 y4 (f_X4_make_L87 y1 y2 y3 y4 n) z5 a_words
set_option maxHeartbeats 4000000 in
theorem w_X4_make_L87 {p : Program} {l : Launch} {e : Env} {s : State} {m : MethodId} {args : Array Value} {below : List Frame} {meth : Method} {c : Code} {A : Nat → Prop} {Q : State → Prop} {dC : Nat → ClassId} {dI : Nat → Nat → Nat} {cI cJ cH : ClassId} {a_p a_bases_p a_tops_p a_words_p a_roots_p a_order_p a_numbers_p a_image_p a_other_p a_input_p a_fresh_p a_freshRoots_p a_heads_p a_kept_p : Nat} {a_thrown : Int32} {a_bases : (Nat → Int32)} {a_tops : (Nat → Int32)} {a_roots : (Nat → Int32)} {a_reached : Int32} {a_order : (Nat → Int32)} {a_numbers : (Nat → Int32)} {a_size : Int32} {a_image : (Nat → Int32)} {a_otherSize : Int32} {a_other : (Nat → Int32)} {a_waiting : Int32} {a_input : (Nat → Int32)} {a_at : Int32} {a_ended : Int32} {a_told : Int32} {a_many : Int32} {a_fresh : (Nat → Int32)} {a_freshRoots : (Nat → Int32)} {a_heads : (Nat → Int32)} {a_count : Int64} {a_kept : (Nat → Int32)} {y1 : Int32} {y2 : Int32} {y3 : Int32} {y4 : Int32} (F : gF p m c cX4_make 6 s args wsX4_make yX4_make.cls (dC, dI) vwCl (gT cI cJ cH) A) (hN : ∀ w ∈ gN, va_Nw w s) : ∀ (n : Nat) (z5 : Int32) (a_words : (Nat → Int32)) (o : (Nat → Int32)), f_X4_make_L87 y1 y2 y3 y4 n z5 a_words = some o → (gW p l e rm_X4_make s m args below meth c 0 0 Q (dC, dI) vwCl A 6 (wMd cI a_p a_bases_p a_tops_p a_words_p a_roots_p a_order_p a_numbers_p a_image_p a_other_p a_input_p a_fresh_p a_freshRoots_p a_heads_p a_kept_p a_thrown a_bases a_tops o a_roots a_reached a_order a_numbers a_size a_image a_otherSize a_other a_waiting a_input a_at a_ended a_told a_many a_fresh a_freshRoots a_heads a_count a_kept) [(0, .ref a_p), (1, .int y1), (3, .int y3), (4, .int y4)] 133 []) → gW p l e rm_X4_make s m args below meth c 0 0 Q (dC, dI) vwCl A 6 (wMd cI a_p a_bases_p a_tops_p a_words_p a_roots_p a_order_p a_numbers_p a_image_p a_other_p a_input_p a_fresh_p a_freshRoots_p a_heads_p a_kept_p a_thrown a_bases a_tops a_words a_roots a_reached a_order a_numbers a_size a_image a_otherSize a_other a_waiting a_input a_at a_ended a_told a_many a_fresh a_freshRoots a_heads a_count a_kept) [(0, .ref a_p), (1, .int y1), (2, .int y2), (3, .int y3), (4, .int y4), (5, .int z5)] 87 [] := by
  intro n
  induction n with
  | zero =>
    intro z5 a_words o hf E0
    change none = some o at hf
    cases hf
  | succ n ih =>
    intro z5 a_words o hf E0
    change f_X4_make_L87_s y1 y2 y3 y4 (f_X4_make_L87 y1 y2 y3 y4 n) z5 a_words = some o at hf
    unfold f_X4_make_L87_s at hf
    refine g_iload F dX4_make_87 5 rfl ?_
    refine g_iload_n F dX4_make_89 rfl 3 rfl ?_
    refine g_icmp_ge (tgt := 133) F dX4_make_90 (by decide) (fun c90 => ?_) (fun c90 => ?_)
    · have hf := iteT hf c90
      cases hf
      refine g_lv [0, 1, 3, 4] rfl ?_
      exact E0
    · have hf := iteF hf c90
      refine g_aload_n F dX4_make_93 rfl 0 rfl ?_
      refine g_get F h_X4_make_4 0 rfl rfl 3 (by decide) (by decide +kernel) rfl dX4_make_94 ?_
      refine g_sipush (v := 256) F dX4_make_97 rfl ?_
      refine g_iload_n F dX4_make_100 rfl 1 rfl ?_
      refine g_imul F dX4_make_101 ?_
      refine g_iload F dX4_make_102 4 rfl ?_
      refine g_iadd F dX4_make_104 ?_
      refine g_iconst (v := 1) F dX4_make_105 rfl ?_
      refine g_iadd F dX4_make_106 ?_
      refine g_iload F dX4_make_107 5 rfl ?_
      refine g_iadd F dX4_make_109 ?_
      refine g_iload_n F dX4_make_110 rfl 2 rfl ?_
      refine g_iconst (v := 3) F dX4_make_111 rfl ?_
      refine g_icmp_ne (tgt := 125) F dX4_make_112 (by decide) (fun c112 => ?_) (fun c112 => ?_)
      · have hf := iteF hf c112
        refine g_iconst (v := 0) F dX4_make_125 rfl ?_
        obtain ⟨h6, hf⟩ := ckE hf
        refine g_iast F 3 0 rfl rfl h6 dX4_make_126 (ws' := wMd cI a_p a_bases_p a_tops_p a_words_p a_roots_p a_order_p a_numbers_p a_image_p a_other_p a_input_p a_fresh_p a_freshRoots_p a_heads_p a_kept_p a_thrown a_bases a_tops (upd a_words (((((256 : Int32) * y1) + y4) + (1 : Int32)) + z5).toNatClampNeg (0 : Int32)) a_roots a_reached a_order a_numbers a_size a_image a_otherSize a_other a_waiting a_input a_at a_ended a_told a_many a_fresh a_freshRoots a_heads a_count a_kept) rfl ?_
        obtain ⟨v7, ev7, hf⟩ := nmE hf
        refine g_iinc (j := 5) (lv' := [(5, .int v7), (0, .ref a_p), (1, .int y1), (2, .int y2), (3, .int y3), (4, .int y4)]) F dX4_make_127 rfl ev7.symm (by decide) rfl ?_
        refine g_goto (tgt := 87) F dX4_make_130 (by decide) ?_
        refine g_lv [1, 2, 3, 4, 5, 0] rfl ?_
        exact ih _ _ o hf E0
      · have hf := iteT hf c112
        refine g_iload F dX4_make_115 5 rfl ?_
        refine g_iconst (v := 1) F dX4_make_117 rfl ?_
        refine g_icmp_ne (tgt := 125) F dX4_make_118 (by decide) (fun c118 => ?_) (fun c118 => ?_)
        · have hf := iteF hf c118
          refine g_iconst (v := 0) F dX4_make_125 rfl ?_
          obtain ⟨h8, hf⟩ := ckE hf
          refine g_iast F 3 0 rfl rfl h8 dX4_make_126 (ws' := wMd cI a_p a_bases_p a_tops_p a_words_p a_roots_p a_order_p a_numbers_p a_image_p a_other_p a_input_p a_fresh_p a_freshRoots_p a_heads_p a_kept_p a_thrown a_bases a_tops (upd a_words (((((256 : Int32) * y1) + y4) + (1 : Int32)) + z5).toNatClampNeg (0 : Int32)) a_roots a_reached a_order a_numbers a_size a_image a_otherSize a_other a_waiting a_input a_at a_ended a_told a_many a_fresh a_freshRoots a_heads a_count a_kept) rfl ?_
          obtain ⟨v9, ev9, hf⟩ := nmE hf
          refine g_iinc (j := 5) (lv' := [(5, .int v9), (0, .ref a_p), (1, .int y1), (2, .int y2), (3, .int y3), (4, .int y4)]) F dX4_make_127 rfl ev9.symm (by decide) rfl ?_
          refine g_goto (tgt := 87) F dX4_make_130 (by decide) ?_
          refine g_lv [1, 2, 3, 4, 5, 0] rfl ?_
          exact ih _ _ o hf E0
        · have hf := iteT hf c118
          refine g_iconst (v := 1) F dX4_make_121 rfl ?_
          refine g_goto (tgt := 126) F dX4_make_122 (by decide) ?_
          obtain ⟨h10, hf⟩ := ckE hf
          refine g_iast F 3 0 rfl rfl h10 dX4_make_126 (ws' := wMd cI a_p a_bases_p a_tops_p a_words_p a_roots_p a_order_p a_numbers_p a_image_p a_other_p a_input_p a_fresh_p a_freshRoots_p a_heads_p a_kept_p a_thrown a_bases a_tops (upd a_words (((((256 : Int32) * y1) + y4) + (1 : Int32)) + z5).toNatClampNeg (1 : Int32)) a_roots a_reached a_order a_numbers a_size a_image a_otherSize a_other a_waiting a_input a_at a_ended a_told a_many a_fresh a_freshRoots a_heads a_count a_kept) rfl ?_
          obtain ⟨v11, ev11, hf⟩ := nmE hf
          refine g_iinc (j := 5) (lv' := [(5, .int v11), (0, .ref a_p), (1, .int y1), (2, .int y2), (3, .int y3), (4, .int y4)]) F dX4_make_127 rfl ev11.symm (by decide) rfl ?_
          refine g_goto (tgt := 87) F dX4_make_130 (by decide) ?_
          refine g_lv [1, 2, 3, 4, 5, 0] rfl ?_
          exact ih _ _ o hf E0
def f_X4_make (a_thrown : Int32) (a_bases : (Nat → Int32)) (a_tops : (Nat → Int32)) (a_words : (Nat → Int32)) (x1 : Int32) (x2 : Int32) (x3 : Int32) : Option (Int32 × Int32 × (Nat → Int32) × (Nat → Int32)) :=
  Option.bind (f_X4_isHeap x1) fun o1 => Option.bind (α := Int32) (if o1 = 0 then some (1 : Int32) else Option.bind (f_X4_isSize x2 x3) fun o15 => if o15 = 0 then some (2 : Int32) else ck (inR x1 2) (if (((a_tops x1.toNatClampNeg) + (1 : Int32)) + x3) ≤ (256 : Int32) then some (0 : Int32) else some (3 : Int32))) fun j2 => if j2 ≤ 0 then ck (inR x1 2) (nm (a_tops x1.toNatClampNeg) fun v4 => ck (inR (((256 : Int32) * x1) + v4) 512) (Option.bind (f_X4_make_L87 x1 x2 x3 v4 FU (0 : Int32) (upd a_words (((256 : Int32) * x1) + v4).toNatClampNeg (((64 : Int32) * x2) + x3))) fun o12 => ck (inR x1 2) (ck (inR x1 2) (some ((a_bases x1.toNatClampNeg) + ((4 : Int32) * v4), j2, upd a_tops x1.toNatClampNeg ((v4 + (1 : Int32)) + x3), o12))))) else some ((0 : Int32), j2, a_tops, a_words)
set_option maxHeartbeats 4000000 in
set_option maxRecDepth 100000 in
theorem c_X4_make (l : Launch) (dC : Nat → ClassId) (dI : Nat → Nat → Nat) (cI cJ cH : ClassId) (a_p a_bases_p a_tops_p a_words_p a_roots_p a_order_p a_numbers_p a_image_p a_other_p a_input_p a_fresh_p a_freshRoots_p a_heads_p a_kept_p : Nat)  (a_thrown : Int32) (a_bases : (Nat → Int32)) (a_tops : (Nat → Int32)) (a_words : (Nat → Int32)) (a_roots : (Nat → Int32)) (a_reached : Int32) (a_order : (Nat → Int32)) (a_numbers : (Nat → Int32)) (a_size : Int32) (a_image : (Nat → Int32)) (a_otherSize : Int32) (a_other : (Nat → Int32)) (a_waiting : Int32) (a_input : (Nat → Int32)) (a_at : Int32) (a_ended : Int32) (a_told : Int32) (a_many : Int32) (a_fresh : (Nat → Int32)) (a_freshRoots : (Nat → Int32)) (a_heads : (Nat → Int32)) (a_count : Int64) (a_kept : (Nat → Int32)) (x1 : Int32) (x2 : Int32) (x3 : Int32) (o : (Int32 × Int32 × (Nat → Int32) × (Nat → Int32))) (hf : f_X4_make a_thrown a_bases a_tops a_words x1 x2 x3 = some o) : ∀ sz : Nat, Met l yX4_make wsX4_make rm_X4_make (gPre [.ref a_p, .int x1, .int x2, .int x3] (dC, dI) vwCl (gT cI cJ cH) (wMd cI a_p a_bases_p a_tops_p a_words_p a_roots_p a_order_p a_numbers_p a_image_p a_other_p a_input_p a_fresh_p a_freshRoots_p a_heads_p a_kept_p a_thrown a_bases a_tops a_words a_roots a_reached a_order a_numbers a_size a_image a_otherSize a_other a_waiting a_input a_at a_ended a_told a_many a_fresh a_freshRoots a_heads a_count a_kept) sz) (va_Qi (fun (r : Int32) (u : (Int32 × (Nat → Int32) × (Nat → Int32))) => o.1 = r ∧ o.2 = u) (gB (dC, dI) vwCl (gT cI cJ cH) (fun (u : (Int32 × (Nat → Int32) × (Nat → Int32))) => wMd cI a_p a_bases_p a_tops_p a_words_p a_roots_p a_order_p a_numbers_p a_image_p a_other_p a_input_p a_fresh_p a_freshRoots_p a_heads_p a_kept_p u.1 a_bases u.2.1 u.2.2 a_roots a_reached a_order a_numbers a_size a_image a_otherSize a_other a_waiting a_input a_at a_ended a_told a_many a_fresh a_freshRoots a_heads a_count a_kept) (va_A (wMd cI a_p a_bases_p a_tops_p a_words_p a_roots_p a_order_p a_numbers_p a_image_p a_other_p a_input_p a_fresh_p a_freshRoots_p a_heads_p a_kept_p a_thrown a_bases a_tops a_words a_roots a_reached a_order a_numbers a_size a_image a_otherSize a_other a_waiting a_input a_at a_ended a_told a_many a_fresh a_freshRoots a_heads a_count a_kept) sz)) (va_A (wMd cI a_p a_bases_p a_tops_p a_words_p a_roots_p a_order_p a_numbers_p a_image_p a_other_p a_input_p a_fresh_p a_freshRoots_p a_heads_p a_kept_p a_thrown a_bases a_tops a_words a_roots a_reached a_order a_numbers a_size a_image a_otherSize a_other a_waiting a_input a_at a_ended a_told a_many a_fresh a_freshRoots a_heads a_count a_kept) sz)) 0 0 (va_A (wMd cI a_p a_bases_p a_tops_p a_words_p a_roots_p a_order_p a_numbers_p a_image_p a_other_p a_input_p a_fresh_p a_freshRoots_p a_heads_p a_kept_p a_thrown a_bases a_tops a_words a_roots a_reached a_order a_numbers a_size a_image a_otherSize a_other a_waiting a_input a_at a_ended a_told a_many a_fresh a_freshRoots a_heads a_count a_kept) sz) := by
  refine g_met (fun A => va_Qi (fun (r : Int32) (u : (Int32 × (Nat → Int32) × (Nat → Int32))) => o.1 = r ∧ o.2 = u) (gB (dC, dI) vwCl (gT cI cJ cH) (fun (u : (Int32 × (Nat → Int32) × (Nat → Int32))) => wMd cI a_p a_bases_p a_tops_p a_words_p a_roots_p a_order_p a_numbers_p a_image_p a_other_p a_input_p a_fresh_p a_freshRoots_p a_heads_p a_kept_p u.1 a_bases u.2.1 u.2.2 a_roots a_reached a_order a_numbers a_size a_image a_otherSize a_other a_waiting a_input a_at a_ended a_told a_many a_fresh a_freshRoots a_heads a_count a_kept) A) A) (by decide) rfl (Nat.le_of_ble_eq_true rfl) ?_
  intro p e s m args below meth c A Q F hlocks hr hname hN hQ
  unfold f_X4_make at hf
  refine g_lvE (lv' := [(0, .ref a_p), (1, .int x1), (2, .int x2), (3, .int x3)]) rfl ?_
  refine g_aload_n F dX4_make_0 rfl 0 rfl ?_
  refine g_iload_n F dX4_make_1 rfl 1 rfl ?_
  obtain ⟨o1, ho1, hf⟩ := bnE hf
  refine g_callSi (n := 1) (As := [.int x1]) F (c_X4_isHeap l dC dI cI cJ cH x1 o1 ho1) ggX4_make_X4_isHeap rfl rfl rfl (by decide +kernel) (by decide +kernel) (by decide +kernel) (by decide +kernel) ⟨Nat.le_of_ble_eq_true rfl, Nat.le_of_ble_eq_true rfl⟩ ⟨Nat.le_of_ble_eq_true rfl, Nat.le_of_ble_eq_true rfl⟩ hN [] rfl rfl (fun _ => rfl) rfl (Nat.le_of_ble_eq_true rfl) rfl dX4_make_2 (cells' := 0) (slots' := 0) rfl rfl (fun r u hp => ?_)
  subst hp
  refine g_ws (ws' := wMd cI a_p a_bases_p a_tops_p a_words_p a_roots_p a_order_p a_numbers_p a_image_p a_other_p a_input_p a_fresh_p a_freshRoots_p a_heads_p a_kept_p a_thrown a_bases a_tops a_words a_roots a_reached a_order a_numbers a_size a_image a_otherSize a_other a_waiting a_input a_at a_ended a_told a_many a_fresh a_freshRoots a_heads a_count a_kept) rfl ?_
  obtain ⟨j2, hj2, hf⟩ := bnE hf
  have Kj2 : gW p l e rm_X4_make s m args below meth c 0 0 Q (dC, dI) vwCl A 6 (wMd cI a_p a_bases_p a_tops_p a_words_p a_roots_p a_order_p a_numbers_p a_image_p a_other_p a_input_p a_fresh_p a_freshRoots_p a_heads_p a_kept_p a_thrown a_bases a_tops a_words a_roots a_reached a_order a_numbers a_size a_image a_otherSize a_other a_waiting a_input a_at a_ended a_told a_many a_fresh a_freshRoots a_heads a_count a_kept) [(0, .ref a_p), (1, .int x1), (2, .int x2), (3, .int x3)] 45 [.int j2, .ref a_p] := by
    refine g_put F h_X4_make_4 tyX4 tyX4_ok nmX4 0 rfl rfl 0 (by decide) (by decide +kernel) rfl rfl rfl (Nat.le_of_ble_eq_true rfl) dX4_make_45 (ws' := wMd cI a_p a_bases_p a_tops_p a_words_p a_roots_p a_order_p a_numbers_p a_image_p a_other_p a_input_p a_fresh_p a_freshRoots_p a_heads_p a_kept_p j2 a_bases a_tops a_words a_roots a_reached a_order a_numbers a_size a_image a_otherSize a_other a_waiting a_input a_at a_ended a_told a_many a_fresh a_freshRoots a_heads a_count a_kept) rfl ?_
    refine g_aload_n F dX4_make_48 rfl 0 rfl ?_
    refine g_get F h_X4_make_4 0 rfl rfl 0 (by decide) (by decide +kernel) rfl dX4_make_49 ?_
    refine g_if_le (tgt := 57) F dX4_make_52 (by decide) (fun c52 => ?_) (fun c52 => ?_)
    · have hf := iteT hf c52
      refine g_aload_n F dX4_make_57 rfl 0 rfl ?_
      refine g_get F h_X4_make_4 0 rfl rfl 2 (by decide) (by decide +kernel) rfl dX4_make_58 ?_
      refine g_iload_n F dX4_make_61 rfl 1 rfl ?_
      obtain ⟨h3, hf⟩ := ckE hf
      refine g_iald F 2 0 rfl rfl h3 dX4_make_62 ?_
      obtain ⟨v4, ev4, hf⟩ := nmE hf
      refine g_nmi ev4 ?_
      refine g_istore (lv' := [(4, .int v4), (0, .ref a_p), (1, .int x1), (2, .int x2), (3, .int x3)]) F dX4_make_63 (by decide) rfl ?_
      refine g_aload_n F dX4_make_65 rfl 1 rfl ?_
      refine g_get F h_X4_make_4 0 rfl rfl 3 (by decide) (by decide +kernel) rfl dX4_make_66 ?_
      refine g_sipush (v := 256) F dX4_make_69 rfl ?_
      refine g_iload_n F dX4_make_72 rfl 2 rfl ?_
      refine g_imul F dX4_make_73 ?_
      refine g_iload F dX4_make_74 0 rfl ?_
      refine g_iadd F dX4_make_76 ?_
      refine g_bipush (v := 64) F dX4_make_77 rfl ?_
      refine g_iload_n F dX4_make_79 rfl 3 rfl ?_
      refine g_imul F dX4_make_80 ?_
      refine g_iload_n F dX4_make_81 rfl 4 rfl ?_
      refine g_iadd F dX4_make_82 ?_
      obtain ⟨h5, hf⟩ := ckE hf
      refine g_iast F 3 0 rfl rfl h5 dX4_make_83 (ws' := wMd cI a_p a_bases_p a_tops_p a_words_p a_roots_p a_order_p a_numbers_p a_image_p a_other_p a_input_p a_fresh_p a_freshRoots_p a_heads_p a_kept_p j2 a_bases a_tops (upd a_words (((256 : Int32) * x1) + v4).toNatClampNeg (((64 : Int32) * x2) + x3)) a_roots a_reached a_order a_numbers a_size a_image a_otherSize a_other a_waiting a_input a_at a_ended a_told a_many a_fresh a_freshRoots a_heads a_count a_kept) rfl ?_
      refine g_iconst (v := 0) F dX4_make_84 rfl ?_
      refine g_istore (lv' := [(5, .int (0 : Int32)), (4, .int v4), (0, .ref a_p), (1, .int x1), (2, .int x2), (3, .int x3)]) F dX4_make_85 (by decide) rfl ?_
      obtain ⟨o12, ho12, hf⟩ := bnE hf
      refine g_lv [2, 3, 4, 5, 1, 0] rfl ?_
      refine w_X4_make_L87 F hN FU _ _ o12 ho12 ?_
      refine g_aload_n F dX4_make_133 rfl 0 rfl ?_
      refine g_get F h_X4_make_4 0 rfl rfl 2 (by decide) (by decide +kernel) rfl dX4_make_134 ?_
      refine g_iload_n F dX4_make_137 rfl 1 rfl ?_
      refine g_iload F dX4_make_138 3 rfl ?_
      refine g_iconst (v := 1) F dX4_make_140 rfl ?_
      refine g_iadd F dX4_make_141 ?_
      refine g_iload_n F dX4_make_142 rfl 2 rfl ?_
      refine g_iadd F dX4_make_143 ?_
      obtain ⟨h13, hf⟩ := ckE hf
      refine g_iast F 2 0 rfl rfl h13 dX4_make_144 (ws' := wMd cI a_p a_bases_p a_tops_p a_words_p a_roots_p a_order_p a_numbers_p a_image_p a_other_p a_input_p a_fresh_p a_freshRoots_p a_heads_p a_kept_p j2 a_bases (upd a_tops x1.toNatClampNeg ((v4 + (1 : Int32)) + x3)) o12 a_roots a_reached a_order a_numbers a_size a_image a_otherSize a_other a_waiting a_input a_at a_ended a_told a_many a_fresh a_freshRoots a_heads a_count a_kept) rfl ?_
      refine g_aload_n F dX4_make_145 rfl 0 rfl ?_
      refine g_get F h_X4_make_4 0 rfl rfl 1 (by decide) (by decide +kernel) rfl dX4_make_146 ?_
      refine g_iload_n F dX4_make_149 rfl 1 rfl ?_
      obtain ⟨h14, hf⟩ := ckE hf
      refine g_iald F 1 0 rfl rfl h14 dX4_make_150 ?_
      refine g_iconst (v := 4) F dX4_make_151 rfl ?_
      refine g_iload F dX4_make_152 3 rfl ?_
      refine g_imul F dX4_make_154 ?_
      refine g_iadd F dX4_make_155 ?_
      subst hQ
      exact g_iret F hlocks hr (j2, upd a_tops x1.toNatClampNeg ((v4 + (1 : Int32)) + x3), o12) rfl (pr2 (Option.some.inj hf)) dX4_make_156
    · have hf := iteF hf c52
      refine g_iconst (v := 0) F dX4_make_55 rfl ?_
      subst hQ
      exact g_iret F hlocks hr (j2, a_tops, a_words) rfl (pr2 (Option.some.inj hf)) dX4_make_56
  clear hf
  have hf := hj2
  refine g_if_ne (tgt := 12) F dX4_make_5 (by decide) (fun c5 => ?_) (fun c5 => ?_)
  · have hf := iteF hf c5
    refine g_iload_n F dX4_make_12 rfl 2 rfl ?_
    refine g_iload_n F dX4_make_13 rfl 3 rfl ?_
    obtain ⟨o15, ho15, hf⟩ := bnE hf
    refine g_callSi (n := 2) (As := [.int x2, .int x3]) F (c_X4_isSize l dC dI cI cJ cH x2 x3 o15 ho15) ggX4_make_X4_isSize rfl rfl rfl (by decide +kernel) (by decide +kernel) (by decide +kernel) (by decide +kernel) ⟨Nat.le_of_ble_eq_true rfl, Nat.le_of_ble_eq_true rfl⟩ ⟨Nat.le_of_ble_eq_true rfl, Nat.le_of_ble_eq_true rfl⟩ hN [] rfl rfl (fun _ => rfl) rfl (Nat.le_of_ble_eq_true rfl) rfl dX4_make_14 (cells' := 0) (slots' := 0) rfl rfl (fun r u hp => ?_)
    subst hp
    refine g_ws (ws' := wMd cI a_p a_bases_p a_tops_p a_words_p a_roots_p a_order_p a_numbers_p a_image_p a_other_p a_input_p a_fresh_p a_freshRoots_p a_heads_p a_kept_p a_thrown a_bases a_tops a_words a_roots a_reached a_order a_numbers a_size a_image a_otherSize a_other a_waiting a_input a_at a_ended a_told a_many a_fresh a_freshRoots a_heads a_count a_kept) rfl ?_
    refine g_if_ne (tgt := 24) F dX4_make_17 (by decide) (fun c17 => ?_) (fun c17 => ?_)
    · have hf := iteF hf c17
      refine g_aload_n F dX4_make_24 rfl 0 rfl ?_
      refine g_get F h_X4_make_4 0 rfl rfl 2 (by decide) (by decide +kernel) rfl dX4_make_25 ?_
      refine g_iload_n F dX4_make_28 rfl 1 rfl ?_
      obtain ⟨h16, hf⟩ := ckE hf
      refine g_iald F 2 0 rfl rfl h16 dX4_make_29 ?_
      refine g_iconst (v := 1) F dX4_make_30 rfl ?_
      refine g_iadd F dX4_make_31 ?_
      refine g_iload_n F dX4_make_32 rfl 3 rfl ?_
      refine g_iadd F dX4_make_33 ?_
      refine g_sipush (v := 256) F dX4_make_34 rfl ?_
      refine g_icmp_le (tgt := 44) F dX4_make_37 (by decide) (fun c37 => ?_) (fun c37 => ?_)
      · have hf := iteT hf c37
        refine g_iconst (v := 0) F dX4_make_44 rfl ?_
        cases hf
        refine g_lv [0, 1, 2, 3] rfl ?_
        exact Kj2
      · have hf := iteF hf c37
        refine g_iconst (v := 3) F dX4_make_40 rfl ?_
        refine g_goto (tgt := 45) F dX4_make_41 (by decide) ?_
        cases hf
        refine g_lv [0, 1, 2, 3] rfl ?_
        exact Kj2
    · have hf := iteT hf c17
      refine g_iconst (v := 2) F dX4_make_20 rfl ?_
      refine g_goto (tgt := 45) F dX4_make_21 (by decide) ?_
      cases hf
      refine g_lv [0, 1, 2, 3] rfl ?_
      exact Kj2
  · have hf := iteT hf c5
    refine g_iconst (v := 1) F dX4_make_8 rfl ?_
    refine g_goto (tgt := 45) F dX4_make_9 (by decide) ?_
    cases hf
    refine g_lv [0, 1, 2, 3] rfl ?_
    exact Kj2

/-! HeapImagesModel.isHead(I)Z -/
def rm_X4_isHead : Room := { frames := 1, cells := 0, slots := 0, locals := 21 }
def f_X4_isHead (x0 : Int32) : Option Int32 :=
  if x0 ≤ 0 then some (0 : Int32) else Option.bind (f_X4_isSize (x0 / (64 : Int32)) (x0 - x0 / (64 : Int32) * (64 : Int32))) fun o1 => if o1 = 0 then some (0 : Int32) else some (1 : Int32)
set_option maxHeartbeats 4000000 in
set_option maxRecDepth 100000 in
theorem c_X4_isHead (l : Launch) (dC : Nat → ClassId) (dI : Nat → Nat → Nat) (cI cJ cH : ClassId)    (x0 : Int32) (o : Int32) (hf : f_X4_isHead x0 = some o) : ∀ sz : Nat, Met l yX4_isHead wsX4_isHead rm_X4_isHead (gPre [.int x0] (dC, dI) vwCl (gT cI cJ cH) ([]) sz) (va_Qi (fun (r : Int32) (u : Unit) => o = r) (gB (dC, dI) vwCl (gT cI cJ cH) (fun (u : Unit) => []) (va_A ([]) sz)) (va_A ([]) sz)) 0 0 (va_A ([]) sz) := by
  refine g_met (fun A => va_Qi (fun (r : Int32) (u : Unit) => o = r) (gB (dC, dI) vwCl (gT cI cJ cH) (fun (u : Unit) => []) A) A) (by decide) rfl (Nat.le_of_ble_eq_true rfl) ?_
  intro p e s m args below meth c A Q F hlocks hr hname hN hQ
  unfold f_X4_isHead at hf
  refine g_lvE (lv' := [(0, .int x0)]) rfl ?_
  refine g_iload_n F dX4_isHead_0 rfl 0 rfl ?_
  refine g_if_le (tgt := 22) F dX4_isHead_1 (by decide) (fun c1 => ?_) (fun c1 => ?_)
  · have hf := iteT hf c1
    refine g_iconst (v := 0) F dX4_isHead_22 rfl ?_
    subst hQ
    exact g_zret F hlocks hr rfl () rfl (Option.some.inj hf).symm dX4_isHead_23
  · have hf := iteF hf c1
    refine g_iload_n F dX4_isHead_4 rfl 0 rfl ?_
    refine g_bipush (v := 64) F dX4_isHead_5 rfl ?_
    refine g_idiv F dX4_isHead_7 (by decide) ?_
    refine g_iload_n F dX4_isHead_8 rfl 0 rfl ?_
    refine g_bipush (v := 64) F dX4_isHead_9 rfl ?_
    refine g_irem F dX4_isHead_11 (by decide) ?_
    obtain ⟨o1, ho1, hf⟩ := bnE hf
    refine g_callSi (n := 2) (As := [.int (x0 / (64 : Int32)), .int (x0 - x0 / (64 : Int32) * (64 : Int32))]) F (c_X4_isSize l dC dI cI cJ cH (x0 / (64 : Int32)) (x0 - x0 / (64 : Int32) * (64 : Int32)) o1 ho1) ggX4_isHead_X4_isSize rfl rfl rfl (by decide +kernel) (by decide +kernel) (by decide +kernel) (by decide +kernel) ⟨Nat.le_of_ble_eq_true rfl, Nat.le_of_ble_eq_true rfl⟩ ⟨Nat.le_of_ble_eq_true rfl, Nat.le_of_ble_eq_true rfl⟩ hN [] rfl rfl (fun _ => rfl) rfl (Nat.le_of_ble_eq_true rfl) rfl dX4_isHead_12 (cells' := 0) (slots' := 0) rfl rfl (fun r u hp => ?_)
    subst hp
    refine g_ws (ws' := []) rfl ?_
    refine g_if_eq (tgt := 22) F dX4_isHead_15 (by decide) (fun c15 => ?_) (fun c15 => ?_)
    · have hf := iteT hf c15
      refine g_iconst (v := 0) F dX4_isHead_22 rfl ?_
      subst hQ
      exact g_zret F hlocks hr rfl () rfl (Option.some.inj hf).symm dX4_isHead_23
    · have hf := iteF hf c15
      refine g_iconst (v := 1) F dX4_isHead_18 rfl ?_
      refine g_goto (tgt := 23) F dX4_isHead_19 (by decide) ?_
      subst hQ
      exact g_zret F hlocks hr rfl () rfl (Option.some.inj hf).symm dX4_isHead_23

/-! HeapImagesModel.behind(II)I -/
def rm_X4_behind : Room := { frames := 2, cells := 0, slots := 0, locals := 41 }
theorem h_X4_behind_4 : ∀ w ∈ wsX40, w ∈ wsX4_behind := by decide +kernel
def f_X4_behind (a_tops : (Nat → Int32)) (a_words : (Nat → Int32)) (x1 : Int32) (x2 : Int32) : Option Int32 :=
  ck (inR (((256 : Int32) * x1) + x2) 512) (nm (a_words (((256 : Int32) * x1) + x2).toNatClampNeg) fun v2 => nm ((x2 + (1 : Int32)) + (v2 - v2 / (64 : Int32) * (64 : Int32))) fun v3 => Option.bind (f_X4_isHead v2) fun o4 => if o4 = 0 then some (-1 : Int32) else ck (inR x1 2) (if (a_tops x1.toNatClampNeg) < v3 then some (-1 : Int32) else some v3))
set_option maxHeartbeats 4000000 in
set_option maxRecDepth 100000 in
theorem c_X4_behind (l : Launch) (dC : Nat → ClassId) (dI : Nat → Nat → Nat) (cI cJ cH : ClassId) (a_p a_bases_p a_tops_p a_words_p a_roots_p a_order_p a_numbers_p a_image_p a_other_p a_input_p a_fresh_p a_freshRoots_p a_heads_p a_kept_p : Nat)  (a_thrown : Int32) (a_bases : (Nat → Int32)) (a_tops : (Nat → Int32)) (a_words : (Nat → Int32)) (a_roots : (Nat → Int32)) (a_reached : Int32) (a_order : (Nat → Int32)) (a_numbers : (Nat → Int32)) (a_size : Int32) (a_image : (Nat → Int32)) (a_otherSize : Int32) (a_other : (Nat → Int32)) (a_waiting : Int32) (a_input : (Nat → Int32)) (a_at : Int32) (a_ended : Int32) (a_told : Int32) (a_many : Int32) (a_fresh : (Nat → Int32)) (a_freshRoots : (Nat → Int32)) (a_heads : (Nat → Int32)) (a_count : Int64) (a_kept : (Nat → Int32)) (x1 : Int32) (x2 : Int32) (o : Int32) (hf : f_X4_behind a_tops a_words x1 x2 = some o) : ∀ sz : Nat, Met l yX4_behind wsX4_behind rm_X4_behind (gPre [.ref a_p, .int x1, .int x2] (dC, dI) vwCl (gT cI cJ cH) (wMd cI a_p a_bases_p a_tops_p a_words_p a_roots_p a_order_p a_numbers_p a_image_p a_other_p a_input_p a_fresh_p a_freshRoots_p a_heads_p a_kept_p a_thrown a_bases a_tops a_words a_roots a_reached a_order a_numbers a_size a_image a_otherSize a_other a_waiting a_input a_at a_ended a_told a_many a_fresh a_freshRoots a_heads a_count a_kept) sz) (va_Qi (fun (r : Int32) (u : Unit) => o = r) (gB (dC, dI) vwCl (gT cI cJ cH) (fun (u : Unit) => wMd cI a_p a_bases_p a_tops_p a_words_p a_roots_p a_order_p a_numbers_p a_image_p a_other_p a_input_p a_fresh_p a_freshRoots_p a_heads_p a_kept_p a_thrown a_bases a_tops a_words a_roots a_reached a_order a_numbers a_size a_image a_otherSize a_other a_waiting a_input a_at a_ended a_told a_many a_fresh a_freshRoots a_heads a_count a_kept) (va_A (wMd cI a_p a_bases_p a_tops_p a_words_p a_roots_p a_order_p a_numbers_p a_image_p a_other_p a_input_p a_fresh_p a_freshRoots_p a_heads_p a_kept_p a_thrown a_bases a_tops a_words a_roots a_reached a_order a_numbers a_size a_image a_otherSize a_other a_waiting a_input a_at a_ended a_told a_many a_fresh a_freshRoots a_heads a_count a_kept) sz)) (va_A (wMd cI a_p a_bases_p a_tops_p a_words_p a_roots_p a_order_p a_numbers_p a_image_p a_other_p a_input_p a_fresh_p a_freshRoots_p a_heads_p a_kept_p a_thrown a_bases a_tops a_words a_roots a_reached a_order a_numbers a_size a_image a_otherSize a_other a_waiting a_input a_at a_ended a_told a_many a_fresh a_freshRoots a_heads a_count a_kept) sz)) 0 0 (va_A (wMd cI a_p a_bases_p a_tops_p a_words_p a_roots_p a_order_p a_numbers_p a_image_p a_other_p a_input_p a_fresh_p a_freshRoots_p a_heads_p a_kept_p a_thrown a_bases a_tops a_words a_roots a_reached a_order a_numbers a_size a_image a_otherSize a_other a_waiting a_input a_at a_ended a_told a_many a_fresh a_freshRoots a_heads a_count a_kept) sz) := by
  refine g_met (fun A => va_Qi (fun (r : Int32) (u : Unit) => o = r) (gB (dC, dI) vwCl (gT cI cJ cH) (fun (u : Unit) => wMd cI a_p a_bases_p a_tops_p a_words_p a_roots_p a_order_p a_numbers_p a_image_p a_other_p a_input_p a_fresh_p a_freshRoots_p a_heads_p a_kept_p a_thrown a_bases a_tops a_words a_roots a_reached a_order a_numbers a_size a_image a_otherSize a_other a_waiting a_input a_at a_ended a_told a_many a_fresh a_freshRoots a_heads a_count a_kept) A) A) (by decide) rfl (Nat.le_of_ble_eq_true rfl) ?_
  intro p e s m args below meth c A Q F hlocks hr hname hN hQ
  unfold f_X4_behind at hf
  refine g_lvE (lv' := [(0, .ref a_p), (1, .int x1), (2, .int x2)]) rfl ?_
  refine g_aload_n F dX4_behind_0 rfl 0 rfl ?_
  refine g_get F h_X4_behind_4 0 rfl rfl 3 (by decide) (by decide +kernel) rfl dX4_behind_1 ?_
  refine g_sipush (v := 256) F dX4_behind_4 rfl ?_
  refine g_iload_n F dX4_behind_7 rfl 1 rfl ?_
  refine g_imul F dX4_behind_8 ?_
  refine g_iload_n F dX4_behind_9 rfl 2 rfl ?_
  refine g_iadd F dX4_behind_10 ?_
  obtain ⟨h1, hf⟩ := ckE hf
  refine g_iald F 3 0 rfl rfl h1 dX4_behind_11 ?_
  obtain ⟨v2, ev2, hf⟩ := nmE hf
  refine g_nmi ev2 ?_
  refine g_istore_n (lv' := [(3, .int v2), (0, .ref a_p), (1, .int x1), (2, .int x2)]) F dX4_behind_12 rfl (by decide) rfl ?_
  refine g_iload_n F dX4_behind_13 rfl 3 rfl ?_
  refine g_iconst (v := 1) F dX4_behind_14 rfl ?_
  refine g_iadd F dX4_behind_15 ?_
  refine g_iload_n F dX4_behind_16 rfl 0 rfl ?_
  refine g_bipush (v := 64) F dX4_behind_17 rfl ?_
  refine g_irem F dX4_behind_19 (by decide) ?_
  refine g_iadd F dX4_behind_20 ?_
  obtain ⟨v3, ev3, hf⟩ := nmE hf
  refine g_nmi ev3 ?_
  refine g_istore (lv' := [(4, .int v3), (3, .int v2), (0, .ref a_p), (1, .int x1), (2, .int x2)]) F dX4_behind_21 (by decide) rfl ?_
  refine g_iload_n F dX4_behind_23 rfl 1 rfl ?_
  obtain ⟨o4, ho4, hf⟩ := bnE hf
  refine g_callSi (n := 1) (As := [.int v2]) F (c_X4_isHead l dC dI cI cJ cH v2 o4 ho4) ggX4_behind_X4_isHead rfl rfl rfl (by decide +kernel) (by decide +kernel) (by decide +kernel) (by decide +kernel) ⟨Nat.le_of_ble_eq_true rfl, Nat.le_of_ble_eq_true rfl⟩ ⟨Nat.le_of_ble_eq_true rfl, Nat.le_of_ble_eq_true rfl⟩ hN [] rfl rfl (fun _ => rfl) rfl (Nat.le_of_ble_eq_true rfl) rfl dX4_behind_24 (cells' := 0) (slots' := 0) rfl rfl (fun r u hp => ?_)
  subst hp
  refine g_ws (ws' := wMd cI a_p a_bases_p a_tops_p a_words_p a_roots_p a_order_p a_numbers_p a_image_p a_other_p a_input_p a_fresh_p a_freshRoots_p a_heads_p a_kept_p a_thrown a_bases a_tops a_words a_roots a_reached a_order a_numbers a_size a_image a_otherSize a_other a_waiting a_input a_at a_ended a_told a_many a_fresh a_freshRoots a_heads a_count a_kept) rfl ?_
  refine g_if_eq (tgt := 46) F dX4_behind_27 (by decide) (fun c27 => ?_) (fun c27 => ?_)
  · have hf := iteT hf c27
    refine g_iconst (v := -1) F dX4_behind_46 rfl ?_
    subst hQ
    exact g_iret F hlocks hr () rfl (Option.some.inj hf).symm dX4_behind_47
  · have hf := iteF hf c27
    refine g_iload F dX4_behind_30 0 rfl ?_
    refine g_aload_n F dX4_behind_32 rfl 2 rfl ?_
    refine g_get F h_X4_behind_4 0 rfl rfl 2 (by decide) (by decide +kernel) rfl dX4_behind_33 ?_
    refine g_iload_n F dX4_behind_36 rfl 3 rfl ?_
    obtain ⟨h5, hf⟩ := ckE hf
    refine g_iald F 2 0 rfl rfl h5 dX4_behind_37 ?_
    refine g_icmp_gt (tgt := 46) F dX4_behind_38 (by decide) (fun c38 => ?_) (fun c38 => ?_)
    · have hf := iteT hf c38
      refine g_iconst (v := -1) F dX4_behind_46 rfl ?_
      subst hQ
      exact g_iret F hlocks hr () rfl (Option.some.inj hf).symm dX4_behind_47
    · have hf := iteF hf c38
      refine g_iload F dX4_behind_41 0 rfl ?_
      refine g_goto (tgt := 47) F dX4_behind_43 (by decide) ?_
      subst hQ
      exact g_iret F hlocks hr () rfl (Option.some.inj hf).symm dX4_behind_47

/-! HeapImagesModel.find(II)I -/
def rm_X4_find : Room := { frames := 3, cells := 0, slots := 0, locals := 65 }
theorem h_X4_find_4 : ∀ w ∈ wsX40, w ∈ wsX4_find := by decide +kernel
def f_X4_find_L2_s (a_bases : (Nat → Int32)) (a_tops : (Nat → Int32)) (a_words : (Nat → Int32)) (y1 : Int32) (y2 : Int32) (rc : Int32 → Option (Nat × Int32)) (z3 : Int32) : Option (Nat × Int32) :=
  if z3 < 0 then some (0, 0) else ck (inR y1 2) (if (a_tops y1.toNatClampNeg) ≤ z3 then some (0, 0) else Option.bind (f_X4_behind a_tops a_words y1 z3) fun o2 => if o2 < 0 then rc o2 else ck (inR y1 2) (if y2 = ((a_bases y1.toNatClampNeg) + ((4 : Int32) * z3)) then some (1, z3) else rc o2))
def f_X4_find_L2 (a_bases : (Nat → Int32)) (a_tops : (Nat → Int32)) (a_words : (Nat → Int32)) (y1 : Int32) (y2 : Int32) : Nat → Int32 → Option (Nat × Int32)
  | 0, _ => none
  | n + 1, z3 => f_X4_find_L2_s a_bases a_tops a_words y1 y2 (f_X4_find_L2 a_bases a_tops a_words y1 y2 n) z3
set_option maxHeartbeats 4000000 in
theorem w_X4_find_L2 {p : Program} {l : Launch} {e : Env} {s : State} {m : MethodId} {args : Array Value} {below : List Frame} {meth : Method} {c : Code} {A : Nat → Prop} {Q : State → Prop} {dC : Nat → ClassId} {dI : Nat → Nat → Nat} {cI cJ cH : ClassId} {a_p a_bases_p a_tops_p a_words_p a_roots_p a_order_p a_numbers_p a_image_p a_other_p a_input_p a_fresh_p a_freshRoots_p a_heads_p a_kept_p : Nat} {a_thrown : Int32} {a_bases : (Nat → Int32)} {a_tops : (Nat → Int32)} {a_words : (Nat → Int32)} {a_roots : (Nat → Int32)} {a_reached : Int32} {a_order : (Nat → Int32)} {a_numbers : (Nat → Int32)} {a_size : Int32} {a_image : (Nat → Int32)} {a_otherSize : Int32} {a_other : (Nat → Int32)} {a_waiting : Int32} {a_input : (Nat → Int32)} {a_at : Int32} {a_ended : Int32} {a_told : Int32} {a_many : Int32} {a_fresh : (Nat → Int32)} {a_freshRoots : (Nat → Int32)} {a_heads : (Nat → Int32)} {a_count : Int64} {a_kept : (Nat → Int32)} {y1 : Int32} {y2 : Int32} (F : gF p m c cX4_find 5 s args wsX4_find yX4_find.cls (dC, dI) vwCl (gT cI cJ cH) A) (hN : ∀ w ∈ gN, va_Nw w s) : ∀ (n : Nat) (z3 : Int32) (o : (Nat × Int32)), f_X4_find_L2 a_bases a_tops a_words y1 y2 n z3 = some o → (o.1 = 0 → gW p l e rm_X4_find s m args below meth c 0 0 Q (dC, dI) vwCl A 5 (wMd cI a_p a_bases_p a_tops_p a_words_p a_roots_p a_order_p a_numbers_p a_image_p a_other_p a_input_p a_fresh_p a_freshRoots_p a_heads_p a_kept_p a_thrown a_bases a_tops a_words a_roots a_reached a_order a_numbers a_size a_image a_otherSize a_other a_waiting a_input a_at a_ended a_told a_many a_fresh a_freshRoots a_heads a_count a_kept) [] 51 []) → (o.1 = 1 → gW p l e rm_X4_find s m args below meth c 0 0 Q (dC, dI) vwCl A 5 (wMd cI a_p a_bases_p a_tops_p a_words_p a_roots_p a_order_p a_numbers_p a_image_p a_other_p a_input_p a_fresh_p a_freshRoots_p a_heads_p a_kept_p a_thrown a_bases a_tops a_words a_roots a_reached a_order a_numbers a_size a_image a_otherSize a_other a_waiting a_input a_at a_ended a_told a_many a_fresh a_freshRoots a_heads a_count a_kept) [(3, .int o.2)] 43 []) → gW p l e rm_X4_find s m args below meth c 0 0 Q (dC, dI) vwCl A 5 (wMd cI a_p a_bases_p a_tops_p a_words_p a_roots_p a_order_p a_numbers_p a_image_p a_other_p a_input_p a_fresh_p a_freshRoots_p a_heads_p a_kept_p a_thrown a_bases a_tops a_words a_roots a_reached a_order a_numbers a_size a_image a_otherSize a_other a_waiting a_input a_at a_ended a_told a_many a_fresh a_freshRoots a_heads a_count a_kept) [(0, .ref a_p), (1, .int y1), (2, .int y2), (3, .int z3)] 2 [] := by
  intro n
  induction n with
  | zero =>
    intro z3 o hf E0 E1
    change none = some o at hf
    cases hf
  | succ n ih =>
    intro z3 o hf E0 E1
    change f_X4_find_L2_s a_bases a_tops a_words y1 y2 (f_X4_find_L2 a_bases a_tops a_words y1 y2 n) z3 = some o at hf
    unfold f_X4_find_L2_s at hf
    refine g_iload_n F dX4_find_2 rfl 3 rfl ?_
    refine g_if_lt (tgt := 51) F dX4_find_3 (by decide) (fun c3 => ?_) (fun c3 => ?_)
    · have hf := iteT hf c3
      cases hf
      refine g_lv [] rfl ?_
      exact E0 rfl
    · have hf := iteF hf c3
      refine g_iload_n F dX4_find_6 rfl 3 rfl ?_
      refine g_aload_n F dX4_find_7 rfl 0 rfl ?_
      refine g_get F h_X4_find_4 0 rfl rfl 2 (by decide) (by decide +kernel) rfl dX4_find_8 ?_
      refine g_iload_n F dX4_find_11 rfl 1 rfl ?_
      obtain ⟨h1, hf⟩ := ckE hf
      refine g_iald F 2 0 rfl rfl h1 dX4_find_12 ?_
      refine g_icmp_ge (tgt := 51) F dX4_find_13 (by decide) (fun c13 => ?_) (fun c13 => ?_)
      · have hf := iteT hf c13
        cases hf
        refine g_lv [] rfl ?_
        exact E0 rfl
      · have hf := iteF hf c13
        refine g_aload_n F dX4_find_16 rfl 0 rfl ?_
        refine g_iload_n F dX4_find_17 rfl 1 rfl ?_
        refine g_iload_n F dX4_find_18 rfl 3 rfl ?_
        obtain ⟨o2, ho2, hf⟩ := bnE hf
        refine g_callPi (n := 2) (As := [.int y1, .int z3]) F (c_X4_behind l dC dI cI cJ cH a_p a_bases_p a_tops_p a_words_p a_roots_p a_order_p a_numbers_p a_image_p a_other_p a_input_p a_fresh_p a_freshRoots_p a_heads_p a_kept_p a_thrown a_bases a_tops a_words a_roots a_reached a_order a_numbers a_size a_image a_otherSize a_other a_waiting a_input a_at a_ended a_told a_many a_fresh a_freshRoots a_heads a_count a_kept y1 z3 o2 ho2) ggX4_find_X4_behind rfl rfl rfl (by decide +kernel) (by decide +kernel) (by decide +kernel) (by decide +kernel) (by decide +kernel) ⟨Nat.le_of_ble_eq_true rfl, Nat.le_of_ble_eq_true rfl⟩ ⟨Nat.le_of_ble_eq_true rfl, Nat.le_of_ble_eq_true rfl⟩ hN 0 rfl rfl rfl ([]) ([]) rfl (fun _ => rfl) rfl (Nat.le_of_ble_eq_true rfl) rfl dX4_find_19 (cells' := 0) (slots' := 0) rfl rfl (fun r u hp => ?_)
        subst hp
        refine g_ws (ws' := wMd cI a_p a_bases_p a_tops_p a_words_p a_roots_p a_order_p a_numbers_p a_image_p a_other_p a_input_p a_fresh_p a_freshRoots_p a_heads_p a_kept_p a_thrown a_bases a_tops a_words a_roots a_reached a_order a_numbers a_size a_image a_otherSize a_other a_waiting a_input a_at a_ended a_told a_many a_fresh a_freshRoots a_heads a_count a_kept) rfl ?_
        refine g_istore (lv' := [(4, .int o2), (0, .ref a_p), (1, .int y1), (2, .int y2), (3, .int z3)]) F dX4_find_22 (by decide) rfl ?_
        refine g_iload F dX4_find_24 0 rfl ?_
        refine g_if_lt (tgt := 45) F dX4_find_26 (by decide) (fun c26 => ?_) (fun c26 => ?_)
        · have hf := iteT hf c26
          refine g_iload F dX4_find_45 0 rfl ?_
          refine g_istore_n (lv' := [(3, .int o2), (4, .int o2), (0, .ref a_p), (1, .int y1), (2, .int y2)]) F dX4_find_47 rfl (by decide) rfl ?_
          refine g_goto (tgt := 2) F dX4_find_48 (by decide) ?_
          refine g_lv [2, 3, 4, 0] rfl ?_
          exact ih _ o hf E0 E1
        · have hf := iteF hf c26
          refine g_iload_n F dX4_find_29 rfl 3 rfl ?_
          refine g_aload_n F dX4_find_30 rfl 1 rfl ?_
          refine g_get F h_X4_find_4 0 rfl rfl 1 (by decide) (by decide +kernel) rfl dX4_find_31 ?_
          refine g_iload_n F dX4_find_34 rfl 2 rfl ?_
          obtain ⟨h3, hf⟩ := ckE hf
          refine g_iald F 1 0 rfl rfl h3 dX4_find_35 ?_
          refine g_iconst (v := 4) F dX4_find_36 rfl ?_
          refine g_iload_n F dX4_find_37 rfl 4 rfl ?_
          refine g_imul F dX4_find_38 ?_
          refine g_iadd F dX4_find_39 ?_
          refine g_icmp_ne (tgt := 45) F dX4_find_40 (by decide) (fun c40 => ?_) (fun c40 => ?_)
          · have hf := iteF hf c40
            refine g_iload F dX4_find_45 0 rfl ?_
            refine g_istore_n (lv' := [(3, .int o2), (4, .int o2), (0, .ref a_p), (1, .int y1), (2, .int y2)]) F dX4_find_47 rfl (by decide) rfl ?_
            refine g_goto (tgt := 2) F dX4_find_48 (by decide) ?_
            refine g_lv [2, 3, 4, 0] rfl ?_
            exact ih _ o hf E0 E1
          · have hf := iteT hf c40
            cases hf
            refine g_lv [4] rfl ?_
            exact E1 rfl
def f_X4_find (a_bases : (Nat → Int32)) (a_tops : (Nat → Int32)) (a_words : (Nat → Int32)) (x1 : Int32) (x2 : Int32) : Option Int32 :=
  Option.bind (f_X4_find_L2 a_bases a_tops a_words x1 x2 FU (0 : Int32)) fun o4 => if o4.1 = 0 then some (-1 : Int32) else some o4.2
set_option maxHeartbeats 4000000 in
set_option maxRecDepth 100000 in
theorem c_X4_find (l : Launch) (dC : Nat → ClassId) (dI : Nat → Nat → Nat) (cI cJ cH : ClassId) (a_p a_bases_p a_tops_p a_words_p a_roots_p a_order_p a_numbers_p a_image_p a_other_p a_input_p a_fresh_p a_freshRoots_p a_heads_p a_kept_p : Nat)  (a_thrown : Int32) (a_bases : (Nat → Int32)) (a_tops : (Nat → Int32)) (a_words : (Nat → Int32)) (a_roots : (Nat → Int32)) (a_reached : Int32) (a_order : (Nat → Int32)) (a_numbers : (Nat → Int32)) (a_size : Int32) (a_image : (Nat → Int32)) (a_otherSize : Int32) (a_other : (Nat → Int32)) (a_waiting : Int32) (a_input : (Nat → Int32)) (a_at : Int32) (a_ended : Int32) (a_told : Int32) (a_many : Int32) (a_fresh : (Nat → Int32)) (a_freshRoots : (Nat → Int32)) (a_heads : (Nat → Int32)) (a_count : Int64) (a_kept : (Nat → Int32)) (x1 : Int32) (x2 : Int32) (o : Int32) (hf : f_X4_find a_bases a_tops a_words x1 x2 = some o) : ∀ sz : Nat, Met l yX4_find wsX4_find rm_X4_find (gPre [.ref a_p, .int x1, .int x2] (dC, dI) vwCl (gT cI cJ cH) (wMd cI a_p a_bases_p a_tops_p a_words_p a_roots_p a_order_p a_numbers_p a_image_p a_other_p a_input_p a_fresh_p a_freshRoots_p a_heads_p a_kept_p a_thrown a_bases a_tops a_words a_roots a_reached a_order a_numbers a_size a_image a_otherSize a_other a_waiting a_input a_at a_ended a_told a_many a_fresh a_freshRoots a_heads a_count a_kept) sz) (va_Qi (fun (r : Int32) (u : Unit) => o = r) (gB (dC, dI) vwCl (gT cI cJ cH) (fun (u : Unit) => wMd cI a_p a_bases_p a_tops_p a_words_p a_roots_p a_order_p a_numbers_p a_image_p a_other_p a_input_p a_fresh_p a_freshRoots_p a_heads_p a_kept_p a_thrown a_bases a_tops a_words a_roots a_reached a_order a_numbers a_size a_image a_otherSize a_other a_waiting a_input a_at a_ended a_told a_many a_fresh a_freshRoots a_heads a_count a_kept) (va_A (wMd cI a_p a_bases_p a_tops_p a_words_p a_roots_p a_order_p a_numbers_p a_image_p a_other_p a_input_p a_fresh_p a_freshRoots_p a_heads_p a_kept_p a_thrown a_bases a_tops a_words a_roots a_reached a_order a_numbers a_size a_image a_otherSize a_other a_waiting a_input a_at a_ended a_told a_many a_fresh a_freshRoots a_heads a_count a_kept) sz)) (va_A (wMd cI a_p a_bases_p a_tops_p a_words_p a_roots_p a_order_p a_numbers_p a_image_p a_other_p a_input_p a_fresh_p a_freshRoots_p a_heads_p a_kept_p a_thrown a_bases a_tops a_words a_roots a_reached a_order a_numbers a_size a_image a_otherSize a_other a_waiting a_input a_at a_ended a_told a_many a_fresh a_freshRoots a_heads a_count a_kept) sz)) 0 0 (va_A (wMd cI a_p a_bases_p a_tops_p a_words_p a_roots_p a_order_p a_numbers_p a_image_p a_other_p a_input_p a_fresh_p a_freshRoots_p a_heads_p a_kept_p a_thrown a_bases a_tops a_words a_roots a_reached a_order a_numbers a_size a_image a_otherSize a_other a_waiting a_input a_at a_ended a_told a_many a_fresh a_freshRoots a_heads a_count a_kept) sz) := by
  refine g_met (fun A => va_Qi (fun (r : Int32) (u : Unit) => o = r) (gB (dC, dI) vwCl (gT cI cJ cH) (fun (u : Unit) => wMd cI a_p a_bases_p a_tops_p a_words_p a_roots_p a_order_p a_numbers_p a_image_p a_other_p a_input_p a_fresh_p a_freshRoots_p a_heads_p a_kept_p a_thrown a_bases a_tops a_words a_roots a_reached a_order a_numbers a_size a_image a_otherSize a_other a_waiting a_input a_at a_ended a_told a_many a_fresh a_freshRoots a_heads a_count a_kept) A) A) (by decide) rfl (Nat.le_of_ble_eq_true rfl) ?_
  intro p e s m args below meth c A Q F hlocks hr hname hN hQ
  unfold f_X4_find at hf
  refine g_lvE (lv' := [(0, .ref a_p), (1, .int x1), (2, .int x2)]) rfl ?_
  refine g_iconst (v := 0) F dX4_find_0 rfl ?_
  refine g_istore_n (lv' := [(3, .int (0 : Int32)), (0, .ref a_p), (1, .int x1), (2, .int x2)]) F dX4_find_1 rfl (by decide) rfl ?_
  obtain ⟨o4, ho4, hf⟩ := bnE hf
  refine g_lv [1, 2, 3, 0] rfl ?_
  refine w_X4_find_L2 F hN FU _ o4 ho4 ?_ ?_
  · intro hk
    have hf := iteT hf hk
    refine g_iconst (v := -1) F dX4_find_51 rfl ?_
    subst hQ
    exact g_iret F hlocks hr () rfl (Option.some.inj hf).symm dX4_find_52
  · intro hk
    have hf := iteF hf (by rw [hk]; decide)
    refine g_iload_n F dX4_find_43 rfl 0 rfl ?_
    subst hQ
    exact g_iret F hlocks hr () rfl (Option.some.inj hf).symm dX4_find_44

/-! HeapImagesModel.slotsAt(II)I -/
def rm_X4_slotsAt : Room := { frames := 0, cells := 0, slots := 0, locals := 0 }
theorem h_X4_slotsAt_4 : ∀ w ∈ wsX40, w ∈ wsX4_slotsAt := by decide +kernel
def f_X4_slotsAt (a_words : (Nat → Int32)) (x1 : Int32) (x2 : Int32) : Option Int32 :=
  ck (inR (((256 : Int32) * x1) + x2) 512) (some ((a_words (((256 : Int32) * x1) + x2).toNatClampNeg) - (a_words (((256 : Int32) * x1) + x2).toNatClampNeg) / (64 : Int32) * (64 : Int32)))
set_option maxHeartbeats 4000000 in
set_option maxRecDepth 100000 in
theorem c_X4_slotsAt (l : Launch) (dC : Nat → ClassId) (dI : Nat → Nat → Nat) (cI cJ cH : ClassId) (a_p a_bases_p a_tops_p a_words_p a_roots_p a_order_p a_numbers_p a_image_p a_other_p a_input_p a_fresh_p a_freshRoots_p a_heads_p a_kept_p : Nat)  (a_thrown : Int32) (a_bases : (Nat → Int32)) (a_tops : (Nat → Int32)) (a_words : (Nat → Int32)) (a_roots : (Nat → Int32)) (a_reached : Int32) (a_order : (Nat → Int32)) (a_numbers : (Nat → Int32)) (a_size : Int32) (a_image : (Nat → Int32)) (a_otherSize : Int32) (a_other : (Nat → Int32)) (a_waiting : Int32) (a_input : (Nat → Int32)) (a_at : Int32) (a_ended : Int32) (a_told : Int32) (a_many : Int32) (a_fresh : (Nat → Int32)) (a_freshRoots : (Nat → Int32)) (a_heads : (Nat → Int32)) (a_count : Int64) (a_kept : (Nat → Int32)) (x1 : Int32) (x2 : Int32) (o : Int32) (hf : f_X4_slotsAt a_words x1 x2 = some o) : ∀ sz : Nat, Met l yX4_slotsAt wsX4_slotsAt rm_X4_slotsAt (gPre [.ref a_p, .int x1, .int x2] (dC, dI) vwCl (gT cI cJ cH) (wMd cI a_p a_bases_p a_tops_p a_words_p a_roots_p a_order_p a_numbers_p a_image_p a_other_p a_input_p a_fresh_p a_freshRoots_p a_heads_p a_kept_p a_thrown a_bases a_tops a_words a_roots a_reached a_order a_numbers a_size a_image a_otherSize a_other a_waiting a_input a_at a_ended a_told a_many a_fresh a_freshRoots a_heads a_count a_kept) sz) (va_Qi (fun (r : Int32) (u : Unit) => o = r) (gB (dC, dI) vwCl (gT cI cJ cH) (fun (u : Unit) => wMd cI a_p a_bases_p a_tops_p a_words_p a_roots_p a_order_p a_numbers_p a_image_p a_other_p a_input_p a_fresh_p a_freshRoots_p a_heads_p a_kept_p a_thrown a_bases a_tops a_words a_roots a_reached a_order a_numbers a_size a_image a_otherSize a_other a_waiting a_input a_at a_ended a_told a_many a_fresh a_freshRoots a_heads a_count a_kept) (va_A (wMd cI a_p a_bases_p a_tops_p a_words_p a_roots_p a_order_p a_numbers_p a_image_p a_other_p a_input_p a_fresh_p a_freshRoots_p a_heads_p a_kept_p a_thrown a_bases a_tops a_words a_roots a_reached a_order a_numbers a_size a_image a_otherSize a_other a_waiting a_input a_at a_ended a_told a_many a_fresh a_freshRoots a_heads a_count a_kept) sz)) (va_A (wMd cI a_p a_bases_p a_tops_p a_words_p a_roots_p a_order_p a_numbers_p a_image_p a_other_p a_input_p a_fresh_p a_freshRoots_p a_heads_p a_kept_p a_thrown a_bases a_tops a_words a_roots a_reached a_order a_numbers a_size a_image a_otherSize a_other a_waiting a_input a_at a_ended a_told a_many a_fresh a_freshRoots a_heads a_count a_kept) sz)) 0 0 (va_A (wMd cI a_p a_bases_p a_tops_p a_words_p a_roots_p a_order_p a_numbers_p a_image_p a_other_p a_input_p a_fresh_p a_freshRoots_p a_heads_p a_kept_p a_thrown a_bases a_tops a_words a_roots a_reached a_order a_numbers a_size a_image a_otherSize a_other a_waiting a_input a_at a_ended a_told a_many a_fresh a_freshRoots a_heads a_count a_kept) sz) := by
  refine g_met (fun A => va_Qi (fun (r : Int32) (u : Unit) => o = r) (gB (dC, dI) vwCl (gT cI cJ cH) (fun (u : Unit) => wMd cI a_p a_bases_p a_tops_p a_words_p a_roots_p a_order_p a_numbers_p a_image_p a_other_p a_input_p a_fresh_p a_freshRoots_p a_heads_p a_kept_p a_thrown a_bases a_tops a_words a_roots a_reached a_order a_numbers a_size a_image a_otherSize a_other a_waiting a_input a_at a_ended a_told a_many a_fresh a_freshRoots a_heads a_count a_kept) A) A) (by decide) rfl (Nat.le_of_ble_eq_true rfl) ?_
  intro p e s m args below meth c A Q F hlocks hr hname hN hQ
  unfold f_X4_slotsAt at hf
  refine g_lvE (lv' := [(0, .ref a_p), (1, .int x1), (2, .int x2)]) rfl ?_
  refine g_aload_n F dX4_slotsAt_0 rfl 0 rfl ?_
  refine g_get F h_X4_slotsAt_4 0 rfl rfl 3 (by decide) (by decide +kernel) rfl dX4_slotsAt_1 ?_
  refine g_sipush (v := 256) F dX4_slotsAt_4 rfl ?_
  refine g_iload_n F dX4_slotsAt_7 rfl 1 rfl ?_
  refine g_imul F dX4_slotsAt_8 ?_
  refine g_iload_n F dX4_slotsAt_9 rfl 2 rfl ?_
  refine g_iadd F dX4_slotsAt_10 ?_
  obtain ⟨h1, hf⟩ := ckE hf
  refine g_iald F 3 0 rfl rfl h1 dX4_slotsAt_11 ?_
  refine g_bipush (v := 64) F dX4_slotsAt_12 rfl ?_
  refine g_irem F dX4_slotsAt_14 (by decide) ?_
  subst hQ
  exact g_iret F hlocks hr () rfl (Option.some.inj hf).symm dX4_slotsAt_15

/-! HeapImagesModel.slotOf(III)I -/
def rm_X4_slotOf : Room := { frames := 4, cells := 0, slots := 0, locals := 89 }
def f_X4_slotOf (a_bases : (Nat → Int32)) (a_tops : (Nat → Int32)) (a_words : (Nat → Int32)) (x1 : Int32) (x2 : Int32) (x3 : Int32) : Option Int32 :=
  Option.bind (f_X4_isHeap x1) fun o1 => Option.bind (α := Int32) (if o1 = 0 then some (-1 : Int32) else Option.bind (f_X4_find a_bases a_tops a_words x1 x2) fun o4 => some o4) fun j2 => if j2 < 0 then some (-1 : Int32) else if x3 < 0 then some (-1 : Int32) else Option.bind (f_X4_slotsAt a_words x1 j2) fun o3 => if x3 < o3 then some (((((256 : Int32) * x1) + j2) + (1 : Int32)) + x3) else some (-1 : Int32)
set_option maxHeartbeats 4000000 in
set_option maxRecDepth 100000 in
theorem c_X4_slotOf (l : Launch) (dC : Nat → ClassId) (dI : Nat → Nat → Nat) (cI cJ cH : ClassId) (a_p a_bases_p a_tops_p a_words_p a_roots_p a_order_p a_numbers_p a_image_p a_other_p a_input_p a_fresh_p a_freshRoots_p a_heads_p a_kept_p : Nat)  (a_thrown : Int32) (a_bases : (Nat → Int32)) (a_tops : (Nat → Int32)) (a_words : (Nat → Int32)) (a_roots : (Nat → Int32)) (a_reached : Int32) (a_order : (Nat → Int32)) (a_numbers : (Nat → Int32)) (a_size : Int32) (a_image : (Nat → Int32)) (a_otherSize : Int32) (a_other : (Nat → Int32)) (a_waiting : Int32) (a_input : (Nat → Int32)) (a_at : Int32) (a_ended : Int32) (a_told : Int32) (a_many : Int32) (a_fresh : (Nat → Int32)) (a_freshRoots : (Nat → Int32)) (a_heads : (Nat → Int32)) (a_count : Int64) (a_kept : (Nat → Int32)) (x1 : Int32) (x2 : Int32) (x3 : Int32) (o : Int32) (hf : f_X4_slotOf a_bases a_tops a_words x1 x2 x3 = some o) : ∀ sz : Nat, Met l yX4_slotOf wsX4_slotOf rm_X4_slotOf (gPre [.ref a_p, .int x1, .int x2, .int x3] (dC, dI) vwCl (gT cI cJ cH) (wMd cI a_p a_bases_p a_tops_p a_words_p a_roots_p a_order_p a_numbers_p a_image_p a_other_p a_input_p a_fresh_p a_freshRoots_p a_heads_p a_kept_p a_thrown a_bases a_tops a_words a_roots a_reached a_order a_numbers a_size a_image a_otherSize a_other a_waiting a_input a_at a_ended a_told a_many a_fresh a_freshRoots a_heads a_count a_kept) sz) (va_Qi (fun (r : Int32) (u : Unit) => o = r) (gB (dC, dI) vwCl (gT cI cJ cH) (fun (u : Unit) => wMd cI a_p a_bases_p a_tops_p a_words_p a_roots_p a_order_p a_numbers_p a_image_p a_other_p a_input_p a_fresh_p a_freshRoots_p a_heads_p a_kept_p a_thrown a_bases a_tops a_words a_roots a_reached a_order a_numbers a_size a_image a_otherSize a_other a_waiting a_input a_at a_ended a_told a_many a_fresh a_freshRoots a_heads a_count a_kept) (va_A (wMd cI a_p a_bases_p a_tops_p a_words_p a_roots_p a_order_p a_numbers_p a_image_p a_other_p a_input_p a_fresh_p a_freshRoots_p a_heads_p a_kept_p a_thrown a_bases a_tops a_words a_roots a_reached a_order a_numbers a_size a_image a_otherSize a_other a_waiting a_input a_at a_ended a_told a_many a_fresh a_freshRoots a_heads a_count a_kept) sz)) (va_A (wMd cI a_p a_bases_p a_tops_p a_words_p a_roots_p a_order_p a_numbers_p a_image_p a_other_p a_input_p a_fresh_p a_freshRoots_p a_heads_p a_kept_p a_thrown a_bases a_tops a_words a_roots a_reached a_order a_numbers a_size a_image a_otherSize a_other a_waiting a_input a_at a_ended a_told a_many a_fresh a_freshRoots a_heads a_count a_kept) sz)) 0 0 (va_A (wMd cI a_p a_bases_p a_tops_p a_words_p a_roots_p a_order_p a_numbers_p a_image_p a_other_p a_input_p a_fresh_p a_freshRoots_p a_heads_p a_kept_p a_thrown a_bases a_tops a_words a_roots a_reached a_order a_numbers a_size a_image a_otherSize a_other a_waiting a_input a_at a_ended a_told a_many a_fresh a_freshRoots a_heads a_count a_kept) sz) := by
  refine g_met (fun A => va_Qi (fun (r : Int32) (u : Unit) => o = r) (gB (dC, dI) vwCl (gT cI cJ cH) (fun (u : Unit) => wMd cI a_p a_bases_p a_tops_p a_words_p a_roots_p a_order_p a_numbers_p a_image_p a_other_p a_input_p a_fresh_p a_freshRoots_p a_heads_p a_kept_p a_thrown a_bases a_tops a_words a_roots a_reached a_order a_numbers a_size a_image a_otherSize a_other a_waiting a_input a_at a_ended a_told a_many a_fresh a_freshRoots a_heads a_count a_kept) A) A) (by decide) rfl (Nat.le_of_ble_eq_true rfl) ?_
  intro p e s m args below meth c A Q F hlocks hr hname hN hQ
  unfold f_X4_slotOf at hf
  refine g_lvE (lv' := [(0, .ref a_p), (1, .int x1), (2, .int x2), (3, .int x3)]) rfl ?_
  refine g_iload_n F dX4_slotOf_0 rfl 1 rfl ?_
  obtain ⟨o1, ho1, hf⟩ := bnE hf
  refine g_callSi (n := 1) (As := [.int x1]) F (c_X4_isHeap l dC dI cI cJ cH x1 o1 ho1) ggX4_slotOf_X4_isHeap rfl rfl rfl (by decide +kernel) (by decide +kernel) (by decide +kernel) (by decide +kernel) ⟨Nat.le_of_ble_eq_true rfl, Nat.le_of_ble_eq_true rfl⟩ ⟨Nat.le_of_ble_eq_true rfl, Nat.le_of_ble_eq_true rfl⟩ hN [] rfl rfl (fun _ => rfl) rfl (Nat.le_of_ble_eq_true rfl) rfl dX4_slotOf_1 (cells' := 0) (slots' := 0) rfl rfl (fun r u hp => ?_)
  subst hp
  refine g_ws (ws' := wMd cI a_p a_bases_p a_tops_p a_words_p a_roots_p a_order_p a_numbers_p a_image_p a_other_p a_input_p a_fresh_p a_freshRoots_p a_heads_p a_kept_p a_thrown a_bases a_tops a_words a_roots a_reached a_order a_numbers a_size a_image a_otherSize a_other a_waiting a_input a_at a_ended a_told a_many a_fresh a_freshRoots a_heads a_count a_kept) rfl ?_
  obtain ⟨j2, hj2, hf⟩ := bnE hf
  have Kj2 : gW p l e rm_X4_slotOf s m args below meth c 0 0 Q (dC, dI) vwCl A 5 (wMd cI a_p a_bases_p a_tops_p a_words_p a_roots_p a_order_p a_numbers_p a_image_p a_other_p a_input_p a_fresh_p a_freshRoots_p a_heads_p a_kept_p a_thrown a_bases a_tops a_words a_roots a_reached a_order a_numbers a_size a_image a_otherSize a_other a_waiting a_input a_at a_ended a_told a_many a_fresh a_freshRoots a_heads a_count a_kept) [(0, .ref a_p), (1, .int x1), (3, .int x3)] 17 [.int j2] := by
    refine g_istore (lv' := [(4, .int j2), (0, .ref a_p), (1, .int x1), (3, .int x3)]) F dX4_slotOf_17 (by decide) rfl ?_
    refine g_iload F dX4_slotOf_19 0 rfl ?_
    refine g_if_lt (tgt := 39) F dX4_slotOf_21 (by decide) (fun c21 => ?_) (fun c21 => ?_)
    · have hf := iteT hf c21
      refine g_iconst (v := -1) F dX4_slotOf_39 rfl ?_
      refine g_goto (tgt := 55) F dX4_slotOf_40 (by decide) ?_
      subst hQ
      exact g_iret F hlocks hr () rfl (Option.some.inj hf).symm dX4_slotOf_55
    · have hf := iteF hf c21
      refine g_iload_n F dX4_slotOf_24 rfl 3 rfl ?_
      refine g_if_lt (tgt := 39) F dX4_slotOf_25 (by decide) (fun c25 => ?_) (fun c25 => ?_)
      · have hf := iteT hf c25
        refine g_iconst (v := -1) F dX4_slotOf_39 rfl ?_
        refine g_goto (tgt := 55) F dX4_slotOf_40 (by decide) ?_
        subst hQ
        exact g_iret F hlocks hr () rfl (Option.some.inj hf).symm dX4_slotOf_55
      · have hf := iteF hf c25
        refine g_iload_n F dX4_slotOf_28 rfl 3 rfl ?_
        refine g_aload_n F dX4_slotOf_29 rfl 1 rfl ?_
        refine g_iload_n F dX4_slotOf_30 rfl 2 rfl ?_
        refine g_iload F dX4_slotOf_31 0 rfl ?_
        obtain ⟨o3, ho3, hf⟩ := bnE hf
        refine g_callPi (n := 2) (As := [.int x1, .int j2]) F (c_X4_slotsAt l dC dI cI cJ cH a_p a_bases_p a_tops_p a_words_p a_roots_p a_order_p a_numbers_p a_image_p a_other_p a_input_p a_fresh_p a_freshRoots_p a_heads_p a_kept_p a_thrown a_bases a_tops a_words a_roots a_reached a_order a_numbers a_size a_image a_otherSize a_other a_waiting a_input a_at a_ended a_told a_many a_fresh a_freshRoots a_heads a_count a_kept x1 j2 o3 ho3) ggX4_slotOf_X4_slotsAt rfl rfl rfl (by decide +kernel) (by decide +kernel) (by decide +kernel) (by decide +kernel) (by decide +kernel) ⟨Nat.le_of_ble_eq_true rfl, Nat.le_of_ble_eq_true rfl⟩ ⟨Nat.le_of_ble_eq_true rfl, Nat.le_of_ble_eq_true rfl⟩ hN 0 rfl rfl rfl ([]) ([]) rfl (fun _ => rfl) rfl (Nat.le_of_ble_eq_true rfl) rfl dX4_slotOf_33 (cells' := 0) (slots' := 0) rfl rfl (fun r u hp => ?_)
        subst hp
        refine g_ws (ws' := wMd cI a_p a_bases_p a_tops_p a_words_p a_roots_p a_order_p a_numbers_p a_image_p a_other_p a_input_p a_fresh_p a_freshRoots_p a_heads_p a_kept_p a_thrown a_bases a_tops a_words a_roots a_reached a_order a_numbers a_size a_image a_otherSize a_other a_waiting a_input a_at a_ended a_told a_many a_fresh a_freshRoots a_heads a_count a_kept) rfl ?_
        refine g_icmp_lt (tgt := 43) F dX4_slotOf_36 (by decide) (fun c36 => ?_) (fun c36 => ?_)
        · have hf := iteT hf c36
          refine g_sipush (v := 256) F dX4_slotOf_43 rfl ?_
          refine g_iload_n F dX4_slotOf_46 rfl 2 rfl ?_
          refine g_imul F dX4_slotOf_47 ?_
          refine g_iload F dX4_slotOf_48 0 rfl ?_
          refine g_iadd F dX4_slotOf_50 ?_
          refine g_iconst (v := 1) F dX4_slotOf_51 rfl ?_
          refine g_iadd F dX4_slotOf_52 ?_
          refine g_iload_n F dX4_slotOf_53 rfl 3 rfl ?_
          refine g_iadd F dX4_slotOf_54 ?_
          subst hQ
          exact g_iret F hlocks hr () rfl (Option.some.inj hf).symm dX4_slotOf_55
        · have hf := iteF hf c36
          refine g_iconst (v := -1) F dX4_slotOf_39 rfl ?_
          refine g_goto (tgt := 55) F dX4_slotOf_40 (by decide) ?_
          subst hQ
          exact g_iret F hlocks hr () rfl (Option.some.inj hf).symm dX4_slotOf_55
  clear hf
  have hf := hj2
  refine g_if_eq (tgt := 16) F dX4_slotOf_4 (by decide) (fun c4 => ?_) (fun c4 => ?_)
  · have hf := iteT hf c4
    refine g_iconst (v := -1) F dX4_slotOf_16 rfl ?_
    cases hf
    refine g_lv [0, 1, 3] rfl ?_
    exact Kj2
  · have hf := iteF hf c4
    refine g_aload_n F dX4_slotOf_7 rfl 0 rfl ?_
    refine g_iload_n F dX4_slotOf_8 rfl 1 rfl ?_
    refine g_iload_n F dX4_slotOf_9 rfl 2 rfl ?_
    obtain ⟨o4, ho4, hf⟩ := bnE hf
    refine g_callPi (n := 2) (As := [.int x1, .int x2]) F (c_X4_find l dC dI cI cJ cH a_p a_bases_p a_tops_p a_words_p a_roots_p a_order_p a_numbers_p a_image_p a_other_p a_input_p a_fresh_p a_freshRoots_p a_heads_p a_kept_p a_thrown a_bases a_tops a_words a_roots a_reached a_order a_numbers a_size a_image a_otherSize a_other a_waiting a_input a_at a_ended a_told a_many a_fresh a_freshRoots a_heads a_count a_kept x1 x2 o4 ho4) ggX4_slotOf_X4_find rfl rfl rfl (by decide +kernel) (by decide +kernel) (by decide +kernel) (by decide +kernel) (by decide +kernel) ⟨Nat.le_of_ble_eq_true rfl, Nat.le_of_ble_eq_true rfl⟩ ⟨Nat.le_of_ble_eq_true rfl, Nat.le_of_ble_eq_true rfl⟩ hN 0 rfl rfl rfl ([]) ([]) rfl (fun _ => rfl) rfl (Nat.le_of_ble_eq_true rfl) rfl dX4_slotOf_10 (cells' := 0) (slots' := 0) rfl rfl (fun r u hp => ?_)
    subst hp
    refine g_ws (ws' := wMd cI a_p a_bases_p a_tops_p a_words_p a_roots_p a_order_p a_numbers_p a_image_p a_other_p a_input_p a_fresh_p a_freshRoots_p a_heads_p a_kept_p a_thrown a_bases a_tops a_words a_roots a_reached a_order a_numbers a_size a_image a_otherSize a_other a_waiting a_input a_at a_ended a_told a_many a_fresh a_freshRoots a_heads a_count a_kept) rfl ?_
    refine g_goto (tgt := 17) F dX4_slotOf_13 (by decide) ?_
    cases hf
    refine g_lv [0, 1, 3] rfl ?_
    exact Kj2

/-! HeapImagesModel.set(IIII)I -/
def rm_X4_set : Room := { frames := 5, cells := 0, slots := 0, locals := 113 }
theorem h_X4_set_4 : ∀ w ∈ wsX40, w ∈ wsX4_set := by decide +kernel
def f_X4_set (a_thrown : Int32) (a_bases : (Nat → Int32)) (a_tops : (Nat → Int32)) (a_words : (Nat → Int32)) (x1 : Int32) (x2 : Int32) (x3 : Int32) (x4 : Int32) : Option (Int32 × Int32 × (Nat → Int32)) :=
  Option.bind (f_X4_slotOf a_bases a_tops a_words x1 x2 x3) fun o1 => Option.bind (α := Int32) (if 0 ≤ o1 then some (0 : Int32) else some (1 : Int32)) fun j2 => if 0 ≤ o1 then ck (inR o1 512) (nm (a_words o1.toNatClampNeg) fun v4 => ck (inR o1 512) (some (v4, j2, upd a_words o1.toNatClampNeg x4))) else some ((0 : Int32), j2, a_words)
set_option maxHeartbeats 4000000 in
set_option maxRecDepth 100000 in
theorem c_X4_set (l : Launch) (dC : Nat → ClassId) (dI : Nat → Nat → Nat) (cI cJ cH : ClassId) (a_p a_bases_p a_tops_p a_words_p a_roots_p a_order_p a_numbers_p a_image_p a_other_p a_input_p a_fresh_p a_freshRoots_p a_heads_p a_kept_p : Nat)  (a_thrown : Int32) (a_bases : (Nat → Int32)) (a_tops : (Nat → Int32)) (a_words : (Nat → Int32)) (a_roots : (Nat → Int32)) (a_reached : Int32) (a_order : (Nat → Int32)) (a_numbers : (Nat → Int32)) (a_size : Int32) (a_image : (Nat → Int32)) (a_otherSize : Int32) (a_other : (Nat → Int32)) (a_waiting : Int32) (a_input : (Nat → Int32)) (a_at : Int32) (a_ended : Int32) (a_told : Int32) (a_many : Int32) (a_fresh : (Nat → Int32)) (a_freshRoots : (Nat → Int32)) (a_heads : (Nat → Int32)) (a_count : Int64) (a_kept : (Nat → Int32)) (x1 : Int32) (x2 : Int32) (x3 : Int32) (x4 : Int32) (o : (Int32 × Int32 × (Nat → Int32))) (hf : f_X4_set a_thrown a_bases a_tops a_words x1 x2 x3 x4 = some o) : ∀ sz : Nat, Met l yX4_set wsX4_set rm_X4_set (gPre [.ref a_p, .int x1, .int x2, .int x3, .int x4] (dC, dI) vwCl (gT cI cJ cH) (wMd cI a_p a_bases_p a_tops_p a_words_p a_roots_p a_order_p a_numbers_p a_image_p a_other_p a_input_p a_fresh_p a_freshRoots_p a_heads_p a_kept_p a_thrown a_bases a_tops a_words a_roots a_reached a_order a_numbers a_size a_image a_otherSize a_other a_waiting a_input a_at a_ended a_told a_many a_fresh a_freshRoots a_heads a_count a_kept) sz) (va_Qi (fun (r : Int32) (u : (Int32 × (Nat → Int32))) => o.1 = r ∧ o.2 = u) (gB (dC, dI) vwCl (gT cI cJ cH) (fun (u : (Int32 × (Nat → Int32))) => wMd cI a_p a_bases_p a_tops_p a_words_p a_roots_p a_order_p a_numbers_p a_image_p a_other_p a_input_p a_fresh_p a_freshRoots_p a_heads_p a_kept_p u.1 a_bases a_tops u.2 a_roots a_reached a_order a_numbers a_size a_image a_otherSize a_other a_waiting a_input a_at a_ended a_told a_many a_fresh a_freshRoots a_heads a_count a_kept) (va_A (wMd cI a_p a_bases_p a_tops_p a_words_p a_roots_p a_order_p a_numbers_p a_image_p a_other_p a_input_p a_fresh_p a_freshRoots_p a_heads_p a_kept_p a_thrown a_bases a_tops a_words a_roots a_reached a_order a_numbers a_size a_image a_otherSize a_other a_waiting a_input a_at a_ended a_told a_many a_fresh a_freshRoots a_heads a_count a_kept) sz)) (va_A (wMd cI a_p a_bases_p a_tops_p a_words_p a_roots_p a_order_p a_numbers_p a_image_p a_other_p a_input_p a_fresh_p a_freshRoots_p a_heads_p a_kept_p a_thrown a_bases a_tops a_words a_roots a_reached a_order a_numbers a_size a_image a_otherSize a_other a_waiting a_input a_at a_ended a_told a_many a_fresh a_freshRoots a_heads a_count a_kept) sz)) 0 0 (va_A (wMd cI a_p a_bases_p a_tops_p a_words_p a_roots_p a_order_p a_numbers_p a_image_p a_other_p a_input_p a_fresh_p a_freshRoots_p a_heads_p a_kept_p a_thrown a_bases a_tops a_words a_roots a_reached a_order a_numbers a_size a_image a_otherSize a_other a_waiting a_input a_at a_ended a_told a_many a_fresh a_freshRoots a_heads a_count a_kept) sz) := by
  refine g_met (fun A => va_Qi (fun (r : Int32) (u : (Int32 × (Nat → Int32))) => o.1 = r ∧ o.2 = u) (gB (dC, dI) vwCl (gT cI cJ cH) (fun (u : (Int32 × (Nat → Int32))) => wMd cI a_p a_bases_p a_tops_p a_words_p a_roots_p a_order_p a_numbers_p a_image_p a_other_p a_input_p a_fresh_p a_freshRoots_p a_heads_p a_kept_p u.1 a_bases a_tops u.2 a_roots a_reached a_order a_numbers a_size a_image a_otherSize a_other a_waiting a_input a_at a_ended a_told a_many a_fresh a_freshRoots a_heads a_count a_kept) A) A) (by decide) rfl (Nat.le_of_ble_eq_true rfl) ?_
  intro p e s m args below meth c A Q F hlocks hr hname hN hQ
  unfold f_X4_set at hf
  refine g_lvE (lv' := [(0, .ref a_p), (1, .int x1), (2, .int x2), (3, .int x3), (4, .int x4)]) rfl ?_
  refine g_aload_n F dX4_set_0 rfl 0 rfl ?_
  refine g_iload_n F dX4_set_1 rfl 1 rfl ?_
  refine g_iload_n F dX4_set_2 rfl 2 rfl ?_
  refine g_iload_n F dX4_set_3 rfl 3 rfl ?_
  obtain ⟨o1, ho1, hf⟩ := bnE hf
  refine g_callPi (n := 3) (As := [.int x1, .int x2, .int x3]) F (c_X4_slotOf l dC dI cI cJ cH a_p a_bases_p a_tops_p a_words_p a_roots_p a_order_p a_numbers_p a_image_p a_other_p a_input_p a_fresh_p a_freshRoots_p a_heads_p a_kept_p a_thrown a_bases a_tops a_words a_roots a_reached a_order a_numbers a_size a_image a_otherSize a_other a_waiting a_input a_at a_ended a_told a_many a_fresh a_freshRoots a_heads a_count a_kept x1 x2 x3 o1 ho1) ggX4_set_X4_slotOf rfl rfl rfl (by decide +kernel) (by decide +kernel) (by decide +kernel) (by decide +kernel) (by decide +kernel) ⟨Nat.le_of_ble_eq_true rfl, Nat.le_of_ble_eq_true rfl⟩ ⟨Nat.le_of_ble_eq_true rfl, Nat.le_of_ble_eq_true rfl⟩ hN 0 rfl rfl rfl ([]) ([]) rfl (fun _ => rfl) rfl (Nat.le_of_ble_eq_true rfl) rfl dX4_set_4 (cells' := 0) (slots' := 0) rfl rfl (fun r u hp => ?_)
  subst hp
  refine g_ws (ws' := wMd cI a_p a_bases_p a_tops_p a_words_p a_roots_p a_order_p a_numbers_p a_image_p a_other_p a_input_p a_fresh_p a_freshRoots_p a_heads_p a_kept_p a_thrown a_bases a_tops a_words a_roots a_reached a_order a_numbers a_size a_image a_otherSize a_other a_waiting a_input a_at a_ended a_told a_many a_fresh a_freshRoots a_heads a_count a_kept) rfl ?_
  refine g_istore (lv' := [(5, .int o1), (0, .ref a_p), (1, .int x1), (2, .int x2), (3, .int x3), (4, .int x4)]) F dX4_set_7 (by decide) rfl ?_
  refine g_aload_n F dX4_set_9 rfl 1 rfl ?_
  refine g_iload F dX4_set_10 0 rfl ?_
  obtain ⟨j2, hj2, hf⟩ := bnE hf
  have Kj2 : gW p l e rm_X4_set s m args below meth c 0 0 Q (dC, dI) vwCl A 7 (wMd cI a_p a_bases_p a_tops_p a_words_p a_roots_p a_order_p a_numbers_p a_image_p a_other_p a_input_p a_fresh_p a_freshRoots_p a_heads_p a_kept_p a_thrown a_bases a_tops a_words a_roots a_reached a_order a_numbers a_size a_image a_otherSize a_other a_waiting a_input a_at a_ended a_told a_many a_fresh a_freshRoots a_heads a_count a_kept) [(0, .ref a_p), (4, .int x4), (5, .int o1)] 20 [.int j2, .ref a_p] := by
    refine g_put F h_X4_set_4 tyX4 tyX4_ok nmX4 0 rfl rfl 0 (by decide) (by decide +kernel) rfl rfl rfl (Nat.le_of_ble_eq_true rfl) dX4_set_20 (ws' := wMd cI a_p a_bases_p a_tops_p a_words_p a_roots_p a_order_p a_numbers_p a_image_p a_other_p a_input_p a_fresh_p a_freshRoots_p a_heads_p a_kept_p j2 a_bases a_tops a_words a_roots a_reached a_order a_numbers a_size a_image a_otherSize a_other a_waiting a_input a_at a_ended a_told a_many a_fresh a_freshRoots a_heads a_count a_kept) rfl ?_
    refine g_iload F dX4_set_23 2 rfl ?_
    refine g_if_ge (tgt := 30) F dX4_set_25 (by decide) (fun c25 => ?_) (fun c25 => ?_)
    · have hf := iteT hf c25
      refine g_aload_n F dX4_set_30 rfl 0 rfl ?_
      refine g_get F h_X4_set_4 0 rfl rfl 3 (by decide) (by decide +kernel) rfl dX4_set_31 ?_
      refine g_iload F dX4_set_34 2 rfl ?_
      obtain ⟨h3, hf⟩ := ckE hf
      refine g_iald F 3 0 rfl rfl h3 dX4_set_36 ?_
      obtain ⟨v4, ev4, hf⟩ := nmE hf
      refine g_nmi ev4 ?_
      refine g_istore (lv' := [(6, .int v4), (0, .ref a_p), (4, .int x4), (5, .int o1)]) F dX4_set_37 (by decide) rfl ?_
      refine g_aload_n F dX4_set_39 rfl 1 rfl ?_
      refine g_get F h_X4_set_4 0 rfl rfl 3 (by decide) (by decide +kernel) rfl dX4_set_40 ?_
      refine g_iload F dX4_set_43 3 rfl ?_
      refine g_iload F dX4_set_45 2 rfl ?_
      obtain ⟨h5, hf⟩ := ckE hf
      refine g_iast F 3 0 rfl rfl h5 dX4_set_47 (ws' := wMd cI a_p a_bases_p a_tops_p a_words_p a_roots_p a_order_p a_numbers_p a_image_p a_other_p a_input_p a_fresh_p a_freshRoots_p a_heads_p a_kept_p j2 a_bases a_tops (upd a_words o1.toNatClampNeg x4) a_roots a_reached a_order a_numbers a_size a_image a_otherSize a_other a_waiting a_input a_at a_ended a_told a_many a_fresh a_freshRoots a_heads a_count a_kept) rfl ?_
      refine g_iload F dX4_set_48 0 rfl ?_
      subst hQ
      exact g_iret F hlocks hr (j2, upd a_words o1.toNatClampNeg x4) rfl (pr2 (Option.some.inj hf)) dX4_set_50
    · have hf := iteF hf c25
      refine g_iconst (v := 0) F dX4_set_28 rfl ?_
      subst hQ
      exact g_iret F hlocks hr (j2, a_words) rfl (pr2 (Option.some.inj hf)) dX4_set_29
  clear hf
  have hf := hj2
  refine g_if_ge (tgt := 19) F dX4_set_12 (by decide) (fun c12 => ?_) (fun c12 => ?_)
  · have hf := iteT hf c12
    refine g_iconst (v := 0) F dX4_set_19 rfl ?_
    cases hf
    refine g_lv [1, 5, 0] rfl ?_
    exact Kj2
  · have hf := iteF hf c12
    refine g_iconst (v := 1) F dX4_set_15 rfl ?_
    refine g_goto (tgt := 20) F dX4_set_16 (by decide) ?_
    cases hf
    refine g_lv [1, 5, 0] rfl ?_
    exact Kj2

/-! HeapImagesModel.at(III)I -/
def rm_X4_at : Room := { frames := 5, cells := 0, slots := 0, locals := 113 }
theorem h_X4_at_4 : ∀ w ∈ wsX40, w ∈ wsX4_at := by decide +kernel
def f_X4_at (a_thrown : Int32) (a_bases : (Nat → Int32)) (a_tops : (Nat → Int32)) (a_words : (Nat → Int32)) (x1 : Int32) (x2 : Int32) (x3 : Int32) : Option (Int32 × Int32) :=
  Option.bind (f_X4_slotOf a_bases a_tops a_words x1 x2 x3) fun o1 => Option.bind (α := Int32) (if 0 ≤ o1 then some (0 : Int32) else some (1 : Int32)) fun j2 => if 0 ≤ o1 then ck (inR o1 512) (some (a_words o1.toNatClampNeg, j2)) else some ((0 : Int32), j2)
set_option maxHeartbeats 4000000 in
set_option maxRecDepth 100000 in
theorem c_X4_at (l : Launch) (dC : Nat → ClassId) (dI : Nat → Nat → Nat) (cI cJ cH : ClassId) (a_p a_bases_p a_tops_p a_words_p a_roots_p a_order_p a_numbers_p a_image_p a_other_p a_input_p a_fresh_p a_freshRoots_p a_heads_p a_kept_p : Nat)  (a_thrown : Int32) (a_bases : (Nat → Int32)) (a_tops : (Nat → Int32)) (a_words : (Nat → Int32)) (a_roots : (Nat → Int32)) (a_reached : Int32) (a_order : (Nat → Int32)) (a_numbers : (Nat → Int32)) (a_size : Int32) (a_image : (Nat → Int32)) (a_otherSize : Int32) (a_other : (Nat → Int32)) (a_waiting : Int32) (a_input : (Nat → Int32)) (a_at : Int32) (a_ended : Int32) (a_told : Int32) (a_many : Int32) (a_fresh : (Nat → Int32)) (a_freshRoots : (Nat → Int32)) (a_heads : (Nat → Int32)) (a_count : Int64) (a_kept : (Nat → Int32)) (x1 : Int32) (x2 : Int32) (x3 : Int32) (o : (Int32 × Int32)) (hf : f_X4_at a_thrown a_bases a_tops a_words x1 x2 x3 = some o) : ∀ sz : Nat, Met l yX4_at wsX4_at rm_X4_at (gPre [.ref a_p, .int x1, .int x2, .int x3] (dC, dI) vwCl (gT cI cJ cH) (wMd cI a_p a_bases_p a_tops_p a_words_p a_roots_p a_order_p a_numbers_p a_image_p a_other_p a_input_p a_fresh_p a_freshRoots_p a_heads_p a_kept_p a_thrown a_bases a_tops a_words a_roots a_reached a_order a_numbers a_size a_image a_otherSize a_other a_waiting a_input a_at a_ended a_told a_many a_fresh a_freshRoots a_heads a_count a_kept) sz) (va_Qi (fun (r : Int32) (u : Int32) => o.1 = r ∧ o.2 = u) (gB (dC, dI) vwCl (gT cI cJ cH) (fun (u : Int32) => wMd cI a_p a_bases_p a_tops_p a_words_p a_roots_p a_order_p a_numbers_p a_image_p a_other_p a_input_p a_fresh_p a_freshRoots_p a_heads_p a_kept_p u a_bases a_tops a_words a_roots a_reached a_order a_numbers a_size a_image a_otherSize a_other a_waiting a_input a_at a_ended a_told a_many a_fresh a_freshRoots a_heads a_count a_kept) (va_A (wMd cI a_p a_bases_p a_tops_p a_words_p a_roots_p a_order_p a_numbers_p a_image_p a_other_p a_input_p a_fresh_p a_freshRoots_p a_heads_p a_kept_p a_thrown a_bases a_tops a_words a_roots a_reached a_order a_numbers a_size a_image a_otherSize a_other a_waiting a_input a_at a_ended a_told a_many a_fresh a_freshRoots a_heads a_count a_kept) sz)) (va_A (wMd cI a_p a_bases_p a_tops_p a_words_p a_roots_p a_order_p a_numbers_p a_image_p a_other_p a_input_p a_fresh_p a_freshRoots_p a_heads_p a_kept_p a_thrown a_bases a_tops a_words a_roots a_reached a_order a_numbers a_size a_image a_otherSize a_other a_waiting a_input a_at a_ended a_told a_many a_fresh a_freshRoots a_heads a_count a_kept) sz)) 0 0 (va_A (wMd cI a_p a_bases_p a_tops_p a_words_p a_roots_p a_order_p a_numbers_p a_image_p a_other_p a_input_p a_fresh_p a_freshRoots_p a_heads_p a_kept_p a_thrown a_bases a_tops a_words a_roots a_reached a_order a_numbers a_size a_image a_otherSize a_other a_waiting a_input a_at a_ended a_told a_many a_fresh a_freshRoots a_heads a_count a_kept) sz) := by
  refine g_met (fun A => va_Qi (fun (r : Int32) (u : Int32) => o.1 = r ∧ o.2 = u) (gB (dC, dI) vwCl (gT cI cJ cH) (fun (u : Int32) => wMd cI a_p a_bases_p a_tops_p a_words_p a_roots_p a_order_p a_numbers_p a_image_p a_other_p a_input_p a_fresh_p a_freshRoots_p a_heads_p a_kept_p u a_bases a_tops a_words a_roots a_reached a_order a_numbers a_size a_image a_otherSize a_other a_waiting a_input a_at a_ended a_told a_many a_fresh a_freshRoots a_heads a_count a_kept) A) A) (by decide) rfl (Nat.le_of_ble_eq_true rfl) ?_
  intro p e s m args below meth c A Q F hlocks hr hname hN hQ
  unfold f_X4_at at hf
  refine g_lvE (lv' := [(0, .ref a_p), (1, .int x1), (2, .int x2), (3, .int x3)]) rfl ?_
  refine g_aload_n F dX4_at_0 rfl 0 rfl ?_
  refine g_iload_n F dX4_at_1 rfl 1 rfl ?_
  refine g_iload_n F dX4_at_2 rfl 2 rfl ?_
  refine g_iload_n F dX4_at_3 rfl 3 rfl ?_
  obtain ⟨o1, ho1, hf⟩ := bnE hf
  refine g_callPi (n := 3) (As := [.int x1, .int x2, .int x3]) F (c_X4_slotOf l dC dI cI cJ cH a_p a_bases_p a_tops_p a_words_p a_roots_p a_order_p a_numbers_p a_image_p a_other_p a_input_p a_fresh_p a_freshRoots_p a_heads_p a_kept_p a_thrown a_bases a_tops a_words a_roots a_reached a_order a_numbers a_size a_image a_otherSize a_other a_waiting a_input a_at a_ended a_told a_many a_fresh a_freshRoots a_heads a_count a_kept x1 x2 x3 o1 ho1) ggX4_at_X4_slotOf rfl rfl rfl (by decide +kernel) (by decide +kernel) (by decide +kernel) (by decide +kernel) (by decide +kernel) ⟨Nat.le_of_ble_eq_true rfl, Nat.le_of_ble_eq_true rfl⟩ ⟨Nat.le_of_ble_eq_true rfl, Nat.le_of_ble_eq_true rfl⟩ hN 0 rfl rfl rfl ([]) ([]) rfl (fun _ => rfl) rfl (Nat.le_of_ble_eq_true rfl) rfl dX4_at_4 (cells' := 0) (slots' := 0) rfl rfl (fun r u hp => ?_)
  subst hp
  refine g_ws (ws' := wMd cI a_p a_bases_p a_tops_p a_words_p a_roots_p a_order_p a_numbers_p a_image_p a_other_p a_input_p a_fresh_p a_freshRoots_p a_heads_p a_kept_p a_thrown a_bases a_tops a_words a_roots a_reached a_order a_numbers a_size a_image a_otherSize a_other a_waiting a_input a_at a_ended a_told a_many a_fresh a_freshRoots a_heads a_count a_kept) rfl ?_
  refine g_istore (lv' := [(4, .int o1), (0, .ref a_p), (1, .int x1), (2, .int x2), (3, .int x3)]) F dX4_at_7 (by decide) rfl ?_
  refine g_aload_n F dX4_at_9 rfl 1 rfl ?_
  refine g_iload F dX4_at_10 0 rfl ?_
  obtain ⟨j2, hj2, hf⟩ := bnE hf
  have Kj2 : gW p l e rm_X4_at s m args below meth c 0 0 Q (dC, dI) vwCl A 5 (wMd cI a_p a_bases_p a_tops_p a_words_p a_roots_p a_order_p a_numbers_p a_image_p a_other_p a_input_p a_fresh_p a_freshRoots_p a_heads_p a_kept_p a_thrown a_bases a_tops a_words a_roots a_reached a_order a_numbers a_size a_image a_otherSize a_other a_waiting a_input a_at a_ended a_told a_many a_fresh a_freshRoots a_heads a_count a_kept) [(0, .ref a_p), (4, .int o1)] 20 [.int j2, .ref a_p] := by
    refine g_put F h_X4_at_4 tyX4 tyX4_ok nmX4 0 rfl rfl 0 (by decide) (by decide +kernel) rfl rfl rfl (Nat.le_of_ble_eq_true rfl) dX4_at_20 (ws' := wMd cI a_p a_bases_p a_tops_p a_words_p a_roots_p a_order_p a_numbers_p a_image_p a_other_p a_input_p a_fresh_p a_freshRoots_p a_heads_p a_kept_p j2 a_bases a_tops a_words a_roots a_reached a_order a_numbers a_size a_image a_otherSize a_other a_waiting a_input a_at a_ended a_told a_many a_fresh a_freshRoots a_heads a_count a_kept) rfl ?_
    refine g_iload F dX4_at_23 1 rfl ?_
    refine g_if_ge (tgt := 32) F dX4_at_25 (by decide) (fun c25 => ?_) (fun c25 => ?_)
    · have hf := iteT hf c25
      refine g_aload_n F dX4_at_32 rfl 0 rfl ?_
      refine g_get F h_X4_at_4 0 rfl rfl 3 (by decide) (by decide +kernel) rfl dX4_at_33 ?_
      refine g_iload F dX4_at_36 1 rfl ?_
      obtain ⟨h3, hf⟩ := ckE hf
      refine g_iald F 3 0 rfl rfl h3 dX4_at_38 ?_
      subst hQ
      exact g_iret F hlocks hr j2 rfl (pr2 (Option.some.inj hf)) dX4_at_39
    · have hf := iteF hf c25
      refine g_iconst (v := 0) F dX4_at_28 rfl ?_
      refine g_goto (tgt := 39) F dX4_at_29 (by decide) ?_
      subst hQ
      exact g_iret F hlocks hr j2 rfl (pr2 (Option.some.inj hf)) dX4_at_39
  clear hf
  have hf := hj2
  refine g_if_ge (tgt := 19) F dX4_at_12 (by decide) (fun c12 => ?_) (fun c12 => ?_)
  · have hf := iteT hf c12
    refine g_iconst (v := 0) F dX4_at_19 rfl ?_
    cases hf
    refine g_lv [1, 0] rfl ?_
    exact Kj2
  · have hf := iteF hf c12
    refine g_iconst (v := 1) F dX4_at_15 rfl ?_
    refine g_goto (tgt := 20) F dX4_at_16 (by decide) ?_
    cases hf
    refine g_lv [1, 0] rfl ?_
    exact Kj2

/-! HeapImagesModel.root(III)I -/
def rm_X4_root : Room := { frames := 1, cells := 0, slots := 0, locals := 20 }
theorem h_X4_root_4 : ∀ w ∈ wsX40, w ∈ wsX4_root := by decide +kernel
def f_X4_root (a_thrown : Int32) (a_roots : (Nat → Int32)) (x1 : Int32) (x2 : Int32) (x3 : Int32) : Option (Int32 × Int32 × (Nat → Int32)) :=
  Option.bind (f_X4_isHeap x1) fun o1 => Option.bind (α := Int32) (if o1 = 0 then some (1 : Int32) else if x2 < 0 then some (1 : Int32) else if x2 ≤ (3 : Int32) then some (0 : Int32) else some (1 : Int32)) fun j2 => if j2 = (1 : Int32) then some ((0 : Int32), j2, a_roots) else ck (inR (((4 : Int32) * x1) + x2) 8) (nm (a_roots (((4 : Int32) * x1) + x2).toNatClampNeg) fun v4 => ck (inR (((4 : Int32) * x1) + x2) 8) (some (v4, j2, upd a_roots (((4 : Int32) * x1) + x2).toNatClampNeg x3)))
set_option maxHeartbeats 4000000 in
set_option maxRecDepth 100000 in
theorem c_X4_root (l : Launch) (dC : Nat → ClassId) (dI : Nat → Nat → Nat) (cI cJ cH : ClassId) (a_p a_bases_p a_tops_p a_words_p a_roots_p a_order_p a_numbers_p a_image_p a_other_p a_input_p a_fresh_p a_freshRoots_p a_heads_p a_kept_p : Nat)  (a_thrown : Int32) (a_bases : (Nat → Int32)) (a_tops : (Nat → Int32)) (a_words : (Nat → Int32)) (a_roots : (Nat → Int32)) (a_reached : Int32) (a_order : (Nat → Int32)) (a_numbers : (Nat → Int32)) (a_size : Int32) (a_image : (Nat → Int32)) (a_otherSize : Int32) (a_other : (Nat → Int32)) (a_waiting : Int32) (a_input : (Nat → Int32)) (a_at : Int32) (a_ended : Int32) (a_told : Int32) (a_many : Int32) (a_fresh : (Nat → Int32)) (a_freshRoots : (Nat → Int32)) (a_heads : (Nat → Int32)) (a_count : Int64) (a_kept : (Nat → Int32)) (x1 : Int32) (x2 : Int32) (x3 : Int32) (o : (Int32 × Int32 × (Nat → Int32))) (hf : f_X4_root a_thrown a_roots x1 x2 x3 = some o) : ∀ sz : Nat, Met l yX4_root wsX4_root rm_X4_root (gPre [.ref a_p, .int x1, .int x2, .int x3] (dC, dI) vwCl (gT cI cJ cH) (wMd cI a_p a_bases_p a_tops_p a_words_p a_roots_p a_order_p a_numbers_p a_image_p a_other_p a_input_p a_fresh_p a_freshRoots_p a_heads_p a_kept_p a_thrown a_bases a_tops a_words a_roots a_reached a_order a_numbers a_size a_image a_otherSize a_other a_waiting a_input a_at a_ended a_told a_many a_fresh a_freshRoots a_heads a_count a_kept) sz) (va_Qi (fun (r : Int32) (u : (Int32 × (Nat → Int32))) => o.1 = r ∧ o.2 = u) (gB (dC, dI) vwCl (gT cI cJ cH) (fun (u : (Int32 × (Nat → Int32))) => wMd cI a_p a_bases_p a_tops_p a_words_p a_roots_p a_order_p a_numbers_p a_image_p a_other_p a_input_p a_fresh_p a_freshRoots_p a_heads_p a_kept_p u.1 a_bases a_tops a_words u.2 a_reached a_order a_numbers a_size a_image a_otherSize a_other a_waiting a_input a_at a_ended a_told a_many a_fresh a_freshRoots a_heads a_count a_kept) (va_A (wMd cI a_p a_bases_p a_tops_p a_words_p a_roots_p a_order_p a_numbers_p a_image_p a_other_p a_input_p a_fresh_p a_freshRoots_p a_heads_p a_kept_p a_thrown a_bases a_tops a_words a_roots a_reached a_order a_numbers a_size a_image a_otherSize a_other a_waiting a_input a_at a_ended a_told a_many a_fresh a_freshRoots a_heads a_count a_kept) sz)) (va_A (wMd cI a_p a_bases_p a_tops_p a_words_p a_roots_p a_order_p a_numbers_p a_image_p a_other_p a_input_p a_fresh_p a_freshRoots_p a_heads_p a_kept_p a_thrown a_bases a_tops a_words a_roots a_reached a_order a_numbers a_size a_image a_otherSize a_other a_waiting a_input a_at a_ended a_told a_many a_fresh a_freshRoots a_heads a_count a_kept) sz)) 0 0 (va_A (wMd cI a_p a_bases_p a_tops_p a_words_p a_roots_p a_order_p a_numbers_p a_image_p a_other_p a_input_p a_fresh_p a_freshRoots_p a_heads_p a_kept_p a_thrown a_bases a_tops a_words a_roots a_reached a_order a_numbers a_size a_image a_otherSize a_other a_waiting a_input a_at a_ended a_told a_many a_fresh a_freshRoots a_heads a_count a_kept) sz) := by
  refine g_met (fun A => va_Qi (fun (r : Int32) (u : (Int32 × (Nat → Int32))) => o.1 = r ∧ o.2 = u) (gB (dC, dI) vwCl (gT cI cJ cH) (fun (u : (Int32 × (Nat → Int32))) => wMd cI a_p a_bases_p a_tops_p a_words_p a_roots_p a_order_p a_numbers_p a_image_p a_other_p a_input_p a_fresh_p a_freshRoots_p a_heads_p a_kept_p u.1 a_bases a_tops a_words u.2 a_reached a_order a_numbers a_size a_image a_otherSize a_other a_waiting a_input a_at a_ended a_told a_many a_fresh a_freshRoots a_heads a_count a_kept) A) A) (by decide) rfl (Nat.le_of_ble_eq_true rfl) ?_
  intro p e s m args below meth c A Q F hlocks hr hname hN hQ
  unfold f_X4_root at hf
  refine g_lvE (lv' := [(0, .ref a_p), (1, .int x1), (2, .int x2), (3, .int x3)]) rfl ?_
  refine g_aload_n F dX4_root_0 rfl 0 rfl ?_
  refine g_iload_n F dX4_root_1 rfl 1 rfl ?_
  obtain ⟨o1, ho1, hf⟩ := bnE hf
  refine g_callSi (n := 1) (As := [.int x1]) F (c_X4_isHeap l dC dI cI cJ cH x1 o1 ho1) ggX4_root_X4_isHeap rfl rfl rfl (by decide +kernel) (by decide +kernel) (by decide +kernel) (by decide +kernel) ⟨Nat.le_of_ble_eq_true rfl, Nat.le_of_ble_eq_true rfl⟩ ⟨Nat.le_of_ble_eq_true rfl, Nat.le_of_ble_eq_true rfl⟩ hN [] rfl rfl (fun _ => rfl) rfl (Nat.le_of_ble_eq_true rfl) rfl dX4_root_2 (cells' := 0) (slots' := 0) rfl rfl (fun r u hp => ?_)
  subst hp
  refine g_ws (ws' := wMd cI a_p a_bases_p a_tops_p a_words_p a_roots_p a_order_p a_numbers_p a_image_p a_other_p a_input_p a_fresh_p a_freshRoots_p a_heads_p a_kept_p a_thrown a_bases a_tops a_words a_roots a_reached a_order a_numbers a_size a_image a_otherSize a_other a_waiting a_input a_at a_ended a_told a_many a_fresh a_freshRoots a_heads a_count a_kept) rfl ?_
  obtain ⟨j2, hj2, hf⟩ := bnE hf
  have Kj2 : gW p l e rm_X4_root s m args below meth c 0 0 Q (dC, dI) vwCl A 5 (wMd cI a_p a_bases_p a_tops_p a_words_p a_roots_p a_order_p a_numbers_p a_image_p a_other_p a_input_p a_fresh_p a_freshRoots_p a_heads_p a_kept_p a_thrown a_bases a_tops a_words a_roots a_reached a_order a_numbers a_size a_image a_otherSize a_other a_waiting a_input a_at a_ended a_told a_many a_fresh a_freshRoots a_heads a_count a_kept) [(0, .ref a_p), (1, .int x1), (2, .int x2), (3, .int x3)] 22 [.int j2, .ref a_p] := by
    refine g_put F h_X4_root_4 tyX4 tyX4_ok nmX4 0 rfl rfl 0 (by decide) (by decide +kernel) rfl rfl rfl (Nat.le_of_ble_eq_true rfl) dX4_root_22 (ws' := wMd cI a_p a_bases_p a_tops_p a_words_p a_roots_p a_order_p a_numbers_p a_image_p a_other_p a_input_p a_fresh_p a_freshRoots_p a_heads_p a_kept_p j2 a_bases a_tops a_words a_roots a_reached a_order a_numbers a_size a_image a_otherSize a_other a_waiting a_input a_at a_ended a_told a_many a_fresh a_freshRoots a_heads a_count a_kept) rfl ?_
    refine g_aload_n F dX4_root_25 rfl 0 rfl ?_
    refine g_get F h_X4_root_4 0 rfl rfl 0 (by decide) (by decide +kernel) rfl dX4_root_26 ?_
    refine g_iconst (v := 1) F dX4_root_29 rfl ?_
    refine g_icmp_ne (tgt := 35) F dX4_root_30 (by decide) (fun c30 => ?_) (fun c30 => ?_)
    · have hf := iteF hf c30
      refine g_aload_n F dX4_root_35 rfl 0 rfl ?_
      refine g_get F h_X4_root_4 0 rfl rfl 4 (by decide) (by decide +kernel) rfl dX4_root_36 ?_
      refine g_iconst (v := 4) F dX4_root_39 rfl ?_
      refine g_iload_n F dX4_root_40 rfl 1 rfl ?_
      refine g_imul F dX4_root_41 ?_
      refine g_iload_n F dX4_root_42 rfl 2 rfl ?_
      refine g_iadd F dX4_root_43 ?_
      obtain ⟨h3, hf⟩ := ckE hf
      refine g_iald F 4 0 rfl rfl h3 dX4_root_44 ?_
      obtain ⟨v4, ev4, hf⟩ := nmE hf
      refine g_nmi ev4 ?_
      refine g_istore (lv' := [(4, .int v4), (0, .ref a_p), (1, .int x1), (2, .int x2), (3, .int x3)]) F dX4_root_45 (by decide) rfl ?_
      refine g_aload_n F dX4_root_47 rfl 1 rfl ?_
      refine g_get F h_X4_root_4 0 rfl rfl 4 (by decide) (by decide +kernel) rfl dX4_root_48 ?_
      refine g_iconst (v := 4) F dX4_root_51 rfl ?_
      refine g_iload_n F dX4_root_52 rfl 2 rfl ?_
      refine g_imul F dX4_root_53 ?_
      refine g_iload_n F dX4_root_54 rfl 3 rfl ?_
      refine g_iadd F dX4_root_55 ?_
      refine g_iload_n F dX4_root_56 rfl 4 rfl ?_
      obtain ⟨h5, hf⟩ := ckE hf
      refine g_iast F 4 0 rfl rfl h5 dX4_root_57 (ws' := wMd cI a_p a_bases_p a_tops_p a_words_p a_roots_p a_order_p a_numbers_p a_image_p a_other_p a_input_p a_fresh_p a_freshRoots_p a_heads_p a_kept_p j2 a_bases a_tops a_words (upd a_roots (((4 : Int32) * x1) + x2).toNatClampNeg x3) a_reached a_order a_numbers a_size a_image a_otherSize a_other a_waiting a_input a_at a_ended a_told a_many a_fresh a_freshRoots a_heads a_count a_kept) rfl ?_
      refine g_iload F dX4_root_58 0 rfl ?_
      subst hQ
      exact g_iret F hlocks hr (j2, upd a_roots (((4 : Int32) * x1) + x2).toNatClampNeg x3) rfl (pr2 (Option.some.inj hf)) dX4_root_60
    · have hf := iteT hf c30
      refine g_iconst (v := 0) F dX4_root_33 rfl ?_
      subst hQ
      exact g_iret F hlocks hr (j2, a_roots) rfl (pr2 (Option.some.inj hf)) dX4_root_34
  clear hf
  have hf := hj2
  refine g_if_eq (tgt := 17) F dX4_root_5 (by decide) (fun c5 => ?_) (fun c5 => ?_)
  · have hf := iteT hf c5
    refine g_iconst (v := 1) F dX4_root_17 rfl ?_
    refine g_goto (tgt := 22) F dX4_root_18 (by decide) ?_
    cases hf
    refine g_lv [0, 1, 2, 3] rfl ?_
    exact Kj2
  · have hf := iteF hf c5
    refine g_iload_n F dX4_root_8 rfl 2 rfl ?_
    refine g_if_lt (tgt := 17) F dX4_root_9 (by decide) (fun c9 => ?_) (fun c9 => ?_)
    · have hf := iteT hf c9
      refine g_iconst (v := 1) F dX4_root_17 rfl ?_
      refine g_goto (tgt := 22) F dX4_root_18 (by decide) ?_
      cases hf
      refine g_lv [0, 1, 2, 3] rfl ?_
      exact Kj2
    · have hf := iteF hf c9
      refine g_iload_n F dX4_root_12 rfl 2 rfl ?_
      refine g_iconst (v := 3) F dX4_root_13 rfl ?_
      refine g_icmp_le (tgt := 21) F dX4_root_14 (by decide) (fun c14 => ?_) (fun c14 => ?_)
      · have hf := iteT hf c14
        refine g_iconst (v := 0) F dX4_root_21 rfl ?_
        cases hf
        refine g_lv [0, 1, 2, 3] rfl ?_
        exact Kj2
      · have hf := iteF hf c14
        refine g_iconst (v := 1) F dX4_root_17 rfl ?_
        refine g_goto (tgt := 22) F dX4_root_18 (by decide) ?_
        cases hf
        refine g_lv [0, 1, 2, 3] rfl ?_
        exact Kj2

/-! HeapImagesModel.isWord(II)Z -/
def rm_X4_isWord : Room := { frames := 1, cells := 0, slots := 0, locals := 20 }
def f_X4_isWord (x0 : Int32) (x1 : Int32) : Option Int32 :=
  Option.bind (f_X4_isHeap x0) fun o1 => if o1 = 0 then some (0 : Int32) else if x1 < 0 then some (0 : Int32) else if (256 : Int32) ≤ x1 then some (0 : Int32) else some (1 : Int32)
set_option maxHeartbeats 4000000 in
set_option maxRecDepth 100000 in
theorem c_X4_isWord (l : Launch) (dC : Nat → ClassId) (dI : Nat → Nat → Nat) (cI cJ cH : ClassId)    (x0 : Int32) (x1 : Int32) (o : Int32) (hf : f_X4_isWord x0 x1 = some o) : ∀ sz : Nat, Met l yX4_isWord wsX4_isWord rm_X4_isWord (gPre [.int x0, .int x1] (dC, dI) vwCl (gT cI cJ cH) ([]) sz) (va_Qi (fun (r : Int32) (u : Unit) => o = r) (gB (dC, dI) vwCl (gT cI cJ cH) (fun (u : Unit) => []) (va_A ([]) sz)) (va_A ([]) sz)) 0 0 (va_A ([]) sz) := by
  refine g_met (fun A => va_Qi (fun (r : Int32) (u : Unit) => o = r) (gB (dC, dI) vwCl (gT cI cJ cH) (fun (u : Unit) => []) A) A) (by decide) rfl (Nat.le_of_ble_eq_true rfl) ?_
  intro p e s m args below meth c A Q F hlocks hr hname hN hQ
  unfold f_X4_isWord at hf
  refine g_lvE (lv' := [(0, .int x0), (1, .int x1)]) rfl ?_
  refine g_iload_n F dX4_isWord_0 rfl 0 rfl ?_
  obtain ⟨o1, ho1, hf⟩ := bnE hf
  refine g_callSi (n := 1) (As := [.int x0]) F (c_X4_isHeap l dC dI cI cJ cH x0 o1 ho1) ggX4_isWord_X4_isHeap rfl rfl rfl (by decide +kernel) (by decide +kernel) (by decide +kernel) (by decide +kernel) ⟨Nat.le_of_ble_eq_true rfl, Nat.le_of_ble_eq_true rfl⟩ ⟨Nat.le_of_ble_eq_true rfl, Nat.le_of_ble_eq_true rfl⟩ hN [] rfl rfl (fun _ => rfl) rfl (Nat.le_of_ble_eq_true rfl) rfl dX4_isWord_1 (cells' := 0) (slots' := 0) rfl rfl (fun r u hp => ?_)
  subst hp
  refine g_ws (ws' := []) rfl ?_
  refine g_if_eq (tgt := 22) F dX4_isWord_4 (by decide) (fun c4 => ?_) (fun c4 => ?_)
  · have hf := iteT hf c4
    refine g_iconst (v := 0) F dX4_isWord_22 rfl ?_
    subst hQ
    exact g_zret F hlocks hr rfl () rfl (Option.some.inj hf).symm dX4_isWord_23
  · have hf := iteF hf c4
    refine g_iload_n F dX4_isWord_7 rfl 1 rfl ?_
    refine g_if_lt (tgt := 22) F dX4_isWord_8 (by decide) (fun c8 => ?_) (fun c8 => ?_)
    · have hf := iteT hf c8
      refine g_iconst (v := 0) F dX4_isWord_22 rfl ?_
      subst hQ
      exact g_zret F hlocks hr rfl () rfl (Option.some.inj hf).symm dX4_isWord_23
    · have hf := iteF hf c8
      refine g_iload_n F dX4_isWord_11 rfl 1 rfl ?_
      refine g_sipush (v := 256) F dX4_isWord_12 rfl ?_
      refine g_icmp_ge (tgt := 22) F dX4_isWord_15 (by decide) (fun c15 => ?_) (fun c15 => ?_)
      · have hf := iteT hf c15
        refine g_iconst (v := 0) F dX4_isWord_22 rfl ?_
        subst hQ
        exact g_zret F hlocks hr rfl () rfl (Option.some.inj hf).symm dX4_isWord_23
      · have hf := iteF hf c15
        refine g_iconst (v := 1) F dX4_isWord_18 rfl ?_
        refine g_goto (tgt := 23) F dX4_isWord_19 (by decide) ?_
        subst hQ
        exact g_zret F hlocks hr rfl () rfl (Option.some.inj hf).symm dX4_isWord_23
