/-! HeapImagesModel.same()Z -/
def rm_X4_same : Room := { frames := 7, cells := 0, slots := 0, locals := 160 }
theorem h_X4_same_4 : ∀ w ∈ wsX40, w ∈ wsX4_same := by decide +kernel
def f_X4_same_L42_s (a_image : (Nat → Int32)) (y1 : Int32) (rc : Int32 → (Nat → Int32) → Option (Nat → Int32)) (z2 : Int32) (a_kept : (Nat → Int32)) : Option (Nat → Int32) :=
  if y1 ≤ z2 then some a_kept else ck (inR z2 3000) (ck (inR z2 3000) (nm (z2 + (1 : Int32)) fun v5 => rc v5 (upd a_kept z2.toNatClampNeg (a_image z2.toNatClampNeg))))
def f_X4_same_L42 (a_image : (Nat → Int32)) (y1 : Int32) : Nat → Int32 → (Nat → Int32) → Option (Nat → Int32)
  | 0, _, _ => none
  | n + 1, z2, a_kept => f_X4_same_L42_s a_image y1 (f_X4_same_L42 a_image y1 n) z2 a_kept
set_option maxHeartbeats 4000000 in
theorem w_X4_same_L42 {p : Program} {l : Launch} {e : Env} {s : State} {m : MethodId} {args : Array Value} {below : List Frame} {meth : Method} {c : Code} {A : Nat → Prop} {Q : State → Prop} {dC : Nat → ClassId} {dI : Nat → Nat → Nat} {cI cJ cH : ClassId} {a_p a_bases_p a_tops_p a_words_p a_roots_p a_order_p a_numbers_p a_image_p a_other_p a_input_p a_fresh_p a_freshRoots_p a_heads_p a_kept_p : Nat} {a_thrown : Int32} {a_bases : (Nat → Int32)} {a_tops : (Nat → Int32)} {a_words : (Nat → Int32)} {a_roots : (Nat → Int32)} {a_reached : Int32} {a_order : (Nat → Int32)} {a_numbers : (Nat → Int32)} {a_size : Int32} {a_image : (Nat → Int32)} {a_otherSize : Int32} {a_other : (Nat → Int32)} {a_waiting : Int32} {a_input : (Nat → Int32)} {a_at : Int32} {a_ended : Int32} {a_told : Int32} {a_many : Int32} {a_fresh : (Nat → Int32)} {a_freshRoots : (Nat → Int32)} {a_heads : (Nat → Int32)} {a_count : Int64} {y1 : Int32} (F : gF p m c cX4_same 4 s args wsX4_same yX4_same.cls (dC, dI) vwCl (gT cI cJ cH) A) (hN : ∀ w ∈ gN, va_Nw w s) : ∀ (n : Nat) (z2 : Int32) (a_kept : (Nat → Int32)) (o : (Nat → Int32)), f_X4_same_L42 a_image y1 n z2 a_kept = some o → (gW p l e rm_X4_same s m args below meth c 0 0 Q (dC, dI) vwCl A 4 (wMd cI a_p a_bases_p a_tops_p a_words_p a_roots_p a_order_p a_numbers_p a_image_p a_other_p a_input_p a_fresh_p a_freshRoots_p a_heads_p a_kept_p a_thrown a_bases a_tops a_words a_roots a_reached a_order a_numbers a_size a_image a_otherSize a_other a_waiting a_input a_at a_ended a_told a_many a_fresh a_freshRoots a_heads a_count o) [(0, .ref a_p), (1, .int y1)] 65 []) → gW p l e rm_X4_same s m args below meth c 0 0 Q (dC, dI) vwCl A 4 (wMd cI a_p a_bases_p a_tops_p a_words_p a_roots_p a_order_p a_numbers_p a_image_p a_other_p a_input_p a_fresh_p a_freshRoots_p a_heads_p a_kept_p a_thrown a_bases a_tops a_words a_roots a_reached a_order a_numbers a_size a_image a_otherSize a_other a_waiting a_input a_at a_ended a_told a_many a_fresh a_freshRoots a_heads a_count a_kept) [(0, .ref a_p), (1, .int y1), (2, .int z2)] 42 [] := by
  intro n
  induction n with
  | zero =>
    intro z2 a_kept o hf E0
    change none = some o at hf
    cases hf
  | succ n ih =>
    intro z2 a_kept o hf E0
    change f_X4_same_L42_s a_image y1 (f_X4_same_L42 a_image y1 n) z2 a_kept = some o at hf
    unfold f_X4_same_L42_s at hf
    refine g_iload_n F dX4_same_42 rfl 2 rfl ?_
    refine g_iload_n F dX4_same_43 rfl 1 rfl ?_
    refine g_icmp_ge (tgt := 65) F dX4_same_44 (by decide) (fun c44 => ?_) (fun c44 => ?_)
    · have hf := iteT hf c44
      cases hf
      refine g_lv [0, 1] rfl ?_
      exact E0
    · have hf := iteF hf c44
      refine g_aload_n F dX4_same_47 rfl 0 rfl ?_
      refine g_get F h_X4_same_4 0 rfl rfl 22 (by decide) (by decide +kernel) rfl dX4_same_48 ?_
      refine g_iload_n F dX4_same_51 rfl 2 rfl ?_
      refine g_aload_n F dX4_same_52 rfl 0 rfl ?_
      refine g_get F h_X4_same_4 0 rfl rfl 9 (by decide) (by decide +kernel) rfl dX4_same_53 ?_
      refine g_iload_n F dX4_same_56 rfl 2 rfl ?_
      obtain ⟨h3, hf⟩ := ckE hf
      refine g_iald F 7 0 rfl rfl h3 dX4_same_57 ?_
      obtain ⟨h4, hf⟩ := ckE hf
      refine g_iast F 13 0 rfl rfl h4 dX4_same_58 (ws' := wMd cI a_p a_bases_p a_tops_p a_words_p a_roots_p a_order_p a_numbers_p a_image_p a_other_p a_input_p a_fresh_p a_freshRoots_p a_heads_p a_kept_p a_thrown a_bases a_tops a_words a_roots a_reached a_order a_numbers a_size a_image a_otherSize a_other a_waiting a_input a_at a_ended a_told a_many a_fresh a_freshRoots a_heads a_count (upd a_kept z2.toNatClampNeg (a_image z2.toNatClampNeg))) rfl ?_
      obtain ⟨v5, ev5, hf⟩ := nmE hf
      refine g_iinc (j := 2) (lv' := [(2, .int v5), (0, .ref a_p), (1, .int y1)]) F dX4_same_59 rfl ev5.symm (by decide) rfl ?_
      refine g_goto (tgt := 42) F dX4_same_62 (by decide) ?_
      refine g_lv [1, 2, 0] rfl ?_
      exact ih _ _ o hf E0
def f_X4_same_L80_s (a_size : Int32) (a_image : (Nat → Int32)) (y1 : Int32) (rc : Int32 → (Nat → Int32) → Option (Nat → Int32)) (z2 : Int32) (a_other : (Nat → Int32)) : Option (Nat → Int32) :=
  if a_size ≤ z2 then some a_other else ck (inR z2 3000) (ck (inR z2 3000) (nm (z2 + (1 : Int32)) fun v10 => rc v10 (upd a_other z2.toNatClampNeg (a_image z2.toNatClampNeg))))
def f_X4_same_L80 (a_size : Int32) (a_image : (Nat → Int32)) (y1 : Int32) : Nat → Int32 → (Nat → Int32) → Option (Nat → Int32)
  | 0, _, _ => none
  | n + 1, z2, a_other => f_X4_same_L80_s a_size a_image y1 (f_X4_same_L80 a_size a_image y1 n) z2 a_other
set_option maxHeartbeats 4000000 in
theorem w_X4_same_L80 {p : Program} {l : Launch} {e : Env} {s : State} {m : MethodId} {args : Array Value} {below : List Frame} {meth : Method} {c : Code} {A : Nat → Prop} {Q : State → Prop} {dC : Nat → ClassId} {dI : Nat → Nat → Nat} {cI cJ cH : ClassId} {a_p a_bases_p a_tops_p a_words_p a_roots_p a_order_p a_numbers_p a_image_p a_other_p a_input_p a_fresh_p a_freshRoots_p a_heads_p a_kept_p : Nat} {a_thrown : Int32} {a_bases : (Nat → Int32)} {a_tops : (Nat → Int32)} {a_words : (Nat → Int32)} {a_roots : (Nat → Int32)} {a_reached : Int32} {a_order : (Nat → Int32)} {a_numbers : (Nat → Int32)} {a_size : Int32} {a_image : (Nat → Int32)} {a_otherSize : Int32} {a_waiting : Int32} {a_input : (Nat → Int32)} {a_at : Int32} {a_ended : Int32} {a_told : Int32} {a_many : Int32} {a_fresh : (Nat → Int32)} {a_freshRoots : (Nat → Int32)} {a_heads : (Nat → Int32)} {a_count : Int64} {a_kept : (Nat → Int32)} {y1 : Int32} (F : gF p m c cX4_same 4 s args wsX4_same yX4_same.cls (dC, dI) vwCl (gT cI cJ cH) A) (hN : ∀ w ∈ gN, va_Nw w s) : ∀ (n : Nat) (z2 : Int32) (a_other : (Nat → Int32)) (o : (Nat → Int32)), f_X4_same_L80 a_size a_image y1 n z2 a_other = some o → (gW p l e rm_X4_same s m args below meth c 0 0 Q (dC, dI) vwCl A 4 (wMd cI a_p a_bases_p a_tops_p a_words_p a_roots_p a_order_p a_numbers_p a_image_p a_other_p a_input_p a_fresh_p a_freshRoots_p a_heads_p a_kept_p a_thrown a_bases a_tops a_words a_roots a_reached a_order a_numbers a_size a_image a_otherSize o a_waiting a_input a_at a_ended a_told a_many a_fresh a_freshRoots a_heads a_count a_kept) [(0, .ref a_p), (1, .int y1)] 106 []) → gW p l e rm_X4_same s m args below meth c 0 0 Q (dC, dI) vwCl A 4 (wMd cI a_p a_bases_p a_tops_p a_words_p a_roots_p a_order_p a_numbers_p a_image_p a_other_p a_input_p a_fresh_p a_freshRoots_p a_heads_p a_kept_p a_thrown a_bases a_tops a_words a_roots a_reached a_order a_numbers a_size a_image a_otherSize a_other a_waiting a_input a_at a_ended a_told a_many a_fresh a_freshRoots a_heads a_count a_kept) [(0, .ref a_p), (1, .int y1), (2, .int z2)] 80 [] := by
  intro n
  induction n with
  | zero =>
    intro z2 a_other o hf E0
    change none = some o at hf
    cases hf
  | succ n ih =>
    intro z2 a_other o hf E0
    change f_X4_same_L80_s a_size a_image y1 (f_X4_same_L80 a_size a_image y1 n) z2 a_other = some o at hf
    unfold f_X4_same_L80_s at hf
    refine g_iload_n F dX4_same_80 rfl 2 rfl ?_
    refine g_aload_n F dX4_same_81 rfl 0 rfl ?_
    refine g_get F h_X4_same_4 0 rfl rfl 8 (by decide) (by decide +kernel) rfl dX4_same_82 ?_
    refine g_icmp_ge (tgt := 106) F dX4_same_85 (by decide) (fun c85 => ?_) (fun c85 => ?_)
    · have hf := iteT hf c85
      cases hf
      refine g_lv [0, 1] rfl ?_
      exact E0
    · have hf := iteF hf c85
      refine g_aload_n F dX4_same_88 rfl 0 rfl ?_
      refine g_get F h_X4_same_4 0 rfl rfl 11 (by decide) (by decide +kernel) rfl dX4_same_89 ?_
      refine g_iload_n F dX4_same_92 rfl 2 rfl ?_
      refine g_aload_n F dX4_same_93 rfl 0 rfl ?_
      refine g_get F h_X4_same_4 0 rfl rfl 9 (by decide) (by decide +kernel) rfl dX4_same_94 ?_
      refine g_iload_n F dX4_same_97 rfl 2 rfl ?_
      obtain ⟨h8, hf⟩ := ckE hf
      refine g_iald F 7 0 rfl rfl h8 dX4_same_98 ?_
      obtain ⟨h9, hf⟩ := ckE hf
      refine g_iast F 8 0 rfl rfl h9 dX4_same_99 (ws' := wMd cI a_p a_bases_p a_tops_p a_words_p a_roots_p a_order_p a_numbers_p a_image_p a_other_p a_input_p a_fresh_p a_freshRoots_p a_heads_p a_kept_p a_thrown a_bases a_tops a_words a_roots a_reached a_order a_numbers a_size a_image a_otherSize (upd a_other z2.toNatClampNeg (a_image z2.toNatClampNeg)) a_waiting a_input a_at a_ended a_told a_many a_fresh a_freshRoots a_heads a_count a_kept) rfl ?_
      obtain ⟨v10, ev10, hf⟩ := nmE hf
      refine g_iinc (j := 2) (lv' := [(2, .int v10), (0, .ref a_p), (1, .int y1)]) F dX4_same_100 rfl ev10.symm (by decide) rfl ?_
      refine g_goto (tgt := 80) F dX4_same_103 (by decide) ?_
      refine g_lv [1, 2, 0] rfl ?_
      exact ih _ _ o hf E0
def f_X4_same_L130_s (a_size : Int32) (a_image : (Nat → Int32)) (a_other : (Nat → Int32)) (y1 : Int32) (rc : Int32 → Int32 → Option Int32) (z2 : Int32) (z3 : Int32) : Option Int32 :=
  if a_size ≤ z3 then some z2 else if z2 = 0 then some z2 else ck (inR z3 3000) (ck (inR z3 3000) (if (a_image z3.toNatClampNeg) = (a_other z3.toNatClampNeg) then nm (z3 + (1 : Int32)) fun v17 => rc (1 : Int32) v17 else nm (z3 + (1 : Int32)) fun v16 => rc (0 : Int32) v16))
def f_X4_same_L130 (a_size : Int32) (a_image : (Nat → Int32)) (a_other : (Nat → Int32)) (y1 : Int32) : Nat → Int32 → Int32 → Option Int32
  | 0, _, _ => none
  | n + 1, z2, z3 => f_X4_same_L130_s a_size a_image a_other y1 (f_X4_same_L130 a_size a_image a_other y1 n) z2 z3
set_option maxHeartbeats 4000000 in
theorem w_X4_same_L130 {p : Program} {l : Launch} {e : Env} {s : State} {m : MethodId} {args : Array Value} {below : List Frame} {meth : Method} {c : Code} {A : Nat → Prop} {Q : State → Prop} {dC : Nat → ClassId} {dI : Nat → Nat → Nat} {cI cJ cH : ClassId} {a_p a_bases_p a_tops_p a_words_p a_roots_p a_order_p a_numbers_p a_image_p a_other_p a_input_p a_fresh_p a_freshRoots_p a_heads_p a_kept_p : Nat} {a_thrown : Int32} {a_bases : (Nat → Int32)} {a_tops : (Nat → Int32)} {a_words : (Nat → Int32)} {a_roots : (Nat → Int32)} {a_reached : Int32} {a_order : (Nat → Int32)} {a_numbers : (Nat → Int32)} {a_size : Int32} {a_image : (Nat → Int32)} {a_otherSize : Int32} {a_other : (Nat → Int32)} {a_waiting : Int32} {a_input : (Nat → Int32)} {a_at : Int32} {a_ended : Int32} {a_told : Int32} {a_many : Int32} {a_fresh : (Nat → Int32)} {a_freshRoots : (Nat → Int32)} {a_heads : (Nat → Int32)} {a_count : Int64} {a_kept : (Nat → Int32)} {y1 : Int32} (F : gF p m c cX4_same 4 s args wsX4_same yX4_same.cls (dC, dI) vwCl (gT cI cJ cH) A) (hN : ∀ w ∈ gN, va_Nw w s) : ∀ (n : Nat) (z2 : Int32) (z3 : Int32) (o : Int32), f_X4_same_L130 a_size a_image a_other y1 n z2 z3 = some o → (gW p l e rm_X4_same s m args below meth c 0 0 Q (dC, dI) vwCl A 4 (wMd cI a_p a_bases_p a_tops_p a_words_p a_roots_p a_order_p a_numbers_p a_image_p a_other_p a_input_p a_fresh_p a_freshRoots_p a_heads_p a_kept_p a_thrown a_bases a_tops a_words a_roots a_reached a_order a_numbers a_size a_image a_otherSize a_other a_waiting a_input a_at a_ended a_told a_many a_fresh a_freshRoots a_heads a_count a_kept) [(0, .ref a_p), (1, .int y1), (2, .int o)] 169 []) → gW p l e rm_X4_same s m args below meth c 0 0 Q (dC, dI) vwCl A 4 (wMd cI a_p a_bases_p a_tops_p a_words_p a_roots_p a_order_p a_numbers_p a_image_p a_other_p a_input_p a_fresh_p a_freshRoots_p a_heads_p a_kept_p a_thrown a_bases a_tops a_words a_roots a_reached a_order a_numbers a_size a_image a_otherSize a_other a_waiting a_input a_at a_ended a_told a_many a_fresh a_freshRoots a_heads a_count a_kept) [(0, .ref a_p), (1, .int y1), (2, .int z2), (3, .int z3)] 130 [] := by
  intro n
  induction n with
  | zero =>
    intro z2 z3 o hf E0
    change none = some o at hf
    cases hf
  | succ n ih =>
    intro z2 z3 o hf E0
    change f_X4_same_L130_s a_size a_image a_other y1 (f_X4_same_L130 a_size a_image a_other y1 n) z2 z3 = some o at hf
    unfold f_X4_same_L130_s at hf
    refine g_iload_n F dX4_same_130 rfl 3 rfl ?_
    refine g_aload_n F dX4_same_131 rfl 0 rfl ?_
    refine g_get F h_X4_same_4 0 rfl rfl 8 (by decide) (by decide +kernel) rfl dX4_same_132 ?_
    refine g_icmp_ge (tgt := 169) F dX4_same_135 (by decide) (fun c135 => ?_) (fun c135 => ?_)
    · have hf := iteT hf c135
      cases hf
      refine g_lv [0, 1, 2] rfl ?_
      exact E0
    · have hf := iteF hf c135
      refine g_iload_n F dX4_same_138 rfl 2 rfl ?_
      refine g_if_eq (tgt := 169) F dX4_same_139 (by decide) (fun c139 => ?_) (fun c139 => ?_)
      · have hf := iteT hf c139
        cases hf
        refine g_lv [0, 1, 2] rfl ?_
        exact E0
      · have hf := iteF hf c139
        refine g_aload_n F dX4_same_142 rfl 0 rfl ?_
        refine g_get F h_X4_same_4 0 rfl rfl 9 (by decide) (by decide +kernel) rfl dX4_same_143 ?_
        refine g_iload_n F dX4_same_146 rfl 3 rfl ?_
        obtain ⟨h14, hf⟩ := ckE hf
        refine g_iald F 7 0 rfl rfl h14 dX4_same_147 ?_
        refine g_aload_n F dX4_same_148 rfl 0 rfl ?_
        refine g_get F h_X4_same_4 0 rfl rfl 11 (by decide) (by decide +kernel) rfl dX4_same_149 ?_
        refine g_iload_n F dX4_same_152 rfl 3 rfl ?_
        obtain ⟨h15, hf⟩ := ckE hf
        refine g_iald F 8 0 rfl rfl h15 dX4_same_153 ?_
        refine g_icmp_ne (tgt := 161) F dX4_same_154 (by decide) (fun c154 => ?_) (fun c154 => ?_)
        · have hf := iteF hf c154
          refine g_iconst (v := 0) F dX4_same_161 rfl ?_
          refine g_istore_n (lv' := [(2, .int (0 : Int32)), (0, .ref a_p), (1, .int y1), (3, .int z3)]) F dX4_same_162 rfl (by decide) rfl ?_
          obtain ⟨v16, ev16, hf⟩ := nmE hf
          refine g_iinc (j := 3) (lv' := [(3, .int v16), (2, .int (0 : Int32)), (0, .ref a_p), (1, .int y1)]) F dX4_same_163 rfl ev16.symm (by decide) rfl ?_
          refine g_goto (tgt := 130) F dX4_same_166 (by decide) ?_
          refine g_lv [2, 3, 1, 0] rfl ?_
          exact ih _ _ o hf E0
        · have hf := iteT hf c154
          refine g_iconst (v := 1) F dX4_same_157 rfl ?_
          refine g_goto (tgt := 162) F dX4_same_158 (by decide) ?_
          refine g_istore_n (lv' := [(2, .int (1 : Int32)), (0, .ref a_p), (1, .int y1), (3, .int z3)]) F dX4_same_162 rfl (by decide) rfl ?_
          obtain ⟨v17, ev17, hf⟩ := nmE hf
          refine g_iinc (j := 3) (lv' := [(3, .int v17), (2, .int (1 : Int32)), (0, .ref a_p), (1, .int y1)]) F dX4_same_163 rfl ev17.symm (by decide) rfl ?_
          refine g_goto (tgt := 130) F dX4_same_166 (by decide) ?_
          refine g_lv [2, 3, 1, 0] rfl ?_
          exact ih _ _ o hf E0
def f_X4_same_L176_s (a_kept : (Nat → Int32)) (y1 : Int32) (y2 : Int32) (rc : Int32 → (Nat → Int32) → Option (Nat → Int32)) (z3 : Int32) (a_image : (Nat → Int32)) : Option (Nat → Int32) :=
  if y1 ≤ z3 then some a_image else ck (inR z3 3000) (ck (inR z3 3000) (nm (z3 + (1 : Int32)) fun v21 => rc v21 (upd a_image z3.toNatClampNeg (a_kept z3.toNatClampNeg))))
def f_X4_same_L176 (a_kept : (Nat → Int32)) (y1 : Int32) (y2 : Int32) : Nat → Int32 → (Nat → Int32) → Option (Nat → Int32)
  | 0, _, _ => none
  | n + 1, z3, a_image => f_X4_same_L176_s a_kept y1 y2 (f_X4_same_L176 a_kept y1 y2 n) z3 a_image
set_option maxHeartbeats 4000000 in
theorem w_X4_same_L176 {p : Program} {l : Launch} {e : Env} {s : State} {m : MethodId} {args : Array Value} {below : List Frame} {meth : Method} {c : Code} {A : Nat → Prop} {Q : State → Prop} {dC : Nat → ClassId} {dI : Nat → Nat → Nat} {cI cJ cH : ClassId} {a_p a_bases_p a_tops_p a_words_p a_roots_p a_order_p a_numbers_p a_image_p a_other_p a_input_p a_fresh_p a_freshRoots_p a_heads_p a_kept_p : Nat} {a_thrown : Int32} {a_bases : (Nat → Int32)} {a_tops : (Nat → Int32)} {a_words : (Nat → Int32)} {a_roots : (Nat → Int32)} {a_reached : Int32} {a_order : (Nat → Int32)} {a_numbers : (Nat → Int32)} {a_size : Int32} {a_otherSize : Int32} {a_other : (Nat → Int32)} {a_waiting : Int32} {a_input : (Nat → Int32)} {a_at : Int32} {a_ended : Int32} {a_told : Int32} {a_many : Int32} {a_fresh : (Nat → Int32)} {a_freshRoots : (Nat → Int32)} {a_heads : (Nat → Int32)} {a_count : Int64} {a_kept : (Nat → Int32)} {y1 : Int32} {y2 : Int32} (F : gF p m c cX4_same 4 s args wsX4_same yX4_same.cls (dC, dI) vwCl (gT cI cJ cH) A) (hN : ∀ w ∈ gN, va_Nw w s) : ∀ (n : Nat) (z3 : Int32) (a_image : (Nat → Int32)) (o : (Nat → Int32)), f_X4_same_L176 a_kept y1 y2 n z3 a_image = some o → (gW p l e rm_X4_same s m args below meth c 0 0 Q (dC, dI) vwCl A 4 (wMd cI a_p a_bases_p a_tops_p a_words_p a_roots_p a_order_p a_numbers_p a_image_p a_other_p a_input_p a_fresh_p a_freshRoots_p a_heads_p a_kept_p a_thrown a_bases a_tops a_words a_roots a_reached a_order a_numbers a_size o a_otherSize a_other a_waiting a_input a_at a_ended a_told a_many a_fresh a_freshRoots a_heads a_count a_kept) [(2, .int y2)] 199 []) → gW p l e rm_X4_same s m args below meth c 0 0 Q (dC, dI) vwCl A 4 (wMd cI a_p a_bases_p a_tops_p a_words_p a_roots_p a_order_p a_numbers_p a_image_p a_other_p a_input_p a_fresh_p a_freshRoots_p a_heads_p a_kept_p a_thrown a_bases a_tops a_words a_roots a_reached a_order a_numbers a_size a_image a_otherSize a_other a_waiting a_input a_at a_ended a_told a_many a_fresh a_freshRoots a_heads a_count a_kept) [(0, .ref a_p), (1, .int y1), (2, .int y2), (3, .int z3)] 176 [] := by
  intro n
  induction n with
  | zero =>
    intro z3 a_image o hf E0
    change none = some o at hf
    cases hf
  | succ n ih =>
    intro z3 a_image o hf E0
    change f_X4_same_L176_s a_kept y1 y2 (f_X4_same_L176 a_kept y1 y2 n) z3 a_image = some o at hf
    unfold f_X4_same_L176_s at hf
    refine g_iload_n F dX4_same_176 rfl 3 rfl ?_
    refine g_iload_n F dX4_same_177 rfl 1 rfl ?_
    refine g_icmp_ge (tgt := 199) F dX4_same_178 (by decide) (fun c178 => ?_) (fun c178 => ?_)
    · have hf := iteT hf c178
      cases hf
      refine g_lv [2] rfl ?_
      exact E0
    · have hf := iteF hf c178
      refine g_aload_n F dX4_same_181 rfl 0 rfl ?_
      refine g_get F h_X4_same_4 0 rfl rfl 9 (by decide) (by decide +kernel) rfl dX4_same_182 ?_
      refine g_iload_n F dX4_same_185 rfl 3 rfl ?_
      refine g_aload_n F dX4_same_186 rfl 0 rfl ?_
      refine g_get F h_X4_same_4 0 rfl rfl 22 (by decide) (by decide +kernel) rfl dX4_same_187 ?_
      refine g_iload_n F dX4_same_190 rfl 3 rfl ?_
      obtain ⟨h19, hf⟩ := ckE hf
      refine g_iald F 13 0 rfl rfl h19 dX4_same_191 ?_
      obtain ⟨h20, hf⟩ := ckE hf
      refine g_iast F 7 0 rfl rfl h20 dX4_same_192 (ws' := wMd cI a_p a_bases_p a_tops_p a_words_p a_roots_p a_order_p a_numbers_p a_image_p a_other_p a_input_p a_fresh_p a_freshRoots_p a_heads_p a_kept_p a_thrown a_bases a_tops a_words a_roots a_reached a_order a_numbers a_size (upd a_image z3.toNatClampNeg (a_kept z3.toNatClampNeg)) a_otherSize a_other a_waiting a_input a_at a_ended a_told a_many a_fresh a_freshRoots a_heads a_count a_kept) rfl ?_
      obtain ⟨v21, ev21, hf⟩ := nmE hf
      refine g_iinc (j := 3) (lv' := [(3, .int v21), (0, .ref a_p), (1, .int y1), (2, .int y2)]) F dX4_same_193 rfl ev21.symm (by decide) rfl ?_
      refine g_goto (tgt := 176) F dX4_same_196 (by decide) ?_
      refine g_lv [1, 2, 3, 0] rfl ?_
      exact ih _ _ o hf E0
def f_X4_same (a_thrown : Int32) (a_bases : (Nat → Int32)) (a_tops : (Nat → Int32)) (a_words : (Nat → Int32)) (a_roots : (Nat → Int32)) (a_reached : Int32) (a_order : (Nat → Int32)) (a_numbers : (Nat → Int32)) (a_size : Int32) (a_image : (Nat → Int32)) (a_otherSize : Int32) (a_other : (Nat → Int32)) (a_kept : (Nat → Int32)) : Option (Int32 × Int32 × Int32 × (Nat → Int32) × (Nat → Int32) × Int32 × (Nat → Int32) × Int32 × (Nat → Int32) × (Nat → Int32)) :=
  Option.bind (f_X4_firstFault a_bases a_tops a_words a_roots (0 : Int32)) fun o1 => Option.bind (α := Int32) (if 0 < o1 then some (1 : Int32) else Option.bind (f_X4_firstFault a_bases a_tops a_words a_roots (1 : Int32)) fun o24 => if o24 ≤ 0 then some (0 : Int32) else some (1 : Int32)) fun j2 => if j2 = (1 : Int32) then some ((0 : Int32), j2, a_reached, a_order, a_numbers, a_size, a_image, a_otherSize, a_other, a_kept) else Option.bind (f_X4_same_L42 a_image a_size FU (0 : Int32) a_kept) fun o6 => Option.bind (f_X4_makeImage a_bases a_words a_roots a_reached a_order a_numbers a_size a_image (0 : Int32)) fun o7 => Option.bind (f_X4_same_L80 o7.2.2.2.1 o7.2.2.2.2 a_size FU (0 : Int32) a_other) fun o11 => Option.bind (f_X4_makeImage a_bases a_words a_roots o7.1 o7.2.1 o7.2.2.1 o7.2.2.2.1 o7.2.2.2.2 (1 : Int32)) fun o12 => Option.bind (α := Int32) (if o12.2.2.2.1 = o7.2.2.2.1 then some (1 : Int32) else some (0 : Int32)) fun j13 => Option.bind (f_X4_same_L130 o12.2.2.2.1 o12.2.2.2.2 o11 a_size FU j13 (0 : Int32)) fun o18 => Option.bind (f_X4_same_L176 o6 a_size o18 FU (0 : Int32) o12.2.2.2.2) fun o22 => ck (o18 = 0 ∨ o18 = 1) (some (o18, j2, o12.1, o12.2.1, o12.2.2.1, a_size, o22, o7.2.2.2.1, o11, o6))
set_option maxHeartbeats 4000000 in
set_option maxRecDepth 100000 in
theorem c_X4_same (l : Launch) (dC : Nat → ClassId) (dI : Nat → Nat → Nat) (cI cJ cH : ClassId) (a_p a_bases_p a_tops_p a_words_p a_roots_p a_order_p a_numbers_p a_image_p a_other_p a_input_p a_fresh_p a_freshRoots_p a_heads_p a_kept_p : Nat)  (a_thrown : Int32) (a_bases : (Nat → Int32)) (a_tops : (Nat → Int32)) (a_words : (Nat → Int32)) (a_roots : (Nat → Int32)) (a_reached : Int32) (a_order : (Nat → Int32)) (a_numbers : (Nat → Int32)) (a_size : Int32) (a_image : (Nat → Int32)) (a_otherSize : Int32) (a_other : (Nat → Int32)) (a_waiting : Int32) (a_input : (Nat → Int32)) (a_at : Int32) (a_ended : Int32) (a_told : Int32) (a_many : Int32) (a_fresh : (Nat → Int32)) (a_freshRoots : (Nat → Int32)) (a_heads : (Nat → Int32)) (a_count : Int64) (a_kept : (Nat → Int32))  (o : (Int32 × Int32 × Int32 × (Nat → Int32) × (Nat → Int32) × Int32 × (Nat → Int32) × Int32 × (Nat → Int32) × (Nat → Int32))) (hf : f_X4_same a_thrown a_bases a_tops a_words a_roots a_reached a_order a_numbers a_size a_image a_otherSize a_other a_kept = some o) : ∀ sz : Nat, Met l yX4_same wsX4_same rm_X4_same (gPre [.ref a_p] (dC, dI) vwCl (gT cI cJ cH) (wMd cI a_p a_bases_p a_tops_p a_words_p a_roots_p a_order_p a_numbers_p a_image_p a_other_p a_input_p a_fresh_p a_freshRoots_p a_heads_p a_kept_p a_thrown a_bases a_tops a_words a_roots a_reached a_order a_numbers a_size a_image a_otherSize a_other a_waiting a_input a_at a_ended a_told a_many a_fresh a_freshRoots a_heads a_count a_kept) sz) (va_Qi (fun (r : Int32) (u : (Int32 × Int32 × (Nat → Int32) × (Nat → Int32) × Int32 × (Nat → Int32) × Int32 × (Nat → Int32) × (Nat → Int32))) => o.1 = r ∧ o.2 = u) (gB (dC, dI) vwCl (gT cI cJ cH) (fun (u : (Int32 × Int32 × (Nat → Int32) × (Nat → Int32) × Int32 × (Nat → Int32) × Int32 × (Nat → Int32) × (Nat → Int32))) => wMd cI a_p a_bases_p a_tops_p a_words_p a_roots_p a_order_p a_numbers_p a_image_p a_other_p a_input_p a_fresh_p a_freshRoots_p a_heads_p a_kept_p u.1 a_bases a_tops a_words a_roots u.2.1 u.2.2.1 u.2.2.2.1 u.2.2.2.2.1 u.2.2.2.2.2.1 u.2.2.2.2.2.2.1 u.2.2.2.2.2.2.2.1 a_waiting a_input a_at a_ended a_told a_many a_fresh a_freshRoots a_heads a_count u.2.2.2.2.2.2.2.2) (va_A (wMd cI a_p a_bases_p a_tops_p a_words_p a_roots_p a_order_p a_numbers_p a_image_p a_other_p a_input_p a_fresh_p a_freshRoots_p a_heads_p a_kept_p a_thrown a_bases a_tops a_words a_roots a_reached a_order a_numbers a_size a_image a_otherSize a_other a_waiting a_input a_at a_ended a_told a_many a_fresh a_freshRoots a_heads a_count a_kept) sz)) (va_A (wMd cI a_p a_bases_p a_tops_p a_words_p a_roots_p a_order_p a_numbers_p a_image_p a_other_p a_input_p a_fresh_p a_freshRoots_p a_heads_p a_kept_p a_thrown a_bases a_tops a_words a_roots a_reached a_order a_numbers a_size a_image a_otherSize a_other a_waiting a_input a_at a_ended a_told a_many a_fresh a_freshRoots a_heads a_count a_kept) sz)) 0 0 (va_A (wMd cI a_p a_bases_p a_tops_p a_words_p a_roots_p a_order_p a_numbers_p a_image_p a_other_p a_input_p a_fresh_p a_freshRoots_p a_heads_p a_kept_p a_thrown a_bases a_tops a_words a_roots a_reached a_order a_numbers a_size a_image a_otherSize a_other a_waiting a_input a_at a_ended a_told a_many a_fresh a_freshRoots a_heads a_count a_kept) sz) := by
  refine g_met (fun A => va_Qi (fun (r : Int32) (u : (Int32 × Int32 × (Nat → Int32) × (Nat → Int32) × Int32 × (Nat → Int32) × Int32 × (Nat → Int32) × (Nat → Int32))) => o.1 = r ∧ o.2 = u) (gB (dC, dI) vwCl (gT cI cJ cH) (fun (u : (Int32 × Int32 × (Nat → Int32) × (Nat → Int32) × Int32 × (Nat → Int32) × Int32 × (Nat → Int32) × (Nat → Int32))) => wMd cI a_p a_bases_p a_tops_p a_words_p a_roots_p a_order_p a_numbers_p a_image_p a_other_p a_input_p a_fresh_p a_freshRoots_p a_heads_p a_kept_p u.1 a_bases a_tops a_words a_roots u.2.1 u.2.2.1 u.2.2.2.1 u.2.2.2.2.1 u.2.2.2.2.2.1 u.2.2.2.2.2.2.1 u.2.2.2.2.2.2.2.1 a_waiting a_input a_at a_ended a_told a_many a_fresh a_freshRoots a_heads a_count u.2.2.2.2.2.2.2.2) A) A) (by decide) rfl (Nat.le_of_ble_eq_true rfl) ?_
  intro p e s m args below meth c A Q F hlocks hr hname hN hQ
  unfold f_X4_same at hf
  refine g_lvE (lv' := [(0, .ref a_p)]) rfl ?_
  refine g_aload_n F dX4_same_0 rfl 0 rfl ?_
  refine g_aload_n F dX4_same_1 rfl 0 rfl ?_
  refine g_iconst (v := 0) F dX4_same_2 rfl ?_
  obtain ⟨o1, ho1, hf⟩ := bnE hf
  refine g_callPi (n := 1) (As := [.int (0 : Int32)]) F (c_X4_firstFault l dC dI cI cJ cH a_p a_bases_p a_tops_p a_words_p a_roots_p a_order_p a_numbers_p a_image_p a_other_p a_input_p a_fresh_p a_freshRoots_p a_heads_p a_kept_p a_thrown a_bases a_tops a_words a_roots a_reached a_order a_numbers a_size a_image a_otherSize a_other a_waiting a_input a_at a_ended a_told a_many a_fresh a_freshRoots a_heads a_count a_kept (0 : Int32) o1 ho1) ggX4_same_X4_firstFault rfl rfl rfl (by decide +kernel) (by decide +kernel) (by decide +kernel) (by decide +kernel) (by decide +kernel) ⟨Nat.le_of_ble_eq_true rfl, Nat.le_of_ble_eq_true rfl⟩ ⟨Nat.le_of_ble_eq_true rfl, Nat.le_of_ble_eq_true rfl⟩ hN 0 rfl rfl rfl ([]) ([]) rfl (fun _ => rfl) rfl (Nat.le_of_ble_eq_true rfl) rfl dX4_same_3 (cells' := 0) (slots' := 0) rfl rfl (fun r u hp => ?_)
  subst hp
  refine g_ws (ws' := wMd cI a_p a_bases_p a_tops_p a_words_p a_roots_p a_order_p a_numbers_p a_image_p a_other_p a_input_p a_fresh_p a_freshRoots_p a_heads_p a_kept_p a_thrown a_bases a_tops a_words a_roots a_reached a_order a_numbers a_size a_image a_otherSize a_other a_waiting a_input a_at a_ended a_told a_many a_fresh a_freshRoots a_heads a_count a_kept) rfl ?_
  obtain ⟨j2, hj2, hf⟩ := bnE hf
  have Kj2 : gW p l e rm_X4_same s m args below meth c 0 0 Q (dC, dI) vwCl A 4 (wMd cI a_p a_bases_p a_tops_p a_words_p a_roots_p a_order_p a_numbers_p a_image_p a_other_p a_input_p a_fresh_p a_freshRoots_p a_heads_p a_kept_p a_thrown a_bases a_tops a_words a_roots a_reached a_order a_numbers a_size a_image a_otherSize a_other a_waiting a_input a_at a_ended a_told a_many a_fresh a_freshRoots a_heads a_count a_kept) [(0, .ref a_p)] 22 [.int j2, .ref a_p] := by
    refine g_put F h_X4_same_4 tyX4 tyX4_ok nmX4 0 rfl rfl 0 (by decide) (by decide +kernel) rfl rfl rfl (Nat.le_of_ble_eq_true rfl) dX4_same_22 (ws' := wMd cI a_p a_bases_p a_tops_p a_words_p a_roots_p a_order_p a_numbers_p a_image_p a_other_p a_input_p a_fresh_p a_freshRoots_p a_heads_p a_kept_p j2 a_bases a_tops a_words a_roots a_reached a_order a_numbers a_size a_image a_otherSize a_other a_waiting a_input a_at a_ended a_told a_many a_fresh a_freshRoots a_heads a_count a_kept) rfl ?_
    refine g_aload_n F dX4_same_25 rfl 0 rfl ?_
    refine g_get F h_X4_same_4 0 rfl rfl 0 (by decide) (by decide +kernel) rfl dX4_same_26 ?_
    refine g_iconst (v := 1) F dX4_same_29 rfl ?_
    refine g_icmp_ne (tgt := 35) F dX4_same_30 (by decide) (fun c30 => ?_) (fun c30 => ?_)
    · have hf := iteF hf c30
      refine g_aload_n F dX4_same_35 rfl 0 rfl ?_
      refine g_get F h_X4_same_4 0 rfl rfl 8 (by decide) (by decide +kernel) rfl dX4_same_36 ?_
      refine g_istore_n (lv' := [(1, .int a_size), (0, .ref a_p)]) F dX4_same_39 rfl (by decide) rfl ?_
      refine g_iconst (v := 0) F dX4_same_40 rfl ?_
      refine g_istore_n (lv' := [(2, .int (0 : Int32)), (1, .int a_size), (0, .ref a_p)]) F dX4_same_41 rfl (by decide) rfl ?_
      obtain ⟨o6, ho6, hf⟩ := bnE hf
      refine g_lv [2, 1, 0] rfl ?_
      refine w_X4_same_L42 F hN FU _ _ o6 ho6 ?_
      refine g_aload_n F dX4_same_65 rfl 0 rfl ?_
      refine g_iconst (v := 0) F dX4_same_66 rfl ?_
      obtain ⟨o7, ho7, hf⟩ := bnE hf
      refine g_callPv (n := 1) (As := [.int (0 : Int32)]) F (c_X4_makeImage l dC dI cI cJ cH a_p a_bases_p a_tops_p a_words_p a_roots_p a_order_p a_numbers_p a_image_p a_other_p a_input_p a_fresh_p a_freshRoots_p a_heads_p a_kept_p j2 a_bases a_tops a_words a_roots a_reached a_order a_numbers a_size a_image a_otherSize a_other a_waiting a_input a_at a_ended a_told a_many a_fresh a_freshRoots a_heads a_count o6 (0 : Int32) o7 ho7) ggX4_same_X4_makeImage rfl rfl rfl (by decide +kernel) (by decide +kernel) (by decide +kernel) (by decide +kernel) (by decide +kernel) ⟨Nat.le_of_ble_eq_true rfl, Nat.le_of_ble_eq_true rfl⟩ ⟨Nat.le_of_ble_eq_true rfl, Nat.le_of_ble_eq_true rfl⟩ hN 0 rfl rfl rfl ([]) ([]) rfl (fun _ => rfl) rfl (Nat.le_of_ble_eq_true rfl) rfl dX4_same_67 (cells' := 0) (slots' := 0) rfl rfl (fun u hp => ?_)
      subst hp
      refine g_ws (ws' := wMd cI a_p a_bases_p a_tops_p a_words_p a_roots_p a_order_p a_numbers_p a_image_p a_other_p a_input_p a_fresh_p a_freshRoots_p a_heads_p a_kept_p j2 a_bases a_tops a_words a_roots o7.1 o7.2.1 o7.2.2.1 o7.2.2.2.1 o7.2.2.2.2 a_otherSize a_other a_waiting a_input a_at a_ended a_told a_many a_fresh a_freshRoots a_heads a_count o6) rfl ?_
      refine g_aload_n F dX4_same_70 rfl 0 rfl ?_
      refine g_aload_n F dX4_same_71 rfl 0 rfl ?_
      refine g_get F h_X4_same_4 0 rfl rfl 8 (by decide) (by decide +kernel) rfl dX4_same_72 ?_
      refine g_put F h_X4_same_4 tyX4 tyX4_ok nmX4 0 rfl rfl 10 (by decide) (by decide +kernel) rfl rfl rfl (Nat.le_of_ble_eq_true rfl) dX4_same_75 (ws' := wMd cI a_p a_bases_p a_tops_p a_words_p a_roots_p a_order_p a_numbers_p a_image_p a_other_p a_input_p a_fresh_p a_freshRoots_p a_heads_p a_kept_p j2 a_bases a_tops a_words a_roots o7.1 o7.2.1 o7.2.2.1 o7.2.2.2.1 o7.2.2.2.2 o7.2.2.2.1 a_other a_waiting a_input a_at a_ended a_told a_many a_fresh a_freshRoots a_heads a_count o6) rfl ?_
      refine g_iconst (v := 0) F dX4_same_78 rfl ?_
      refine g_istore_n (lv' := [(2, .int (0 : Int32)), (0, .ref a_p), (1, .int a_size)]) F dX4_same_79 rfl (by decide) rfl ?_
      obtain ⟨o11, ho11, hf⟩ := bnE hf
      refine g_lv [1, 2, 0] rfl ?_
      refine w_X4_same_L80 F hN FU _ _ o11 ho11 ?_
      refine g_aload_n F dX4_same_106 rfl 0 rfl ?_
      refine g_iconst (v := 1) F dX4_same_107 rfl ?_
      obtain ⟨o12, ho12, hf⟩ := bnE hf
      refine g_callPv (n := 1) (As := [.int (1 : Int32)]) F (c_X4_makeImage l dC dI cI cJ cH a_p a_bases_p a_tops_p a_words_p a_roots_p a_order_p a_numbers_p a_image_p a_other_p a_input_p a_fresh_p a_freshRoots_p a_heads_p a_kept_p j2 a_bases a_tops a_words a_roots o7.1 o7.2.1 o7.2.2.1 o7.2.2.2.1 o7.2.2.2.2 o7.2.2.2.1 o11 a_waiting a_input a_at a_ended a_told a_many a_fresh a_freshRoots a_heads a_count o6 (1 : Int32) o12 ho12) ggX4_same_X4_makeImage rfl rfl rfl (by decide +kernel) (by decide +kernel) (by decide +kernel) (by decide +kernel) (by decide +kernel) ⟨Nat.le_of_ble_eq_true rfl, Nat.le_of_ble_eq_true rfl⟩ ⟨Nat.le_of_ble_eq_true rfl, Nat.le_of_ble_eq_true rfl⟩ hN 0 rfl rfl rfl ([]) ([]) rfl (fun _ => rfl) rfl (Nat.le_of_ble_eq_true rfl) rfl dX4_same_108 (cells' := 0) (slots' := 0) rfl rfl (fun u hp => ?_)
      subst hp
      refine g_ws (ws' := wMd cI a_p a_bases_p a_tops_p a_words_p a_roots_p a_order_p a_numbers_p a_image_p a_other_p a_input_p a_fresh_p a_freshRoots_p a_heads_p a_kept_p j2 a_bases a_tops a_words a_roots o12.1 o12.2.1 o12.2.2.1 o12.2.2.2.1 o12.2.2.2.2 o7.2.2.2.1 o11 a_waiting a_input a_at a_ended a_told a_many a_fresh a_freshRoots a_heads a_count o6) rfl ?_
      refine g_aload_n F dX4_same_111 rfl 0 rfl ?_
      refine g_get F h_X4_same_4 0 rfl rfl 8 (by decide) (by decide +kernel) rfl dX4_same_112 ?_
      refine g_aload_n F dX4_same_115 rfl 0 rfl ?_
      refine g_get F h_X4_same_4 0 rfl rfl 10 (by decide) (by decide +kernel) rfl dX4_same_116 ?_
      obtain ⟨j13, hj13, hf⟩ := bnE hf
      have Kj13 : gW p l e rm_X4_same s m args below meth c 0 0 Q (dC, dI) vwCl A 4 (wMd cI a_p a_bases_p a_tops_p a_words_p a_roots_p a_order_p a_numbers_p a_image_p a_other_p a_input_p a_fresh_p a_freshRoots_p a_heads_p a_kept_p j2 a_bases a_tops a_words a_roots o12.1 o12.2.1 o12.2.2.1 o12.2.2.2.1 o12.2.2.2.2 o7.2.2.2.1 o11 a_waiting a_input a_at a_ended a_told a_many a_fresh a_freshRoots a_heads a_count o6) [(0, .ref a_p), (1, .int a_size)] 127 [.int j13] := by
        refine g_istore_n (lv' := [(2, .int j13), (0, .ref a_p), (1, .int a_size)]) F dX4_same_127 rfl (by decide) rfl ?_
        refine g_iconst (v := 0) F dX4_same_128 rfl ?_
        refine g_istore_n (lv' := [(3, .int (0 : Int32)), (2, .int j13), (0, .ref a_p), (1, .int a_size)]) F dX4_same_129 rfl (by decide) rfl ?_
        obtain ⟨o18, ho18, hf⟩ := bnE hf
        refine g_lv [2, 3, 1, 0] rfl ?_
        refine w_X4_same_L130 F hN FU _ _ o18 ho18 ?_
        refine g_aload_n F dX4_same_169 rfl 0 rfl ?_
        refine g_iload_n F dX4_same_170 rfl 1 rfl ?_
        refine g_put F h_X4_same_4 tyX4 tyX4_ok nmX4 0 rfl rfl 8 (by decide) (by decide +kernel) rfl rfl rfl (Nat.le_of_ble_eq_true rfl) dX4_same_171 (ws' := wMd cI a_p a_bases_p a_tops_p a_words_p a_roots_p a_order_p a_numbers_p a_image_p a_other_p a_input_p a_fresh_p a_freshRoots_p a_heads_p a_kept_p j2 a_bases a_tops a_words a_roots o12.1 o12.2.1 o12.2.2.1 a_size o12.2.2.2.2 o7.2.2.2.1 o11 a_waiting a_input a_at a_ended a_told a_many a_fresh a_freshRoots a_heads a_count o6) rfl ?_
        refine g_iconst (v := 0) F dX4_same_174 rfl ?_
        refine g_istore_n (lv' := [(3, .int (0 : Int32)), (0, .ref a_p), (1, .int a_size), (2, .int o18)]) F dX4_same_175 rfl (by decide) rfl ?_
        obtain ⟨o22, ho22, hf⟩ := bnE hf
        refine g_lv [1, 2, 3, 0] rfl ?_
        refine w_X4_same_L176 F hN FU _ _ o22 ho22 ?_
        refine g_iload_n F dX4_same_199 rfl 0 rfl ?_
        obtain ⟨h23, hf⟩ := ckE hf
        subst hQ
        exact g_zret F hlocks hr (nar01 h23) (j2, o12.1, o12.2.1, o12.2.2.1, a_size, o22, o7.2.2.2.1, o11, o6) rfl (pr2 (Option.some.inj hf)) dX4_same_200
      clear hf
      have hf := hj13
      refine g_icmp_ne (tgt := 126) F dX4_same_119 (by decide) (fun c119 => ?_) (fun c119 => ?_)
      · have hf := iteF hf c119
        refine g_iconst (v := 0) F dX4_same_126 rfl ?_
        cases hf
        refine g_lv [0, 1] rfl ?_
        exact Kj13
      · have hf := iteT hf c119
        refine g_iconst (v := 1) F dX4_same_122 rfl ?_
        refine g_goto (tgt := 127) F dX4_same_123 (by decide) ?_
        cases hf
        refine g_lv [0, 1] rfl ?_
        exact Kj13
    · have hf := iteT hf c30
      refine g_iconst (v := 0) F dX4_same_33 rfl ?_
      subst hQ
      exact g_zret F hlocks hr rfl (j2, a_reached, a_order, a_numbers, a_size, a_image, a_otherSize, a_other, a_kept) rfl (pr2 (Option.some.inj hf)) dX4_same_34
  clear hf
  have hf := hj2
  refine g_if_gt (tgt := 17) F dX4_same_6 (by decide) (fun c6 => ?_) (fun c6 => ?_)
  · have hf := iteT hf c6
    refine g_iconst (v := 1) F dX4_same_17 rfl ?_
    refine g_goto (tgt := 22) F dX4_same_18 (by decide) ?_
    cases hf
    refine g_lv [0] rfl ?_
    exact Kj2
  · have hf := iteF hf c6
    refine g_aload_n F dX4_same_9 rfl 0 rfl ?_
    refine g_iconst (v := 1) F dX4_same_10 rfl ?_
    obtain ⟨o24, ho24, hf⟩ := bnE hf
    refine g_callPi (n := 1) (As := [.int (1 : Int32)]) F (c_X4_firstFault l dC dI cI cJ cH a_p a_bases_p a_tops_p a_words_p a_roots_p a_order_p a_numbers_p a_image_p a_other_p a_input_p a_fresh_p a_freshRoots_p a_heads_p a_kept_p a_thrown a_bases a_tops a_words a_roots a_reached a_order a_numbers a_size a_image a_otherSize a_other a_waiting a_input a_at a_ended a_told a_many a_fresh a_freshRoots a_heads a_count a_kept (1 : Int32) o24 ho24) ggX4_same_X4_firstFault rfl rfl rfl (by decide +kernel) (by decide +kernel) (by decide +kernel) (by decide +kernel) (by decide +kernel) ⟨Nat.le_of_ble_eq_true rfl, Nat.le_of_ble_eq_true rfl⟩ ⟨Nat.le_of_ble_eq_true rfl, Nat.le_of_ble_eq_true rfl⟩ hN 0 rfl rfl rfl ([]) ([]) rfl (fun _ => rfl) rfl (Nat.le_of_ble_eq_true rfl) rfl dX4_same_11 (cells' := 0) (slots' := 0) rfl rfl (fun r u hp => ?_)
    subst hp
    refine g_ws (ws' := wMd cI a_p a_bases_p a_tops_p a_words_p a_roots_p a_order_p a_numbers_p a_image_p a_other_p a_input_p a_fresh_p a_freshRoots_p a_heads_p a_kept_p a_thrown a_bases a_tops a_words a_roots a_reached a_order a_numbers a_size a_image a_otherSize a_other a_waiting a_input a_at a_ended a_told a_many a_fresh a_freshRoots a_heads a_count a_kept) rfl ?_
    refine g_if_le (tgt := 21) F dX4_same_14 (by decide) (fun c14 => ?_) (fun c14 => ?_)
    · have hf := iteT hf c14
      refine g_iconst (v := 0) F dX4_same_21 rfl ?_
      cases hf
      refine g_lv [0] rfl ?_
      exact Kj2
    · have hf := iteF hf c14
      refine g_iconst (v := 1) F dX4_same_17 rfl ?_
      refine g_goto (tgt := 22) F dX4_same_18 (by decide) ?_
      cases hf
      refine g_lv [0] rfl ?_
      exact Kj2

/-! HeapImagesModel.objects(I)I -/
def rm_X4_objects : Room := { frames := 3, cells := 0, slots := 0, locals := 65 }
theorem h_X4_objects_4 : ∀ w ∈ wsX40, w ∈ wsX4_objects := by decide +kernel
def f_X4_objects_L4_s (a_tops : (Nat → Int32)) (a_words : (Nat → Int32)) (y1 : Int32) (rc : Int32 → Int32 → Option Int32) (z2 : Int32) (z3 : Int32) : Option Int32 :=
  if z3 < 0 then some z2 else ck (inR y1 2) (if (a_tops y1.toNatClampNeg) ≤ z3 then some z2 else Option.bind (f_X4_behind a_tops a_words y1 z3) fun o2 => if o2 < 0 then rc z2 o2 else nm (z2 + (1 : Int32)) fun v3 => rc v3 o2)
def f_X4_objects_L4 (a_tops : (Nat → Int32)) (a_words : (Nat → Int32)) (y1 : Int32) : Nat → Int32 → Int32 → Option Int32
  | 0, _, _ => none
  | n + 1, z2, z3 => f_X4_objects_L4_s a_tops a_words y1 (f_X4_objects_L4 a_tops a_words y1 n) z2 z3
set_option maxHeartbeats 4000000 in
theorem w_X4_objects_L4 {p : Program} {l : Launch} {e : Env} {s : State} {m : MethodId} {args : Array Value} {below : List Frame} {meth : Method} {c : Code} {A : Nat → Prop} {Q : State → Prop} {dC : Nat → ClassId} {dI : Nat → Nat → Nat} {cI cJ cH : ClassId} {a_p a_bases_p a_tops_p a_words_p a_roots_p a_order_p a_numbers_p a_image_p a_other_p a_input_p a_fresh_p a_freshRoots_p a_heads_p a_kept_p : Nat} {a_thrown : Int32} {a_bases : (Nat → Int32)} {a_tops : (Nat → Int32)} {a_words : (Nat → Int32)} {a_roots : (Nat → Int32)} {a_reached : Int32} {a_order : (Nat → Int32)} {a_numbers : (Nat → Int32)} {a_size : Int32} {a_image : (Nat → Int32)} {a_otherSize : Int32} {a_other : (Nat → Int32)} {a_waiting : Int32} {a_input : (Nat → Int32)} {a_at : Int32} {a_ended : Int32} {a_told : Int32} {a_many : Int32} {a_fresh : (Nat → Int32)} {a_freshRoots : (Nat → Int32)} {a_heads : (Nat → Int32)} {a_count : Int64} {a_kept : (Nat → Int32)} {y1 : Int32} (F : gF p m c cX4_objects 4 s args wsX4_objects yX4_objects.cls (dC, dI) vwCl (gT cI cJ cH) A) (hN : ∀ w ∈ gN, va_Nw w s) : ∀ (n : Nat) (z2 : Int32) (z3 : Int32) (o : Int32), f_X4_objects_L4 a_tops a_words y1 n z2 z3 = some o → (gW p l e rm_X4_objects s m args below meth c 0 0 Q (dC, dI) vwCl A 4 (wMd cI a_p a_bases_p a_tops_p a_words_p a_roots_p a_order_p a_numbers_p a_image_p a_other_p a_input_p a_fresh_p a_freshRoots_p a_heads_p a_kept_p a_thrown a_bases a_tops a_words a_roots a_reached a_order a_numbers a_size a_image a_otherSize a_other a_waiting a_input a_at a_ended a_told a_many a_fresh a_freshRoots a_heads a_count a_kept) [(2, .int o)] 40 []) → gW p l e rm_X4_objects s m args below meth c 0 0 Q (dC, dI) vwCl A 4 (wMd cI a_p a_bases_p a_tops_p a_words_p a_roots_p a_order_p a_numbers_p a_image_p a_other_p a_input_p a_fresh_p a_freshRoots_p a_heads_p a_kept_p a_thrown a_bases a_tops a_words a_roots a_reached a_order a_numbers a_size a_image a_otherSize a_other a_waiting a_input a_at a_ended a_told a_many a_fresh a_freshRoots a_heads a_count a_kept) [(0, .ref a_p), (1, .int y1), (2, .int z2), (3, .int z3)] 4 [] := by
  intro n
  induction n with
  | zero =>
    intro z2 z3 o hf E0
    change none = some o at hf
    cases hf
  | succ n ih =>
    intro z2 z3 o hf E0
    change f_X4_objects_L4_s a_tops a_words y1 (f_X4_objects_L4 a_tops a_words y1 n) z2 z3 = some o at hf
    unfold f_X4_objects_L4_s at hf
    refine g_iload_n F dX4_objects_4 rfl 3 rfl ?_
    refine g_if_lt (tgt := 40) F dX4_objects_5 (by decide) (fun c5 => ?_) (fun c5 => ?_)
    · have hf := iteT hf c5
      cases hf
      refine g_lv [2] rfl ?_
      exact E0
    · have hf := iteF hf c5
      refine g_iload_n F dX4_objects_8 rfl 3 rfl ?_
      refine g_aload_n F dX4_objects_9 rfl 0 rfl ?_
      refine g_get F h_X4_objects_4 0 rfl rfl 2 (by decide) (by decide +kernel) rfl dX4_objects_10 ?_
      refine g_iload_n F dX4_objects_13 rfl 1 rfl ?_
      obtain ⟨h1, hf⟩ := ckE hf
      refine g_iald F 2 0 rfl rfl h1 dX4_objects_14 ?_
      refine g_icmp_ge (tgt := 40) F dX4_objects_15 (by decide) (fun c15 => ?_) (fun c15 => ?_)
      · have hf := iteT hf c15
        cases hf
        refine g_lv [2] rfl ?_
        exact E0
      · have hf := iteF hf c15
        refine g_aload_n F dX4_objects_18 rfl 0 rfl ?_
        refine g_iload_n F dX4_objects_19 rfl 1 rfl ?_
        refine g_iload_n F dX4_objects_20 rfl 3 rfl ?_
        obtain ⟨o2, ho2, hf⟩ := bnE hf
        refine g_callPi (n := 2) (As := [.int y1, .int z3]) F (c_X4_behind l dC dI cI cJ cH a_p a_bases_p a_tops_p a_words_p a_roots_p a_order_p a_numbers_p a_image_p a_other_p a_input_p a_fresh_p a_freshRoots_p a_heads_p a_kept_p a_thrown a_bases a_tops a_words a_roots a_reached a_order a_numbers a_size a_image a_otherSize a_other a_waiting a_input a_at a_ended a_told a_many a_fresh a_freshRoots a_heads a_count a_kept y1 z3 o2 ho2) ggX4_objects_X4_behind rfl rfl rfl (by decide +kernel) (by decide +kernel) (by decide +kernel) (by decide +kernel) (by decide +kernel) ⟨Nat.le_of_ble_eq_true rfl, Nat.le_of_ble_eq_true rfl⟩ ⟨Nat.le_of_ble_eq_true rfl, Nat.le_of_ble_eq_true rfl⟩ hN 0 rfl rfl rfl ([]) ([]) rfl (fun _ => rfl) rfl (Nat.le_of_ble_eq_true rfl) rfl dX4_objects_21 (cells' := 0) (slots' := 0) rfl rfl (fun r u hp => ?_)
        subst hp
        refine g_ws (ws' := wMd cI a_p a_bases_p a_tops_p a_words_p a_roots_p a_order_p a_numbers_p a_image_p a_other_p a_input_p a_fresh_p a_freshRoots_p a_heads_p a_kept_p a_thrown a_bases a_tops a_words a_roots a_reached a_order a_numbers a_size a_image a_otherSize a_other a_waiting a_input a_at a_ended a_told a_many a_fresh a_freshRoots a_heads a_count a_kept) rfl ?_
        refine g_istore_n (lv' := [(3, .int o2), (0, .ref a_p), (1, .int y1), (2, .int z2)]) F dX4_objects_24 rfl (by decide) rfl ?_
        refine g_iload_n F dX4_objects_25 rfl 0 rfl ?_
        refine g_if_lt (tgt := 35) F dX4_objects_26 (by decide) (fun c26 => ?_) (fun c26 => ?_)
        · have hf := iteT hf c26
          refine g_iload_n F dX4_objects_35 rfl 3 rfl ?_
          refine g_istore_n (lv' := [(2, .int z2), (3, .int o2), (0, .ref a_p), (1, .int y1)]) F dX4_objects_36 rfl (by decide) rfl ?_
          refine g_goto (tgt := 4) F dX4_objects_37 (by decide) ?_
          refine g_lv [2, 3, 0, 1] rfl ?_
          exact ih _ _ o hf E0
        · have hf := iteF hf c26
          refine g_iload_n F dX4_objects_29 rfl 3 rfl ?_
          refine g_iconst (v := 1) F dX4_objects_30 rfl ?_
          refine g_iadd F dX4_objects_31 ?_
          refine g_goto (tgt := 36) F dX4_objects_32 (by decide) ?_
          obtain ⟨v3, ev3, hf⟩ := nmE hf
          refine g_nmi ev3 ?_
          refine g_istore_n (lv' := [(2, .int v3), (3, .int o2), (0, .ref a_p), (1, .int y1)]) F dX4_objects_36 rfl (by decide) rfl ?_
          refine g_goto (tgt := 4) F dX4_objects_37 (by decide) ?_
          refine g_lv [2, 3, 0, 1] rfl ?_
          exact ih _ _ o hf E0
def f_X4_objects (a_tops : (Nat → Int32)) (a_words : (Nat → Int32)) (x1 : Int32) : Option Int32 :=
  Option.bind (f_X4_objects_L4 a_tops a_words x1 FU (0 : Int32) (0 : Int32)) fun o4 => some o4
set_option maxHeartbeats 4000000 in
set_option maxRecDepth 100000 in
theorem c_X4_objects (l : Launch) (dC : Nat → ClassId) (dI : Nat → Nat → Nat) (cI cJ cH : ClassId) (a_p a_bases_p a_tops_p a_words_p a_roots_p a_order_p a_numbers_p a_image_p a_other_p a_input_p a_fresh_p a_freshRoots_p a_heads_p a_kept_p : Nat)  (a_thrown : Int32) (a_bases : (Nat → Int32)) (a_tops : (Nat → Int32)) (a_words : (Nat → Int32)) (a_roots : (Nat → Int32)) (a_reached : Int32) (a_order : (Nat → Int32)) (a_numbers : (Nat → Int32)) (a_size : Int32) (a_image : (Nat → Int32)) (a_otherSize : Int32) (a_other : (Nat → Int32)) (a_waiting : Int32) (a_input : (Nat → Int32)) (a_at : Int32) (a_ended : Int32) (a_told : Int32) (a_many : Int32) (a_fresh : (Nat → Int32)) (a_freshRoots : (Nat → Int32)) (a_heads : (Nat → Int32)) (a_count : Int64) (a_kept : (Nat → Int32)) (x1 : Int32) (o : Int32) (hf : f_X4_objects a_tops a_words x1 = some o) : ∀ sz : Nat, Met l yX4_objects wsX4_objects rm_X4_objects (gPre [.ref a_p, .int x1] (dC, dI) vwCl (gT cI cJ cH) (wMd cI a_p a_bases_p a_tops_p a_words_p a_roots_p a_order_p a_numbers_p a_image_p a_other_p a_input_p a_fresh_p a_freshRoots_p a_heads_p a_kept_p a_thrown a_bases a_tops a_words a_roots a_reached a_order a_numbers a_size a_image a_otherSize a_other a_waiting a_input a_at a_ended a_told a_many a_fresh a_freshRoots a_heads a_count a_kept) sz) (va_Qi (fun (r : Int32) (u : Unit) => o = r) (gB (dC, dI) vwCl (gT cI cJ cH) (fun (u : Unit) => wMd cI a_p a_bases_p a_tops_p a_words_p a_roots_p a_order_p a_numbers_p a_image_p a_other_p a_input_p a_fresh_p a_freshRoots_p a_heads_p a_kept_p a_thrown a_bases a_tops a_words a_roots a_reached a_order a_numbers a_size a_image a_otherSize a_other a_waiting a_input a_at a_ended a_told a_many a_fresh a_freshRoots a_heads a_count a_kept) (va_A (wMd cI a_p a_bases_p a_tops_p a_words_p a_roots_p a_order_p a_numbers_p a_image_p a_other_p a_input_p a_fresh_p a_freshRoots_p a_heads_p a_kept_p a_thrown a_bases a_tops a_words a_roots a_reached a_order a_numbers a_size a_image a_otherSize a_other a_waiting a_input a_at a_ended a_told a_many a_fresh a_freshRoots a_heads a_count a_kept) sz)) (va_A (wMd cI a_p a_bases_p a_tops_p a_words_p a_roots_p a_order_p a_numbers_p a_image_p a_other_p a_input_p a_fresh_p a_freshRoots_p a_heads_p a_kept_p a_thrown a_bases a_tops a_words a_roots a_reached a_order a_numbers a_size a_image a_otherSize a_other a_waiting a_input a_at a_ended a_told a_many a_fresh a_freshRoots a_heads a_count a_kept) sz)) 0 0 (va_A (wMd cI a_p a_bases_p a_tops_p a_words_p a_roots_p a_order_p a_numbers_p a_image_p a_other_p a_input_p a_fresh_p a_freshRoots_p a_heads_p a_kept_p a_thrown a_bases a_tops a_words a_roots a_reached a_order a_numbers a_size a_image a_otherSize a_other a_waiting a_input a_at a_ended a_told a_many a_fresh a_freshRoots a_heads a_count a_kept) sz) := by
  refine g_met (fun A => va_Qi (fun (r : Int32) (u : Unit) => o = r) (gB (dC, dI) vwCl (gT cI cJ cH) (fun (u : Unit) => wMd cI a_p a_bases_p a_tops_p a_words_p a_roots_p a_order_p a_numbers_p a_image_p a_other_p a_input_p a_fresh_p a_freshRoots_p a_heads_p a_kept_p a_thrown a_bases a_tops a_words a_roots a_reached a_order a_numbers a_size a_image a_otherSize a_other a_waiting a_input a_at a_ended a_told a_many a_fresh a_freshRoots a_heads a_count a_kept) A) A) (by decide) rfl (Nat.le_of_ble_eq_true rfl) ?_
  intro p e s m args below meth c A Q F hlocks hr hname hN hQ
  unfold f_X4_objects at hf
  refine g_lvE (lv' := [(0, .ref a_p), (1, .int x1)]) rfl ?_
  refine g_iconst (v := 0) F dX4_objects_0 rfl ?_
  refine g_istore_n (lv' := [(2, .int (0 : Int32)), (0, .ref a_p), (1, .int x1)]) F dX4_objects_1 rfl (by decide) rfl ?_
  refine g_iconst (v := 0) F dX4_objects_2 rfl ?_
  refine g_istore_n (lv' := [(3, .int (0 : Int32)), (2, .int (0 : Int32)), (0, .ref a_p), (1, .int x1)]) F dX4_objects_3 rfl (by decide) rfl ?_
  obtain ⟨o4, ho4, hf⟩ := bnE hf
  refine g_lv [2, 3, 1, 0] rfl ?_
  refine w_X4_objects_L4 F hN FU _ _ o4 ho4 ?_
  refine g_iload_n F dX4_objects_40 rfl 0 rfl ?_
  subst hQ
  exact g_iret F hlocks hr () rfl (Option.some.inj hf).symm dX4_objects_41

/-! HeapImagesModel.told(II)I -/
def rm_X4_told : Room := { frames := 7, cells := 0, slots := 0, locals := 160 }
theorem h_X4_told_4 : ∀ w ∈ wsX40, w ∈ wsX4_told := by decide +kernel
def f_X4_told (a_thrown : Int32) (a_bases : (Nat → Int32)) (a_tops : (Nat → Int32)) (a_words : (Nat → Int32)) (a_roots : (Nat → Int32)) (a_reached : Int32) (a_order : (Nat → Int32)) (a_numbers : (Nat → Int32)) (x1 : Int32) (x2 : Int32) : Option (Int32 × Int32 × Int32 × (Nat → Int32) × (Nat → Int32)) :=
  Option.bind (f_X4_isHeap x1) fun o1 => Option.bind (α := Int32) (if o1 = 0 then some (1 : Int32) else if x2 < 0 then some (2 : Int32) else if x2 ≤ (3 : Int32) then if x2 = (2 : Int32) then Option.bind (f_X4_firstFault a_bases a_tops a_words a_roots x1) fun o8 => if o8 ≤ 0 then some (0 : Int32) else some (3 : Int32) else some (0 : Int32) else some (2 : Int32)) fun j2 => if j2 ≤ 0 then Option.bind (α := (Int32 × (Nat → Int32) × (Nat → Int32))) (if x2 = (2 : Int32) then Option.bind (f_X4_reach a_bases a_words a_roots a_reached a_order a_numbers x1) fun o7 => some (o7.1, o7.2.1, o7.2.2) else some (a_reached, a_order, a_numbers)) fun j3 => if x2 = 0 then ck (inR x1 2) (some (a_bases x1.toNatClampNeg, j2, j3.1, j3.2.1, j3.2.2)) else if x2 = (1 : Int32) then ck (inR x1 2) (some (a_tops x1.toNatClampNeg, j2, j3.1, j3.2.1, j3.2.2)) else if x2 = (2 : Int32) then some (j3.1, j2, j3.1, j3.2.1, j3.2.2) else Option.bind (f_X4_objects a_tops a_words x1) fun o4 => some (o4, j2, j3.1, j3.2.1, j3.2.2) else some ((0 : Int32), j2, a_reached, a_order, a_numbers)
set_option maxHeartbeats 4000000 in
set_option maxRecDepth 100000 in
theorem c_X4_told (l : Launch) (dC : Nat → ClassId) (dI : Nat → Nat → Nat) (cI cJ cH : ClassId) (a_p a_bases_p a_tops_p a_words_p a_roots_p a_order_p a_numbers_p a_image_p a_other_p a_input_p a_fresh_p a_freshRoots_p a_heads_p a_kept_p : Nat)  (a_thrown : Int32) (a_bases : (Nat → Int32)) (a_tops : (Nat → Int32)) (a_words : (Nat → Int32)) (a_roots : (Nat → Int32)) (a_reached : Int32) (a_order : (Nat → Int32)) (a_numbers : (Nat → Int32)) (a_size : Int32) (a_image : (Nat → Int32)) (a_otherSize : Int32) (a_other : (Nat → Int32)) (a_waiting : Int32) (a_input : (Nat → Int32)) (a_at : Int32) (a_ended : Int32) (a_told : Int32) (a_many : Int32) (a_fresh : (Nat → Int32)) (a_freshRoots : (Nat → Int32)) (a_heads : (Nat → Int32)) (a_count : Int64) (a_kept : (Nat → Int32)) (x1 : Int32) (x2 : Int32) (o : (Int32 × Int32 × Int32 × (Nat → Int32) × (Nat → Int32))) (hf : f_X4_told a_thrown a_bases a_tops a_words a_roots a_reached a_order a_numbers x1 x2 = some o) : ∀ sz : Nat, Met l yX4_told wsX4_told rm_X4_told (gPre [.ref a_p, .int x1, .int x2] (dC, dI) vwCl (gT cI cJ cH) (wMd cI a_p a_bases_p a_tops_p a_words_p a_roots_p a_order_p a_numbers_p a_image_p a_other_p a_input_p a_fresh_p a_freshRoots_p a_heads_p a_kept_p a_thrown a_bases a_tops a_words a_roots a_reached a_order a_numbers a_size a_image a_otherSize a_other a_waiting a_input a_at a_ended a_told a_many a_fresh a_freshRoots a_heads a_count a_kept) sz) (va_Qi (fun (r : Int32) (u : (Int32 × Int32 × (Nat → Int32) × (Nat → Int32))) => o.1 = r ∧ o.2 = u) (gB (dC, dI) vwCl (gT cI cJ cH) (fun (u : (Int32 × Int32 × (Nat → Int32) × (Nat → Int32))) => wMd cI a_p a_bases_p a_tops_p a_words_p a_roots_p a_order_p a_numbers_p a_image_p a_other_p a_input_p a_fresh_p a_freshRoots_p a_heads_p a_kept_p u.1 a_bases a_tops a_words a_roots u.2.1 u.2.2.1 u.2.2.2 a_size a_image a_otherSize a_other a_waiting a_input a_at a_ended a_told a_many a_fresh a_freshRoots a_heads a_count a_kept) (va_A (wMd cI a_p a_bases_p a_tops_p a_words_p a_roots_p a_order_p a_numbers_p a_image_p a_other_p a_input_p a_fresh_p a_freshRoots_p a_heads_p a_kept_p a_thrown a_bases a_tops a_words a_roots a_reached a_order a_numbers a_size a_image a_otherSize a_other a_waiting a_input a_at a_ended a_told a_many a_fresh a_freshRoots a_heads a_count a_kept) sz)) (va_A (wMd cI a_p a_bases_p a_tops_p a_words_p a_roots_p a_order_p a_numbers_p a_image_p a_other_p a_input_p a_fresh_p a_freshRoots_p a_heads_p a_kept_p a_thrown a_bases a_tops a_words a_roots a_reached a_order a_numbers a_size a_image a_otherSize a_other a_waiting a_input a_at a_ended a_told a_many a_fresh a_freshRoots a_heads a_count a_kept) sz)) 0 0 (va_A (wMd cI a_p a_bases_p a_tops_p a_words_p a_roots_p a_order_p a_numbers_p a_image_p a_other_p a_input_p a_fresh_p a_freshRoots_p a_heads_p a_kept_p a_thrown a_bases a_tops a_words a_roots a_reached a_order a_numbers a_size a_image a_otherSize a_other a_waiting a_input a_at a_ended a_told a_many a_fresh a_freshRoots a_heads a_count a_kept) sz) := by
  refine g_met (fun A => va_Qi (fun (r : Int32) (u : (Int32 × Int32 × (Nat → Int32) × (Nat → Int32))) => o.1 = r ∧ o.2 = u) (gB (dC, dI) vwCl (gT cI cJ cH) (fun (u : (Int32 × Int32 × (Nat → Int32) × (Nat → Int32))) => wMd cI a_p a_bases_p a_tops_p a_words_p a_roots_p a_order_p a_numbers_p a_image_p a_other_p a_input_p a_fresh_p a_freshRoots_p a_heads_p a_kept_p u.1 a_bases a_tops a_words a_roots u.2.1 u.2.2.1 u.2.2.2 a_size a_image a_otherSize a_other a_waiting a_input a_at a_ended a_told a_many a_fresh a_freshRoots a_heads a_count a_kept) A) A) (by decide) rfl (Nat.le_of_ble_eq_true rfl) ?_
  intro p e s m args below meth c A Q F hlocks hr hname hN hQ
  unfold f_X4_told at hf
  refine g_lvE (lv' := [(0, .ref a_p), (1, .int x1), (2, .int x2)]) rfl ?_
  refine g_aload_n F dX4_told_0 rfl 0 rfl ?_
  refine g_iload_n F dX4_told_1 rfl 1 rfl ?_
  obtain ⟨o1, ho1, hf⟩ := bnE hf
  refine g_callSi (n := 1) (As := [.int x1]) F (c_X4_isHeap l dC dI cI cJ cH x1 o1 ho1) ggX4_told_X4_isHeap rfl rfl rfl (by decide +kernel) (by decide +kernel) (by decide +kernel) (by decide +kernel) ⟨Nat.le_of_ble_eq_true rfl, Nat.le_of_ble_eq_true rfl⟩ ⟨Nat.le_of_ble_eq_true rfl, Nat.le_of_ble_eq_true rfl⟩ hN [] rfl rfl (fun _ => rfl) rfl (Nat.le_of_ble_eq_true rfl) rfl dX4_told_2 (cells' := 0) (slots' := 0) rfl rfl (fun r u hp => ?_)
  subst hp
  refine g_ws (ws' := wMd cI a_p a_bases_p a_tops_p a_words_p a_roots_p a_order_p a_numbers_p a_image_p a_other_p a_input_p a_fresh_p a_freshRoots_p a_heads_p a_kept_p a_thrown a_bases a_tops a_words a_roots a_reached a_order a_numbers a_size a_image a_otherSize a_other a_waiting a_input a_at a_ended a_told a_many a_fresh a_freshRoots a_heads a_count a_kept) rfl ?_
  obtain ⟨j2, hj2, hf⟩ := bnE hf
  have Kj2 : gW p l e rm_X4_told s m args below meth c 0 0 Q (dC, dI) vwCl A 3 (wMd cI a_p a_bases_p a_tops_p a_words_p a_roots_p a_order_p a_numbers_p a_image_p a_other_p a_input_p a_fresh_p a_freshRoots_p a_heads_p a_kept_p a_thrown a_bases a_tops a_words a_roots a_reached a_order a_numbers a_size a_image a_otherSize a_other a_waiting a_input a_at a_ended a_told a_many a_fresh a_freshRoots a_heads a_count a_kept) [(0, .ref a_p), (1, .int x1), (2, .int x2)] 43 [.int j2, .ref a_p] := by
    refine g_put F h_X4_told_4 tyX4 tyX4_ok nmX4 0 rfl rfl 0 (by decide) (by decide +kernel) rfl rfl rfl (Nat.le_of_ble_eq_true rfl) dX4_told_43 (ws' := wMd cI a_p a_bases_p a_tops_p a_words_p a_roots_p a_order_p a_numbers_p a_image_p a_other_p a_input_p a_fresh_p a_freshRoots_p a_heads_p a_kept_p j2 a_bases a_tops a_words a_roots a_reached a_order a_numbers a_size a_image a_otherSize a_other a_waiting a_input a_at a_ended a_told a_many a_fresh a_freshRoots a_heads a_count a_kept) rfl ?_
    refine g_aload_n F dX4_told_46 rfl 0 rfl ?_
    refine g_get F h_X4_told_4 0 rfl rfl 0 (by decide) (by decide +kernel) rfl dX4_told_47 ?_
    refine g_if_le (tgt := 55) F dX4_told_50 (by decide) (fun c50 => ?_) (fun c50 => ?_)
    · have hf := iteT hf c50
      refine g_iload_n F dX4_told_55 rfl 2 rfl ?_
      refine g_iconst (v := 2) F dX4_told_56 rfl ?_
      obtain ⟨j3, hj3, hf⟩ := bnE hf
      have Kj3 : gW p l e rm_X4_told s m args below meth c 0 0 Q (dC, dI) vwCl A 3 (wMd cI a_p a_bases_p a_tops_p a_words_p a_roots_p a_order_p a_numbers_p a_image_p a_other_p a_input_p a_fresh_p a_freshRoots_p a_heads_p a_kept_p j2 a_bases a_tops a_words a_roots j3.1 j3.2.1 j3.2.2 a_size a_image a_otherSize a_other a_waiting a_input a_at a_ended a_told a_many a_fresh a_freshRoots a_heads a_count a_kept) [(0, .ref a_p), (1, .int x1), (2, .int x2)] 65 [] := by
        refine g_iload_n F dX4_told_65 rfl 2 rfl ?_
        refine g_if_ne (tgt := 78) F dX4_told_66 (by decide) (fun c66 => ?_) (fun c66 => ?_)
        · have hf := iteF hf c66
          refine g_iload_n F dX4_told_78 rfl 2 rfl ?_
          refine g_iconst (v := 1) F dX4_told_79 rfl ?_
          refine g_icmp_ne (tgt := 92) F dX4_told_80 (by decide) (fun c80 => ?_) (fun c80 => ?_)
          · have hf := iteF hf c80
            refine g_iload_n F dX4_told_92 rfl 2 rfl ?_
            refine g_iconst (v := 2) F dX4_told_93 rfl ?_
            refine g_icmp_ne (tgt := 104) F dX4_told_94 (by decide) (fun c94 => ?_) (fun c94 => ?_)
            · have hf := iteF hf c94
              refine g_aload_n F dX4_told_104 rfl 0 rfl ?_
              refine g_iload_n F dX4_told_105 rfl 1 rfl ?_
              obtain ⟨o4, ho4, hf⟩ := bnE hf
              refine g_callPi (n := 1) (As := [.int x1]) F (c_X4_objects l dC dI cI cJ cH a_p a_bases_p a_tops_p a_words_p a_roots_p a_order_p a_numbers_p a_image_p a_other_p a_input_p a_fresh_p a_freshRoots_p a_heads_p a_kept_p j2 a_bases a_tops a_words a_roots j3.1 j3.2.1 j3.2.2 a_size a_image a_otherSize a_other a_waiting a_input a_at a_ended a_told a_many a_fresh a_freshRoots a_heads a_count a_kept x1 o4 ho4) ggX4_told_X4_objects rfl rfl rfl (by decide +kernel) (by decide +kernel) (by decide +kernel) (by decide +kernel) (by decide +kernel) ⟨Nat.le_of_ble_eq_true rfl, Nat.le_of_ble_eq_true rfl⟩ ⟨Nat.le_of_ble_eq_true rfl, Nat.le_of_ble_eq_true rfl⟩ hN 0 rfl rfl rfl ([]) ([]) rfl (fun _ => rfl) rfl (Nat.le_of_ble_eq_true rfl) rfl dX4_told_106 (cells' := 0) (slots' := 0) rfl rfl (fun r u hp => ?_)
              subst hp
              refine g_ws (ws' := wMd cI a_p a_bases_p a_tops_p a_words_p a_roots_p a_order_p a_numbers_p a_image_p a_other_p a_input_p a_fresh_p a_freshRoots_p a_heads_p a_kept_p j2 a_bases a_tops a_words a_roots j3.1 j3.2.1 j3.2.2 a_size a_image a_otherSize a_other a_waiting a_input a_at a_ended a_told a_many a_fresh a_freshRoots a_heads a_count a_kept) rfl ?_
              subst hQ
              exact g_iret F hlocks hr (j2, j3.1, j3.2.1, j3.2.2) rfl (pr2 (Option.some.inj hf)) dX4_told_109
            · have hf := iteT hf c94
              refine g_aload_n F dX4_told_97 rfl 0 rfl ?_
              refine g_get F h_X4_told_4 0 rfl rfl 5 (by decide) (by decide +kernel) rfl dX4_told_98 ?_
              refine g_goto (tgt := 109) F dX4_told_101 (by decide) ?_
              subst hQ
              exact g_iret F hlocks hr (j2, j3.1, j3.2.1, j3.2.2) rfl (pr2 (Option.some.inj hf)) dX4_told_109
          · have hf := iteT hf c80
            refine g_aload_n F dX4_told_83 rfl 0 rfl ?_
            refine g_get F h_X4_told_4 0 rfl rfl 2 (by decide) (by decide +kernel) rfl dX4_told_84 ?_
            refine g_iload_n F dX4_told_87 rfl 1 rfl ?_
            obtain ⟨h5, hf⟩ := ckE hf
            refine g_iald F 2 0 rfl rfl h5 dX4_told_88 ?_
            refine g_goto (tgt := 109) F dX4_told_89 (by decide) ?_
            subst hQ
            exact g_iret F hlocks hr (j2, j3.1, j3.2.1, j3.2.2) rfl (pr2 (Option.some.inj hf)) dX4_told_109
        · have hf := iteT hf c66
          refine g_aload_n F dX4_told_69 rfl 0 rfl ?_
          refine g_get F h_X4_told_4 0 rfl rfl 1 (by decide) (by decide +kernel) rfl dX4_told_70 ?_
          refine g_iload_n F dX4_told_73 rfl 1 rfl ?_
          obtain ⟨h6, hf⟩ := ckE hf
          refine g_iald F 1 0 rfl rfl h6 dX4_told_74 ?_
          refine g_goto (tgt := 109) F dX4_told_75 (by decide) ?_
          subst hQ
          exact g_iret F hlocks hr (j2, j3.1, j3.2.1, j3.2.2) rfl (pr2 (Option.some.inj hf)) dX4_told_109
      clear hf
      have hf := hj3
      refine g_icmp_ne (tgt := 65) F dX4_told_57 (by decide) (fun c57 => ?_) (fun c57 => ?_)
      · have hf := iteF hf c57
        cases hf
        refine g_lv [0, 1, 2] rfl ?_
        exact Kj3
      · have hf := iteT hf c57
        refine g_aload_n F dX4_told_60 rfl 0 rfl ?_
        refine g_iload_n F dX4_told_61 rfl 1 rfl ?_
        obtain ⟨o7, ho7, hf⟩ := bnE hf
        refine g_callPv (n := 1) (As := [.int x1]) F (c_X4_reach l dC dI cI cJ cH a_p a_bases_p a_tops_p a_words_p a_roots_p a_order_p a_numbers_p a_image_p a_other_p a_input_p a_fresh_p a_freshRoots_p a_heads_p a_kept_p j2 a_bases a_tops a_words a_roots a_reached a_order a_numbers a_size a_image a_otherSize a_other a_waiting a_input a_at a_ended a_told a_many a_fresh a_freshRoots a_heads a_count a_kept x1 o7 ho7) ggX4_told_X4_reach rfl rfl rfl (by decide +kernel) (by decide +kernel) (by decide +kernel) (by decide +kernel) (by decide +kernel) ⟨Nat.le_of_ble_eq_true rfl, Nat.le_of_ble_eq_true rfl⟩ ⟨Nat.le_of_ble_eq_true rfl, Nat.le_of_ble_eq_true rfl⟩ hN 0 rfl rfl rfl ([]) ([]) rfl (fun _ => rfl) rfl (Nat.le_of_ble_eq_true rfl) rfl dX4_told_62 (cells' := 0) (slots' := 0) rfl rfl (fun u hp => ?_)
        subst hp
        refine g_ws (ws' := wMd cI a_p a_bases_p a_tops_p a_words_p a_roots_p a_order_p a_numbers_p a_image_p a_other_p a_input_p a_fresh_p a_freshRoots_p a_heads_p a_kept_p j2 a_bases a_tops a_words a_roots o7.1 o7.2.1 o7.2.2 a_size a_image a_otherSize a_other a_waiting a_input a_at a_ended a_told a_many a_fresh a_freshRoots a_heads a_count a_kept) rfl ?_
        cases hf
        refine g_lv [0, 1, 2] rfl ?_
        exact Kj3
    · have hf := iteF hf c50
      refine g_iconst (v := 0) F dX4_told_53 rfl ?_
      subst hQ
      exact g_iret F hlocks hr (j2, a_reached, a_order, a_numbers) rfl (pr2 (Option.some.inj hf)) dX4_told_54
  clear hf
  have hf := hj2
  refine g_if_ne (tgt := 12) F dX4_told_5 (by decide) (fun c5 => ?_) (fun c5 => ?_)
  · have hf := iteF hf c5
    refine g_iload_n F dX4_told_12 rfl 2 rfl ?_
    refine g_if_lt (tgt := 21) F dX4_told_13 (by decide) (fun c13 => ?_) (fun c13 => ?_)
    · have hf := iteT hf c13
      refine g_iconst (v := 2) F dX4_told_21 rfl ?_
      refine g_goto (tgt := 43) F dX4_told_22 (by decide) ?_
      cases hf
      refine g_lv [0, 1, 2] rfl ?_
      exact Kj2
    · have hf := iteF hf c13
      refine g_iload_n F dX4_told_16 rfl 2 rfl ?_
      refine g_iconst (v := 3) F dX4_told_17 rfl ?_
      refine g_icmp_le (tgt := 25) F dX4_told_18 (by decide) (fun c18 => ?_) (fun c18 => ?_)
      · have hf := iteT hf c18
        refine g_iload_n F dX4_told_25 rfl 2 rfl ?_
        refine g_iconst (v := 2) F dX4_told_26 rfl ?_
        refine g_icmp_ne (tgt := 42) F dX4_told_27 (by decide) (fun c27 => ?_) (fun c27 => ?_)
        · have hf := iteF hf c27
          refine g_iconst (v := 0) F dX4_told_42 rfl ?_
          cases hf
          refine g_lv [0, 1, 2] rfl ?_
          exact Kj2
        · have hf := iteT hf c27
          refine g_aload_n F dX4_told_30 rfl 0 rfl ?_
          refine g_iload_n F dX4_told_31 rfl 1 rfl ?_
          obtain ⟨o8, ho8, hf⟩ := bnE hf
          refine g_callPi (n := 1) (As := [.int x1]) F (c_X4_firstFault l dC dI cI cJ cH a_p a_bases_p a_tops_p a_words_p a_roots_p a_order_p a_numbers_p a_image_p a_other_p a_input_p a_fresh_p a_freshRoots_p a_heads_p a_kept_p a_thrown a_bases a_tops a_words a_roots a_reached a_order a_numbers a_size a_image a_otherSize a_other a_waiting a_input a_at a_ended a_told a_many a_fresh a_freshRoots a_heads a_count a_kept x1 o8 ho8) ggX4_told_X4_firstFault rfl rfl rfl (by decide +kernel) (by decide +kernel) (by decide +kernel) (by decide +kernel) (by decide +kernel) ⟨Nat.le_of_ble_eq_true rfl, Nat.le_of_ble_eq_true rfl⟩ ⟨Nat.le_of_ble_eq_true rfl, Nat.le_of_ble_eq_true rfl⟩ hN 0 rfl rfl rfl ([]) ([]) rfl (fun _ => rfl) rfl (Nat.le_of_ble_eq_true rfl) rfl dX4_told_32 (cells' := 0) (slots' := 0) rfl rfl (fun r u hp => ?_)
          subst hp
          refine g_ws (ws' := wMd cI a_p a_bases_p a_tops_p a_words_p a_roots_p a_order_p a_numbers_p a_image_p a_other_p a_input_p a_fresh_p a_freshRoots_p a_heads_p a_kept_p a_thrown a_bases a_tops a_words a_roots a_reached a_order a_numbers a_size a_image a_otherSize a_other a_waiting a_input a_at a_ended a_told a_many a_fresh a_freshRoots a_heads a_count a_kept) rfl ?_
          refine g_if_le (tgt := 42) F dX4_told_35 (by decide) (fun c35 => ?_) (fun c35 => ?_)
          · have hf := iteT hf c35
            refine g_iconst (v := 0) F dX4_told_42 rfl ?_
            cases hf
            refine g_lv [0, 1, 2] rfl ?_
            exact Kj2
          · have hf := iteF hf c35
            refine g_iconst (v := 3) F dX4_told_38 rfl ?_
            refine g_goto (tgt := 43) F dX4_told_39 (by decide) ?_
            cases hf
            refine g_lv [0, 1, 2] rfl ?_
            exact Kj2
      · have hf := iteF hf c18
        refine g_iconst (v := 2) F dX4_told_21 rfl ?_
        refine g_goto (tgt := 43) F dX4_told_22 (by decide) ?_
        cases hf
        refine g_lv [0, 1, 2] rfl ?_
        exact Kj2
  · have hf := iteT hf c5
    refine g_iconst (v := 1) F dX4_told_8 rfl ?_
    refine g_goto (tgt := 43) F dX4_told_9 (by decide) ?_
    cases hf
    refine g_lv [0, 1, 2] rfl ?_
    exact Kj2

/-! HeapImagesModel.clear()V -/
def rm_X4_clear : Room := { frames := 0, cells := 0, slots := 0, locals := 0 }
theorem h_X4_clear_4 : ∀ w ∈ wsX40, w ∈ wsX4_clear := by decide +kernel
def f_X4_clear_L7_s  (rc : Int32 → (Nat → Int32) → Option (Nat → Int32)) (z1 : Int32) (a_words : (Nat → Int32)) : Option (Nat → Int32) :=
  if (512 : Int32) ≤ z1 then some a_words else ck (inR z1 512) (nm (z1 + (1 : Int32)) fun v2 => rc v2 (upd a_words z1.toNatClampNeg (0 : Int32)))
def f_X4_clear_L7  : Nat → Int32 → (Nat → Int32) → Option (Nat → Int32)
  | 0, _, _ => none
  | n + 1, z1, a_words => f_X4_clear_L7_s  (f_X4_clear_L7  n) z1 a_words
set_option maxHeartbeats 4000000 in
theorem w_X4_clear_L7 {p : Program} {l : Launch} {e : Env} {s : State} {m : MethodId} {args : Array Value} {below : List Frame} {meth : Method} {c : Code} {A : Nat → Prop} {Q : State → Prop} {dC : Nat → ClassId} {dI : Nat → Nat → Nat} {cI cJ cH : ClassId} {a_p a_bases_p a_tops_p a_words_p a_roots_p a_order_p a_numbers_p a_image_p a_other_p a_input_p a_fresh_p a_freshRoots_p a_heads_p a_kept_p : Nat} {a_thrown : Int32} {a_bases : (Nat → Int32)} {a_tops : (Nat → Int32)} {a_roots : (Nat → Int32)} {a_reached : Int32} {a_order : (Nat → Int32)} {a_numbers : (Nat → Int32)} {a_size : Int32} {a_image : (Nat → Int32)} {a_otherSize : Int32} {a_other : (Nat → Int32)} {a_waiting : Int32} {a_input : (Nat → Int32)} {a_at : Int32} {a_ended : Int32} {a_told : Int32} {a_many : Int32} {a_fresh : (Nat → Int32)} {a_freshRoots : (Nat → Int32)} {a_heads : (Nat → Int32)} {a_count : Int64} {a_kept : (Nat → Int32)}  (F : gF p m c cX4_clear 2 s args wsX4_clear yX4_clear.cls (dC, dI) vwCl (gT cI cJ cH) A) (hN : ∀ w ∈ gN, va_Nw w s) : ∀ (n : Nat) (z1 : Int32) (a_words : (Nat → Int32)) (o : (Nat → Int32)), f_X4_clear_L7  n z1 a_words = some o → (gW p l e rm_X4_clear s m args below meth c 0 0 Q (dC, dI) vwCl A 2 (wMd cI a_p a_bases_p a_tops_p a_words_p a_roots_p a_order_p a_numbers_p a_image_p a_other_p a_input_p a_fresh_p a_freshRoots_p a_heads_p a_kept_p a_thrown a_bases a_tops o a_roots a_reached a_order a_numbers a_size a_image a_otherSize a_other a_waiting a_input a_at a_ended a_told a_many a_fresh a_freshRoots a_heads a_count a_kept) [(0, .ref a_p)] 27 []) → gW p l e rm_X4_clear s m args below meth c 0 0 Q (dC, dI) vwCl A 2 (wMd cI a_p a_bases_p a_tops_p a_words_p a_roots_p a_order_p a_numbers_p a_image_p a_other_p a_input_p a_fresh_p a_freshRoots_p a_heads_p a_kept_p a_thrown a_bases a_tops a_words a_roots a_reached a_order a_numbers a_size a_image a_otherSize a_other a_waiting a_input a_at a_ended a_told a_many a_fresh a_freshRoots a_heads a_count a_kept) [(0, .ref a_p), (1, .int z1)] 7 [] := by
  intro n
  induction n with
  | zero =>
    intro z1 a_words o hf E0
    change none = some o at hf
    cases hf
  | succ n ih =>
    intro z1 a_words o hf E0
    change f_X4_clear_L7_s  (f_X4_clear_L7  n) z1 a_words = some o at hf
    unfold f_X4_clear_L7_s at hf
    refine g_iload_n F dX4_clear_7 rfl 1 rfl ?_
    refine g_sipush (v := 512) F dX4_clear_8 rfl ?_
    refine g_icmp_ge (tgt := 27) F dX4_clear_11 (by decide) (fun c11 => ?_) (fun c11 => ?_)
    · have hf := iteT hf c11
      cases hf
      refine g_lv [0] rfl ?_
      exact E0
    · have hf := iteF hf c11
      refine g_aload_n F dX4_clear_14 rfl 0 rfl ?_
      refine g_get F h_X4_clear_4 0 rfl rfl 3 (by decide) (by decide +kernel) rfl dX4_clear_15 ?_
      refine g_iload_n F dX4_clear_18 rfl 1 rfl ?_
      refine g_iconst (v := 0) F dX4_clear_19 rfl ?_
      obtain ⟨h1, hf⟩ := ckE hf
      refine g_iast F 3 0 rfl rfl h1 dX4_clear_20 (ws' := wMd cI a_p a_bases_p a_tops_p a_words_p a_roots_p a_order_p a_numbers_p a_image_p a_other_p a_input_p a_fresh_p a_freshRoots_p a_heads_p a_kept_p a_thrown a_bases a_tops (upd a_words z1.toNatClampNeg (0 : Int32)) a_roots a_reached a_order a_numbers a_size a_image a_otherSize a_other a_waiting a_input a_at a_ended a_told a_many a_fresh a_freshRoots a_heads a_count a_kept) rfl ?_
      obtain ⟨v2, ev2, hf⟩ := nmE hf
      refine g_iinc (j := 1) (lv' := [(1, .int v2), (0, .ref a_p)]) F dX4_clear_21 rfl ev2.symm (by decide) rfl ?_
      refine g_goto (tgt := 7) F dX4_clear_24 (by decide) ?_
      refine g_lv [1, 0] rfl ?_
      exact ih _ _ o hf E0
def f_X4_clear_L29_s  (rc : Int32 → (Nat → Int32) → Option (Nat → Int32)) (z1 : Int32) (a_roots : (Nat → Int32)) : Option (Nat → Int32) :=
  if (8 : Int32) ≤ z1 then some a_roots else ck (inR z1 8) (nm (z1 + (1 : Int32)) fun v5 => rc v5 (upd a_roots z1.toNatClampNeg (0 : Int32)))
def f_X4_clear_L29  : Nat → Int32 → (Nat → Int32) → Option (Nat → Int32)
  | 0, _, _ => none
  | n + 1, z1, a_roots => f_X4_clear_L29_s  (f_X4_clear_L29  n) z1 a_roots
set_option maxHeartbeats 4000000 in
theorem w_X4_clear_L29 {p : Program} {l : Launch} {e : Env} {s : State} {m : MethodId} {args : Array Value} {below : List Frame} {meth : Method} {c : Code} {A : Nat → Prop} {Q : State → Prop} {dC : Nat → ClassId} {dI : Nat → Nat → Nat} {cI cJ cH : ClassId} {a_p a_bases_p a_tops_p a_words_p a_roots_p a_order_p a_numbers_p a_image_p a_other_p a_input_p a_fresh_p a_freshRoots_p a_heads_p a_kept_p : Nat} {a_thrown : Int32} {a_bases : (Nat → Int32)} {a_tops : (Nat → Int32)} {a_words : (Nat → Int32)} {a_reached : Int32} {a_order : (Nat → Int32)} {a_numbers : (Nat → Int32)} {a_size : Int32} {a_image : (Nat → Int32)} {a_otherSize : Int32} {a_other : (Nat → Int32)} {a_waiting : Int32} {a_input : (Nat → Int32)} {a_at : Int32} {a_ended : Int32} {a_told : Int32} {a_many : Int32} {a_fresh : (Nat → Int32)} {a_freshRoots : (Nat → Int32)} {a_heads : (Nat → Int32)} {a_count : Int64} {a_kept : (Nat → Int32)}  (F : gF p m c cX4_clear 2 s args wsX4_clear yX4_clear.cls (dC, dI) vwCl (gT cI cJ cH) A) (hN : ∀ w ∈ gN, va_Nw w s) : ∀ (n : Nat) (z1 : Int32) (a_roots : (Nat → Int32)) (o : (Nat → Int32)), f_X4_clear_L29  n z1 a_roots = some o → (gW p l e rm_X4_clear s m args below meth c 0 0 Q (dC, dI) vwCl A 2 (wMd cI a_p a_bases_p a_tops_p a_words_p a_roots_p a_order_p a_numbers_p a_image_p a_other_p a_input_p a_fresh_p a_freshRoots_p a_heads_p a_kept_p a_thrown a_bases a_tops a_words o a_reached a_order a_numbers a_size a_image a_otherSize a_other a_waiting a_input a_at a_ended a_told a_many a_fresh a_freshRoots a_heads a_count a_kept) [(0, .ref a_p)] 48 []) → gW p l e rm_X4_clear s m args below meth c 0 0 Q (dC, dI) vwCl A 2 (wMd cI a_p a_bases_p a_tops_p a_words_p a_roots_p a_order_p a_numbers_p a_image_p a_other_p a_input_p a_fresh_p a_freshRoots_p a_heads_p a_kept_p a_thrown a_bases a_tops a_words a_roots a_reached a_order a_numbers a_size a_image a_otherSize a_other a_waiting a_input a_at a_ended a_told a_many a_fresh a_freshRoots a_heads a_count a_kept) [(0, .ref a_p), (1, .int z1)] 29 [] := by
  intro n
  induction n with
  | zero =>
    intro z1 a_roots o hf E0
    change none = some o at hf
    cases hf
  | succ n ih =>
    intro z1 a_roots o hf E0
    change f_X4_clear_L29_s  (f_X4_clear_L29  n) z1 a_roots = some o at hf
    unfold f_X4_clear_L29_s at hf
    refine g_iload_n F dX4_clear_29 rfl 1 rfl ?_
    refine g_bipush (v := 8) F dX4_clear_30 rfl ?_
    refine g_icmp_ge (tgt := 48) F dX4_clear_32 (by decide) (fun c32 => ?_) (fun c32 => ?_)
    · have hf := iteT hf c32
      cases hf
      refine g_lv [0] rfl ?_
      exact E0
    · have hf := iteF hf c32
      refine g_aload_n F dX4_clear_35 rfl 0 rfl ?_
      refine g_get F h_X4_clear_4 0 rfl rfl 4 (by decide) (by decide +kernel) rfl dX4_clear_36 ?_
      refine g_iload_n F dX4_clear_39 rfl 1 rfl ?_
      refine g_iconst (v := 0) F dX4_clear_40 rfl ?_
      obtain ⟨h4, hf⟩ := ckE hf
      refine g_iast F 4 0 rfl rfl h4 dX4_clear_41 (ws' := wMd cI a_p a_bases_p a_tops_p a_words_p a_roots_p a_order_p a_numbers_p a_image_p a_other_p a_input_p a_fresh_p a_freshRoots_p a_heads_p a_kept_p a_thrown a_bases a_tops a_words (upd a_roots z1.toNatClampNeg (0 : Int32)) a_reached a_order a_numbers a_size a_image a_otherSize a_other a_waiting a_input a_at a_ended a_told a_many a_fresh a_freshRoots a_heads a_count a_kept) rfl ?_
      obtain ⟨v5, ev5, hf⟩ := nmE hf
      refine g_iinc (j := 1) (lv' := [(1, .int v5), (0, .ref a_p)]) F dX4_clear_42 rfl ev5.symm (by decide) rfl ?_
      refine g_goto (tgt := 29) F dX4_clear_45 (by decide) ?_
      refine g_lv [1, 0] rfl ?_
      exact ih _ _ o hf E0
def f_X4_clear_L50_s  (rc : Int32 → (Nat → Int32) → (Nat → Int32) → Option ((Nat → Int32) × (Nat → Int32))) (z1 : Int32) (a_bases : (Nat → Int32)) (a_tops : (Nat → Int32)) : Option ((Nat → Int32) × (Nat → Int32)) :=
  if (2 : Int32) ≤ z1 then some (a_bases, a_tops) else ck (inR z1 2) (ck (inR z1 2) (nm (z1 + (1 : Int32)) fun v9 => rc v9 (upd a_bases z1.toNatClampNeg (4096 : Int32)) (upd a_tops z1.toNatClampNeg (0 : Int32))))
def f_X4_clear_L50  : Nat → Int32 → (Nat → Int32) → (Nat → Int32) → Option ((Nat → Int32) × (Nat → Int32))
  | 0, _, _, _ => none
  | n + 1, z1, a_bases, a_tops => f_X4_clear_L50_s  (f_X4_clear_L50  n) z1 a_bases a_tops
set_option maxHeartbeats 4000000 in
theorem w_X4_clear_L50 {p : Program} {l : Launch} {e : Env} {s : State} {m : MethodId} {args : Array Value} {below : List Frame} {meth : Method} {c : Code} {A : Nat → Prop} {Q : State → Prop} {dC : Nat → ClassId} {dI : Nat → Nat → Nat} {cI cJ cH : ClassId} {a_p a_bases_p a_tops_p a_words_p a_roots_p a_order_p a_numbers_p a_image_p a_other_p a_input_p a_fresh_p a_freshRoots_p a_heads_p a_kept_p : Nat} {a_thrown : Int32} {a_words : (Nat → Int32)} {a_roots : (Nat → Int32)} {a_reached : Int32} {a_order : (Nat → Int32)} {a_numbers : (Nat → Int32)} {a_size : Int32} {a_image : (Nat → Int32)} {a_otherSize : Int32} {a_other : (Nat → Int32)} {a_waiting : Int32} {a_input : (Nat → Int32)} {a_at : Int32} {a_ended : Int32} {a_told : Int32} {a_many : Int32} {a_fresh : (Nat → Int32)} {a_freshRoots : (Nat → Int32)} {a_heads : (Nat → Int32)} {a_count : Int64} {a_kept : (Nat → Int32)}  (F : gF p m c cX4_clear 2 s args wsX4_clear yX4_clear.cls (dC, dI) vwCl (gT cI cJ cH) A) (hN : ∀ w ∈ gN, va_Nw w s) : ∀ (n : Nat) (z1 : Int32) (a_bases : (Nat → Int32)) (a_tops : (Nat → Int32)) (o : ((Nat → Int32) × (Nat → Int32))), f_X4_clear_L50  n z1 a_bases a_tops = some o → (gW p l e rm_X4_clear s m args below meth c 0 0 Q (dC, dI) vwCl A 2 (wMd cI a_p a_bases_p a_tops_p a_words_p a_roots_p a_order_p a_numbers_p a_image_p a_other_p a_input_p a_fresh_p a_freshRoots_p a_heads_p a_kept_p a_thrown o.1 o.2 a_words a_roots a_reached a_order a_numbers a_size a_image a_otherSize a_other a_waiting a_input a_at a_ended a_told a_many a_fresh a_freshRoots a_heads a_count a_kept) [(0, .ref a_p)] 77 []) → gW p l e rm_X4_clear s m args below meth c 0 0 Q (dC, dI) vwCl A 2 (wMd cI a_p a_bases_p a_tops_p a_words_p a_roots_p a_order_p a_numbers_p a_image_p a_other_p a_input_p a_fresh_p a_freshRoots_p a_heads_p a_kept_p a_thrown a_bases a_tops a_words a_roots a_reached a_order a_numbers a_size a_image a_otherSize a_other a_waiting a_input a_at a_ended a_told a_many a_fresh a_freshRoots a_heads a_count a_kept) [(0, .ref a_p), (1, .int z1)] 50 [] := by
  intro n
  induction n with
  | zero =>
    intro z1 a_bases a_tops o hf E0
    change none = some o at hf
    cases hf
  | succ n ih =>
    intro z1 a_bases a_tops o hf E0
    change f_X4_clear_L50_s  (f_X4_clear_L50  n) z1 a_bases a_tops = some o at hf
    unfold f_X4_clear_L50_s at hf
    refine g_iload_n F dX4_clear_50 rfl 1 rfl ?_
    refine g_iconst (v := 2) F dX4_clear_51 rfl ?_
    refine g_icmp_ge (tgt := 77) F dX4_clear_52 (by decide) (fun c52 => ?_) (fun c52 => ?_)
    · have hf := iteT hf c52
      cases hf
      refine g_lv [0] rfl ?_
      exact E0
    · have hf := iteF hf c52
      refine g_aload_n F dX4_clear_55 rfl 0 rfl ?_
      refine g_get F h_X4_clear_4 0 rfl rfl 1 (by decide) (by decide +kernel) rfl dX4_clear_56 ?_
      refine g_iload_n F dX4_clear_59 rfl 1 rfl ?_
      refine g_sipush (v := 4096) F dX4_clear_60 rfl ?_
      obtain ⟨h7, hf⟩ := ckE hf
      refine g_iast F 1 0 rfl rfl h7 dX4_clear_63 (ws' := wMd cI a_p a_bases_p a_tops_p a_words_p a_roots_p a_order_p a_numbers_p a_image_p a_other_p a_input_p a_fresh_p a_freshRoots_p a_heads_p a_kept_p a_thrown (upd a_bases z1.toNatClampNeg (4096 : Int32)) a_tops a_words a_roots a_reached a_order a_numbers a_size a_image a_otherSize a_other a_waiting a_input a_at a_ended a_told a_many a_fresh a_freshRoots a_heads a_count a_kept) rfl ?_
      refine g_aload_n F dX4_clear_64 rfl 0 rfl ?_
      refine g_get F h_X4_clear_4 0 rfl rfl 2 (by decide) (by decide +kernel) rfl dX4_clear_65 ?_
      refine g_iload_n F dX4_clear_68 rfl 1 rfl ?_
      refine g_iconst (v := 0) F dX4_clear_69 rfl ?_
      obtain ⟨h8, hf⟩ := ckE hf
      refine g_iast F 2 0 rfl rfl h8 dX4_clear_70 (ws' := wMd cI a_p a_bases_p a_tops_p a_words_p a_roots_p a_order_p a_numbers_p a_image_p a_other_p a_input_p a_fresh_p a_freshRoots_p a_heads_p a_kept_p a_thrown (upd a_bases z1.toNatClampNeg (4096 : Int32)) (upd a_tops z1.toNatClampNeg (0 : Int32)) a_words a_roots a_reached a_order a_numbers a_size a_image a_otherSize a_other a_waiting a_input a_at a_ended a_told a_many a_fresh a_freshRoots a_heads a_count a_kept) rfl ?_
      obtain ⟨v9, ev9, hf⟩ := nmE hf
      refine g_iinc (j := 1) (lv' := [(1, .int v9), (0, .ref a_p)]) F dX4_clear_71 rfl ev9.symm (by decide) rfl ?_
      refine g_goto (tgt := 50) F dX4_clear_74 (by decide) ?_
      refine g_lv [1, 0] rfl ?_
      exact ih _ _ _ o hf E0
def f_X4_clear (a_thrown : Int32) (a_bases : (Nat → Int32)) (a_tops : (Nat → Int32)) (a_words : (Nat → Int32)) (a_roots : (Nat → Int32)) (a_size : Int32) (a_waiting : Int32) : Option (Int32 × (Nat → Int32) × (Nat → Int32) × (Nat → Int32) × (Nat → Int32) × Int32 × Int32) :=
  Option.bind (f_X4_clear_L7  FU (0 : Int32) a_words) fun o3 => Option.bind (f_X4_clear_L29  FU (0 : Int32) a_roots) fun o6 => Option.bind (f_X4_clear_L50  FU (0 : Int32) a_bases a_tops) fun o10 => some ((0 : Int32), o10.1, o10.2, o3, o6, (0 : Int32), (0 : Int32))
set_option maxHeartbeats 4000000 in
set_option maxRecDepth 100000 in
theorem c_X4_clear (l : Launch) (dC : Nat → ClassId) (dI : Nat → Nat → Nat) (cI cJ cH : ClassId) (a_p a_bases_p a_tops_p a_words_p a_roots_p a_order_p a_numbers_p a_image_p a_other_p a_input_p a_fresh_p a_freshRoots_p a_heads_p a_kept_p : Nat)  (a_thrown : Int32) (a_bases : (Nat → Int32)) (a_tops : (Nat → Int32)) (a_words : (Nat → Int32)) (a_roots : (Nat → Int32)) (a_reached : Int32) (a_order : (Nat → Int32)) (a_numbers : (Nat → Int32)) (a_size : Int32) (a_image : (Nat → Int32)) (a_otherSize : Int32) (a_other : (Nat → Int32)) (a_waiting : Int32) (a_input : (Nat → Int32)) (a_at : Int32) (a_ended : Int32) (a_told : Int32) (a_many : Int32) (a_fresh : (Nat → Int32)) (a_freshRoots : (Nat → Int32)) (a_heads : (Nat → Int32)) (a_count : Int64) (a_kept : (Nat → Int32))  (o : (Int32 × (Nat → Int32) × (Nat → Int32) × (Nat → Int32) × (Nat → Int32) × Int32 × Int32)) (hf : f_X4_clear a_thrown a_bases a_tops a_words a_roots a_size a_waiting = some o) : ∀ sz : Nat, Met l yX4_clear wsX4_clear rm_X4_clear (gPre [.ref a_p] (dC, dI) vwCl (gT cI cJ cH) (wMd cI a_p a_bases_p a_tops_p a_words_p a_roots_p a_order_p a_numbers_p a_image_p a_other_p a_input_p a_fresh_p a_freshRoots_p a_heads_p a_kept_p a_thrown a_bases a_tops a_words a_roots a_reached a_order a_numbers a_size a_image a_otherSize a_other a_waiting a_input a_at a_ended a_told a_many a_fresh a_freshRoots a_heads a_count a_kept) sz) (va_Qv (fun (u : (Int32 × (Nat → Int32) × (Nat → Int32) × (Nat → Int32) × (Nat → Int32) × Int32 × Int32)) => o = u) (gB (dC, dI) vwCl (gT cI cJ cH) (fun (u : (Int32 × (Nat → Int32) × (Nat → Int32) × (Nat → Int32) × (Nat → Int32) × Int32 × Int32)) => wMd cI a_p a_bases_p a_tops_p a_words_p a_roots_p a_order_p a_numbers_p a_image_p a_other_p a_input_p a_fresh_p a_freshRoots_p a_heads_p a_kept_p u.1 u.2.1 u.2.2.1 u.2.2.2.1 u.2.2.2.2.1 a_reached a_order a_numbers u.2.2.2.2.2.1 a_image a_otherSize a_other u.2.2.2.2.2.2 a_input a_at a_ended a_told a_many a_fresh a_freshRoots a_heads a_count a_kept) (va_A (wMd cI a_p a_bases_p a_tops_p a_words_p a_roots_p a_order_p a_numbers_p a_image_p a_other_p a_input_p a_fresh_p a_freshRoots_p a_heads_p a_kept_p a_thrown a_bases a_tops a_words a_roots a_reached a_order a_numbers a_size a_image a_otherSize a_other a_waiting a_input a_at a_ended a_told a_many a_fresh a_freshRoots a_heads a_count a_kept) sz)) (va_A (wMd cI a_p a_bases_p a_tops_p a_words_p a_roots_p a_order_p a_numbers_p a_image_p a_other_p a_input_p a_fresh_p a_freshRoots_p a_heads_p a_kept_p a_thrown a_bases a_tops a_words a_roots a_reached a_order a_numbers a_size a_image a_otherSize a_other a_waiting a_input a_at a_ended a_told a_many a_fresh a_freshRoots a_heads a_count a_kept) sz)) 0 0 (va_A (wMd cI a_p a_bases_p a_tops_p a_words_p a_roots_p a_order_p a_numbers_p a_image_p a_other_p a_input_p a_fresh_p a_freshRoots_p a_heads_p a_kept_p a_thrown a_bases a_tops a_words a_roots a_reached a_order a_numbers a_size a_image a_otherSize a_other a_waiting a_input a_at a_ended a_told a_many a_fresh a_freshRoots a_heads a_count a_kept) sz) := by
  refine g_met (fun A => va_Qv (fun (u : (Int32 × (Nat → Int32) × (Nat → Int32) × (Nat → Int32) × (Nat → Int32) × Int32 × Int32)) => o = u) (gB (dC, dI) vwCl (gT cI cJ cH) (fun (u : (Int32 × (Nat → Int32) × (Nat → Int32) × (Nat → Int32) × (Nat → Int32) × Int32 × Int32)) => wMd cI a_p a_bases_p a_tops_p a_words_p a_roots_p a_order_p a_numbers_p a_image_p a_other_p a_input_p a_fresh_p a_freshRoots_p a_heads_p a_kept_p u.1 u.2.1 u.2.2.1 u.2.2.2.1 u.2.2.2.2.1 a_reached a_order a_numbers u.2.2.2.2.2.1 a_image a_otherSize a_other u.2.2.2.2.2.2 a_input a_at a_ended a_told a_many a_fresh a_freshRoots a_heads a_count a_kept) A) A) (by decide) rfl (Nat.le_of_ble_eq_true rfl) ?_
  intro p e s m args below meth c A Q F hlocks hr hname hN hQ
  unfold f_X4_clear at hf
  refine g_lvE (lv' := [(0, .ref a_p)]) rfl ?_
  refine g_aload_n F dX4_clear_0 rfl 0 rfl ?_
  refine g_iconst (v := 0) F dX4_clear_1 rfl ?_
  refine g_put F h_X4_clear_4 tyX4 tyX4_ok nmX4 0 rfl rfl 0 (by decide) (by decide +kernel) rfl rfl rfl (Nat.le_of_ble_eq_true rfl) dX4_clear_2 (ws' := wMd cI a_p a_bases_p a_tops_p a_words_p a_roots_p a_order_p a_numbers_p a_image_p a_other_p a_input_p a_fresh_p a_freshRoots_p a_heads_p a_kept_p (0 : Int32) a_bases a_tops a_words a_roots a_reached a_order a_numbers a_size a_image a_otherSize a_other a_waiting a_input a_at a_ended a_told a_many a_fresh a_freshRoots a_heads a_count a_kept) rfl ?_
  refine g_iconst (v := 0) F dX4_clear_5 rfl ?_
  refine g_istore_n (lv' := [(1, .int (0 : Int32)), (0, .ref a_p)]) F dX4_clear_6 rfl (by decide) rfl ?_
  obtain ⟨o3, ho3, hf⟩ := bnE hf
  refine g_lv [1, 0] rfl ?_
  refine w_X4_clear_L7 F hN FU _ _ o3 ho3 ?_
  refine g_iconst (v := 0) F dX4_clear_27 rfl ?_
  refine g_istore_n (lv' := [(1, .int (0 : Int32)), (0, .ref a_p)]) F dX4_clear_28 rfl (by decide) rfl ?_
  obtain ⟨o6, ho6, hf⟩ := bnE hf
  refine g_lv [1, 0] rfl ?_
  refine w_X4_clear_L29 F hN FU _ _ o6 ho6 ?_
  refine g_iconst (v := 0) F dX4_clear_48 rfl ?_
  refine g_istore_n (lv' := [(1, .int (0 : Int32)), (0, .ref a_p)]) F dX4_clear_49 rfl (by decide) rfl ?_
  obtain ⟨o10, ho10, hf⟩ := bnE hf
  refine g_lv [1, 0] rfl ?_
  refine w_X4_clear_L50 F hN FU _ _ _ o10 ho10 ?_
  refine g_aload_n F dX4_clear_77 rfl 0 rfl ?_
  refine g_iconst (v := 0) F dX4_clear_78 rfl ?_
  refine g_put F h_X4_clear_4 tyX4 tyX4_ok nmX4 0 rfl rfl 8 (by decide) (by decide +kernel) rfl rfl rfl (Nat.le_of_ble_eq_true rfl) dX4_clear_79 (ws' := wMd cI a_p a_bases_p a_tops_p a_words_p a_roots_p a_order_p a_numbers_p a_image_p a_other_p a_input_p a_fresh_p a_freshRoots_p a_heads_p a_kept_p (0 : Int32) o10.1 o10.2 o3 o6 a_reached a_order a_numbers (0 : Int32) a_image a_otherSize a_other a_waiting a_input a_at a_ended a_told a_many a_fresh a_freshRoots a_heads a_count a_kept) rfl ?_
  refine g_aload_n F dX4_clear_82 rfl 0 rfl ?_
  refine g_iconst (v := 0) F dX4_clear_83 rfl ?_
  refine g_put F h_X4_clear_4 tyX4 tyX4_ok nmX4 0 rfl rfl 12 (by decide) (by decide +kernel) rfl rfl rfl (Nat.le_of_ble_eq_true rfl) dX4_clear_84 (ws' := wMd cI a_p a_bases_p a_tops_p a_words_p a_roots_p a_order_p a_numbers_p a_image_p a_other_p a_input_p a_fresh_p a_freshRoots_p a_heads_p a_kept_p (0 : Int32) o10.1 o10.2 o3 o6 a_reached a_order a_numbers (0 : Int32) a_image a_otherSize a_other (0 : Int32) a_input a_at a_ended a_told a_many a_fresh a_freshRoots a_heads a_count a_kept) rfl ?_
  subst hQ
  exact g_vret F hlocks hr ((0 : Int32), o10.1, o10.2, o3, o6, (0 : Int32), (0 : Int32)) rfl (Option.some.inj hf).symm dX4_clear_87
