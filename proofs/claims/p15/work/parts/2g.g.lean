/-! HeapImages$Heap.hasSameAs(LHeapImages$Heap;)Z -/
def rm_X1_hasSameAs : Room := { frames := 3, cells := 0, slots := 0, locals := 74 }
theorem h_X1_hasSameAs_1 : ∀ w ∈ wsX10, w ∈ wsX1_hasSameAs := by decide +kernel
def f_X1_hasSameAs_L23_s (a_roots : (Nat → Int32)) (a_base : Int32) (a_marks : (Nat → Int32)) (b_roots : (Nat → Int32)) (b_base : Int32) (b_marks : (Nat → Int32)) (rc : Int32 → Option Nat) (z2 : Int32) : Option Nat :=
  if (4 : Int32) ≤ z2 then some 0 else ck (inR z2 4) (Option.bind (f_X1_countOf a_base a_marks (a_roots z2.toNatClampNeg)) fun o4 => ck (inR z2 4) (Option.bind (f_X1_countOf b_base b_marks (b_roots z2.toNatClampNeg)) fun o6 => if (lg_cmp o4 o6) = 0 then nm (z2 + (1 : Int32)) fun v7 => rc v7 else some 1))
def f_X1_hasSameAs_L23 (a_roots : (Nat → Int32)) (a_base : Int32) (a_marks : (Nat → Int32)) (b_roots : (Nat → Int32)) (b_base : Int32) (b_marks : (Nat → Int32)) : Nat → Int32 → Option Nat
  | 0, _ => none
  | n + 1, z2 => f_X1_hasSameAs_L23_s a_roots a_base a_marks b_roots b_base b_marks (f_X1_hasSameAs_L23 a_roots a_base a_marks b_roots b_base b_marks n) z2
set_option maxHeartbeats 4000000 in
theorem w_X1_hasSameAs_L23 {p : Program} {l : Launch} {e : Env} {s : State} {m : MethodId} {args : Array Value} {below : List Frame} {meth : Method} {c : Code} {A : Nat → Prop} {Q : State → Prop} {dC : Nat → ClassId} {dI : Nat → Nat → Nat} {cI cJ cH : ClassId} {a_p a_words_p a_roots_p a_heads_p a_marks_p a_order_p a_targets_p b_p b_words_p b_roots_p b_heads_p b_marks_p b_order_p b_targets_p : Nat} {a_words : (Nat → Int32)} {a_roots : (Nat → Int32)} {a_base : Int32} {a_top : Int32} {a_heads : (Nat → Int32)} {a_objects : Int32} {a_marks : (Nat → Int32)} {a_order : (Nat → Int32)} {a_reached : Int32} {a_targets : (Nat → Int32)} {b_words : (Nat → Int32)} {b_roots : (Nat → Int32)} {b_base : Int32} {b_top : Int32} {b_heads : (Nat → Int32)} {b_objects : Int32} {b_marks : (Nat → Int32)} {b_order : (Nat → Int32)} {b_reached : Int32} {b_targets : (Nat → Int32)}  (F : gF p m c cX1_hasSameAs 3 s args wsX1_hasSameAs yX1_hasSameAs.cls (dC, dI) vwCl (gT cI cJ cH) A) (hN : ∀ w ∈ gN, va_Nw w s) : ∀ (n : Nat) (z2 : Int32) (o : Nat), f_X1_hasSameAs_L23 a_roots a_base a_marks b_roots b_base b_marks n z2 = some o → (o = 0 → gW p l e rm_X1_hasSameAs s m args below meth c 0 0 Q (dC, dI) vwCl A 3 (wHp cI a_p a_words_p a_roots_p a_heads_p a_marks_p a_order_p a_targets_p a_words a_roots a_base a_top a_heads a_objects a_marks a_order a_reached a_targets ++ wHp cI b_p b_words_p b_roots_p b_heads_p b_marks_p b_order_p b_targets_p b_words b_roots b_base b_top b_heads b_objects b_marks b_order b_reached b_targets) [(0, .ref a_p), (1, .ref b_p)] 60 []) → (o = 1 → gW p l e rm_X1_hasSameAs s m args below meth c 0 0 Q (dC, dI) vwCl A 3 (wHp cI a_p a_words_p a_roots_p a_heads_p a_marks_p a_order_p a_targets_p a_words a_roots a_base a_top a_heads a_objects a_marks a_order a_reached a_targets ++ wHp cI b_p b_words_p b_roots_p b_heads_p b_marks_p b_order_p b_targets_p b_words b_roots b_base b_top b_heads b_objects b_marks b_order b_reached b_targets) [] 52 []) → gW p l e rm_X1_hasSameAs s m args below meth c 0 0 Q (dC, dI) vwCl A 3 (wHp cI a_p a_words_p a_roots_p a_heads_p a_marks_p a_order_p a_targets_p a_words a_roots a_base a_top a_heads a_objects a_marks a_order a_reached a_targets ++ wHp cI b_p b_words_p b_roots_p b_heads_p b_marks_p b_order_p b_targets_p b_words b_roots b_base b_top b_heads b_objects b_marks b_order b_reached b_targets) [(0, .ref a_p), (1, .ref b_p), (2, .int z2)] 23 [] := by
  intro n
  induction n with
  | zero =>
    intro z2 o hf E0 E1
    change none = some o at hf
    cases hf
  | succ n ih =>
    intro z2 o hf E0 E1
    change f_X1_hasSameAs_L23_s a_roots a_base a_marks b_roots b_base b_marks (f_X1_hasSameAs_L23 a_roots a_base a_marks b_roots b_base b_marks n) z2 = some o at hf
    unfold f_X1_hasSameAs_L23_s at hf
    refine g_iload_n F dX1_hasSameAs_23 rfl 2 rfl ?_
    refine g_iconst (v := 4) F dX1_hasSameAs_24 rfl ?_
    refine g_icmp_ge (tgt := 60) F dX1_hasSameAs_25 (by decide) (fun c25 => ?_) (fun c25 => ?_)
    · have hf := iteT hf c25
      cases hf
      refine g_lv [0, 1] rfl ?_
      exact E0 rfl
    · have hf := iteF hf c25
      refine g_aload_n F dX1_hasSameAs_28 rfl 0 rfl ?_
      refine g_aload_n F dX1_hasSameAs_29 rfl 0 rfl ?_
      refine g_get F h_X1_hasSameAs_1 0 rfl rfl 1 (by decide) (by decide +kernel) rfl dX1_hasSameAs_30 ?_
      refine g_iload_n F dX1_hasSameAs_33 rfl 2 rfl ?_
      obtain ⟨h3, hf⟩ := ckE hf
      refine g_iald F 2 0 rfl rfl h3 dX1_hasSameAs_34 ?_
      obtain ⟨o4, ho4, hf⟩ := bnE hf
      refine g_callVl (n := 1) (As := [.int (a_roots z2.toNatClampNeg)]) F (c_X1_countOf l dC dI cI cJ cH a_p a_words_p a_roots_p a_heads_p a_marks_p a_order_p a_targets_p a_words a_roots a_base a_top a_heads a_objects a_marks a_order a_reached a_targets (a_roots z2.toNatClampNeg) o4 ho4) ggX1_hasSameAs_X1_countOf rfl rfl rfl (by decide +kernel) (by decide +kernel) (by decide +kernel) (by decide +kernel) (by decide +kernel) ⟨Nat.le_of_ble_eq_true rfl, Nat.le_of_ble_eq_true rfl⟩ ⟨Nat.le_of_ble_eq_true rfl, Nat.le_of_ble_eq_true rfl⟩ hN 0 rfl rfl rfl [0, 1, 2, 3, 4, 5, 6] rfl rfl (fun _ => rfl) rfl (Nat.le_of_ble_eq_true rfl) rfl dX1_hasSameAs_35 (cells' := 0) (slots' := 0) rfl rfl (fun r u hp => ?_)
      subst hp
      refine g_ws (ws' := wHp cI a_p a_words_p a_roots_p a_heads_p a_marks_p a_order_p a_targets_p a_words a_roots a_base a_top a_heads a_objects a_marks a_order a_reached a_targets ++ wHp cI b_p b_words_p b_roots_p b_heads_p b_marks_p b_order_p b_targets_p b_words b_roots b_base b_top b_heads b_objects b_marks b_order b_reached b_targets) rfl ?_
      refine g_aload_n F dX1_hasSameAs_38 rfl 1 rfl ?_
      refine g_aload_n F dX1_hasSameAs_39 rfl 1 rfl ?_
      refine g_get F h_X1_hasSameAs_1 7 rfl rfl 1 (by decide) (by decide +kernel) rfl dX1_hasSameAs_40 ?_
      refine g_iload_n F dX1_hasSameAs_43 rfl 2 rfl ?_
      obtain ⟨h5, hf⟩ := ckE hf
      refine g_iald F 9 0 rfl rfl h5 dX1_hasSameAs_44 ?_
      obtain ⟨o6, ho6, hf⟩ := bnE hf
      refine g_callVl (n := 1) (As := [.int (b_roots z2.toNatClampNeg)]) F (c_X1_countOf l dC dI cI cJ cH b_p b_words_p b_roots_p b_heads_p b_marks_p b_order_p b_targets_p b_words b_roots b_base b_top b_heads b_objects b_marks b_order b_reached b_targets (b_roots z2.toNatClampNeg) o6 ho6) ggX1_hasSameAs_X1_countOf rfl rfl rfl (by decide +kernel) (by decide +kernel) (by decide +kernel) (by decide +kernel) (by decide +kernel) ⟨Nat.le_of_ble_eq_true rfl, Nat.le_of_ble_eq_true rfl⟩ ⟨Nat.le_of_ble_eq_true rfl, Nat.le_of_ble_eq_true rfl⟩ hN 7 rfl rfl rfl [7, 8, 9, 10, 11, 12, 13] rfl rfl (fun _ => rfl) rfl (Nat.le_of_ble_eq_true rfl) rfl dX1_hasSameAs_45 (cells' := 0) (slots' := 0) rfl rfl (fun r u hp => ?_)
      subst hp
      refine g_ws (ws' := wHp cI a_p a_words_p a_roots_p a_heads_p a_marks_p a_order_p a_targets_p a_words a_roots a_base a_top a_heads a_objects a_marks a_order a_reached a_targets ++ wHp cI b_p b_words_p b_roots_p b_heads_p b_marks_p b_order_p b_targets_p b_words b_roots b_base b_top b_heads b_objects b_marks b_order b_reached b_targets) rfl ?_
      refine g_lcmp F dX1_hasSameAs_48 ?_
      refine g_if_eq (tgt := 54) F dX1_hasSameAs_49 (by decide) (fun c49 => ?_) (fun c49 => ?_)
      · have hf := iteT hf c49
        obtain ⟨v7, ev7, hf⟩ := nmE hf
        refine g_iinc (j := 2) (lv' := [(2, .int v7), (0, .ref a_p), (1, .ref b_p)]) F dX1_hasSameAs_54 rfl ev7.symm (by decide) rfl ?_
        refine g_goto (tgt := 23) F dX1_hasSameAs_57 (by decide) ?_
        refine g_lv [1, 2, 0] rfl ?_
        exact ih _ o hf E0 E1
      · have hf := iteF hf c49
        cases hf
        refine g_lv [] rfl ?_
        exact E1 rfl
def f_X1_hasSameAs_L62_s (a_words : (Nat → Int32)) (a_base : Int32) (a_marks : (Nat → Int32)) (a_order : (Nat → Int32)) (a_reached : Int32) (b_words : (Nat → Int32)) (b_base : Int32) (b_marks : (Nat → Int32)) (b_order : (Nat → Int32)) (rc : Int32 → Option Nat) (z2 : Int32) : Option Nat :=
  if a_reached ≤ z2 then some 0 else ck (inR z2 256) (ck (inR z2 256) (Option.bind (f_X1_hasSameObject a_words a_base a_marks b_words b_base b_marks (a_order z2.toNatClampNeg) (b_order z2.toNatClampNeg)) fun o11 => if o11 = 0 then some 1 else nm (z2 + (1 : Int32)) fun v12 => rc v12))
def f_X1_hasSameAs_L62 (a_words : (Nat → Int32)) (a_base : Int32) (a_marks : (Nat → Int32)) (a_order : (Nat → Int32)) (a_reached : Int32) (b_words : (Nat → Int32)) (b_base : Int32) (b_marks : (Nat → Int32)) (b_order : (Nat → Int32)) : Nat → Int32 → Option Nat
  | 0, _ => none
  | n + 1, z2 => f_X1_hasSameAs_L62_s a_words a_base a_marks a_order a_reached b_words b_base b_marks b_order (f_X1_hasSameAs_L62 a_words a_base a_marks a_order a_reached b_words b_base b_marks b_order n) z2
set_option maxHeartbeats 4000000 in
theorem w_X1_hasSameAs_L62 {p : Program} {l : Launch} {e : Env} {s : State} {m : MethodId} {args : Array Value} {below : List Frame} {meth : Method} {c : Code} {A : Nat → Prop} {Q : State → Prop} {dC : Nat → ClassId} {dI : Nat → Nat → Nat} {cI cJ cH : ClassId} {a_p a_words_p a_roots_p a_heads_p a_marks_p a_order_p a_targets_p b_p b_words_p b_roots_p b_heads_p b_marks_p b_order_p b_targets_p : Nat} {a_words : (Nat → Int32)} {a_roots : (Nat → Int32)} {a_base : Int32} {a_top : Int32} {a_heads : (Nat → Int32)} {a_objects : Int32} {a_marks : (Nat → Int32)} {a_order : (Nat → Int32)} {a_reached : Int32} {a_targets : (Nat → Int32)} {b_words : (Nat → Int32)} {b_roots : (Nat → Int32)} {b_base : Int32} {b_top : Int32} {b_heads : (Nat → Int32)} {b_objects : Int32} {b_marks : (Nat → Int32)} {b_order : (Nat → Int32)} {b_reached : Int32} {b_targets : (Nat → Int32)}  (F : gF p m c cX1_hasSameAs 3 s args wsX1_hasSameAs yX1_hasSameAs.cls (dC, dI) vwCl (gT cI cJ cH) A) (hN : ∀ w ∈ gN, va_Nw w s) : ∀ (n : Nat) (z2 : Int32) (o : Nat), f_X1_hasSameAs_L62 a_words a_base a_marks a_order a_reached b_words b_base b_marks b_order n z2 = some o → (o = 0 → gW p l e rm_X1_hasSameAs s m args below meth c 0 0 Q (dC, dI) vwCl A 3 (wHp cI a_p a_words_p a_roots_p a_heads_p a_marks_p a_order_p a_targets_p a_words a_roots a_base a_top a_heads a_objects a_marks a_order a_reached a_targets ++ wHp cI b_p b_words_p b_roots_p b_heads_p b_marks_p b_order_p b_targets_p b_words b_roots b_base b_top b_heads b_objects b_marks b_order b_reached b_targets) [] 98 []) → (o = 1 → gW p l e rm_X1_hasSameAs s m args below meth c 0 0 Q (dC, dI) vwCl A 3 (wHp cI a_p a_words_p a_roots_p a_heads_p a_marks_p a_order_p a_targets_p a_words a_roots a_base a_top a_heads a_objects a_marks a_order a_reached a_targets ++ wHp cI b_p b_words_p b_roots_p b_heads_p b_marks_p b_order_p b_targets_p b_words b_roots b_base b_top b_heads b_objects b_marks b_order b_reached b_targets) [] 90 []) → gW p l e rm_X1_hasSameAs s m args below meth c 0 0 Q (dC, dI) vwCl A 3 (wHp cI a_p a_words_p a_roots_p a_heads_p a_marks_p a_order_p a_targets_p a_words a_roots a_base a_top a_heads a_objects a_marks a_order a_reached a_targets ++ wHp cI b_p b_words_p b_roots_p b_heads_p b_marks_p b_order_p b_targets_p b_words b_roots b_base b_top b_heads b_objects b_marks b_order b_reached b_targets) [(0, .ref a_p), (1, .ref b_p), (2, .int z2)] 62 [] := by
  intro n
  induction n with
  | zero =>
    intro z2 o hf E0 E1
    change none = some o at hf
    cases hf
  | succ n ih =>
    intro z2 o hf E0 E1
    change f_X1_hasSameAs_L62_s a_words a_base a_marks a_order a_reached b_words b_base b_marks b_order (f_X1_hasSameAs_L62 a_words a_base a_marks a_order a_reached b_words b_base b_marks b_order n) z2 = some o at hf
    unfold f_X1_hasSameAs_L62_s at hf
    refine g_iload_n F dX1_hasSameAs_62 rfl 2 rfl ?_
    refine g_aload_n F dX1_hasSameAs_63 rfl 0 rfl ?_
    refine g_get F h_X1_hasSameAs_1 0 rfl rfl 8 (by decide) (by decide +kernel) rfl dX1_hasSameAs_64 ?_
    refine g_icmp_ge (tgt := 98) F dX1_hasSameAs_67 (by decide) (fun c67 => ?_) (fun c67 => ?_)
    · have hf := iteT hf c67
      cases hf
      refine g_lv [] rfl ?_
      exact E0 rfl
    · have hf := iteF hf c67
      refine g_aload_n F dX1_hasSameAs_70 rfl 0 rfl ?_
      refine g_aload_n F dX1_hasSameAs_71 rfl 0 rfl ?_
      refine g_get F h_X1_hasSameAs_1 0 rfl rfl 7 (by decide) (by decide +kernel) rfl dX1_hasSameAs_72 ?_
      refine g_iload_n F dX1_hasSameAs_75 rfl 2 rfl ?_
      obtain ⟨h9, hf⟩ := ckE hf
      refine g_iald F 5 0 rfl rfl h9 dX1_hasSameAs_76 ?_
      refine g_aload_n F dX1_hasSameAs_77 rfl 1 rfl ?_
      refine g_aload_n F dX1_hasSameAs_78 rfl 1 rfl ?_
      refine g_get F h_X1_hasSameAs_1 7 rfl rfl 7 (by decide) (by decide +kernel) rfl dX1_hasSameAs_79 ?_
      refine g_iload_n F dX1_hasSameAs_82 rfl 2 rfl ?_
      obtain ⟨h10, hf⟩ := ckE hf
      refine g_iald F 12 0 rfl rfl h10 dX1_hasSameAs_83 ?_
      obtain ⟨o11, ho11, hf⟩ := bnE hf
      refine g_callPi (n := 3) (As := [.int (a_order z2.toNatClampNeg), .ref b_p, .int (b_order z2.toNatClampNeg)]) F (c_X1_hasSameObject l dC dI cI cJ cH a_p a_words_p a_roots_p a_heads_p a_marks_p a_order_p a_targets_p b_p b_words_p b_roots_p b_heads_p b_marks_p b_order_p b_targets_p a_words a_roots a_base a_top a_heads a_objects a_marks a_order a_reached a_targets b_words b_roots b_base b_top b_heads b_objects b_marks b_order b_reached b_targets (a_order z2.toNatClampNeg) (b_order z2.toNatClampNeg) o11 ho11) ggX1_hasSameAs_X1_hasSameObject rfl rfl rfl (by decide +kernel) (by decide +kernel) (by decide +kernel) (by decide +kernel) (by decide +kernel) ⟨Nat.le_of_ble_eq_true rfl, Nat.le_of_ble_eq_true rfl⟩ ⟨Nat.le_of_ble_eq_true rfl, Nat.le_of_ble_eq_true rfl⟩ hN 0 rfl rfl rfl ([]) ([]) rfl (fun _ => rfl) rfl (Nat.le_of_ble_eq_true rfl) rfl dX1_hasSameAs_84 (cells' := 0) (slots' := 0) rfl rfl (fun r u hp => ?_)
      subst hp
      refine g_ws (ws' := wHp cI a_p a_words_p a_roots_p a_heads_p a_marks_p a_order_p a_targets_p a_words a_roots a_base a_top a_heads a_objects a_marks a_order a_reached a_targets ++ wHp cI b_p b_words_p b_roots_p b_heads_p b_marks_p b_order_p b_targets_p b_words b_roots b_base b_top b_heads b_objects b_marks b_order b_reached b_targets) rfl ?_
      refine g_if_ne (tgt := 92) F dX1_hasSameAs_87 (by decide) (fun c87 => ?_) (fun c87 => ?_)
      · have hf := iteF hf c87
        obtain ⟨v12, ev12, hf⟩ := nmE hf
        refine g_iinc (j := 2) (lv' := [(2, .int v12), (0, .ref a_p), (1, .ref b_p)]) F dX1_hasSameAs_92 rfl ev12.symm (by decide) rfl ?_
        refine g_goto (tgt := 62) F dX1_hasSameAs_95 (by decide) ?_
        refine g_lv [1, 2, 0] rfl ?_
        exact ih _ o hf E0 E1
      · have hf := iteT hf c87
        cases hf
        refine g_lv [] rfl ?_
        exact E1 rfl
def f_X1_hasSameAs (a_words : (Nat → Int32)) (a_roots : (Nat → Int32)) (a_base : Int32) (a_marks : (Nat → Int32)) (a_order : (Nat → Int32)) (a_reached : Int32) (b_words : (Nat → Int32)) (b_roots : (Nat → Int32)) (b_base : Int32) (b_marks : (Nat → Int32)) (b_order : (Nat → Int32)) (b_reached : Int32) : Option (Int32 × (Nat → Int32) × (Nat → Int32) × Int32 × (Nat → Int32) × (Nat → Int32) × Int32) :=
  Option.bind (f_X1_findOrder a_words a_roots a_base a_marks a_order a_reached) fun o1 => Option.bind (f_X1_findOrder b_words b_roots b_base b_marks b_order b_reached) fun o2 => if o1.2.2 = o2.2.2 then Option.bind (f_X1_hasSameAs_L23 a_roots a_base o1.1 b_roots b_base o2.1 FU (0 : Int32)) fun o8 => if o8 = 0 then Option.bind (f_X1_hasSameAs_L62 a_words a_base o1.1 o1.2.1 o1.2.2 b_words b_base o2.1 o2.2.1 FU (0 : Int32)) fun o13 => if o13 = 0 then some ((1 : Int32), o1.1, o1.2.1, o1.2.2, o2.1, o2.2.1, o2.2.2) else some ((0 : Int32), o1.1, o1.2.1, o1.2.2, o2.1, o2.2.1, o2.2.2) else some ((0 : Int32), o1.1, o1.2.1, o1.2.2, o2.1, o2.2.1, o2.2.2) else some ((0 : Int32), o1.1, o1.2.1, o1.2.2, o2.1, o2.2.1, o2.2.2)
set_option maxHeartbeats 4000000 in
set_option maxRecDepth 100000 in
theorem c_X1_hasSameAs (l : Launch) (dC : Nat → ClassId) (dI : Nat → Nat → Nat) (cI cJ cH : ClassId) (a_p a_words_p a_roots_p a_heads_p a_marks_p a_order_p a_targets_p b_p b_words_p b_roots_p b_heads_p b_marks_p b_order_p b_targets_p : Nat)  (a_words : (Nat → Int32)) (a_roots : (Nat → Int32)) (a_base : Int32) (a_top : Int32) (a_heads : (Nat → Int32)) (a_objects : Int32) (a_marks : (Nat → Int32)) (a_order : (Nat → Int32)) (a_reached : Int32) (a_targets : (Nat → Int32)) (b_words : (Nat → Int32)) (b_roots : (Nat → Int32)) (b_base : Int32) (b_top : Int32) (b_heads : (Nat → Int32)) (b_objects : Int32) (b_marks : (Nat → Int32)) (b_order : (Nat → Int32)) (b_reached : Int32) (b_targets : (Nat → Int32))  (o : (Int32 × (Nat → Int32) × (Nat → Int32) × Int32 × (Nat → Int32) × (Nat → Int32) × Int32)) (hf : f_X1_hasSameAs a_words a_roots a_base a_marks a_order a_reached b_words b_roots b_base b_marks b_order b_reached = some o) : ∀ sz : Nat, Met l yX1_hasSameAs wsX1_hasSameAs rm_X1_hasSameAs (gPre [.ref a_p, .ref b_p] (dC, dI) vwCl (gT cI cJ cH) (wHp cI a_p a_words_p a_roots_p a_heads_p a_marks_p a_order_p a_targets_p a_words a_roots a_base a_top a_heads a_objects a_marks a_order a_reached a_targets ++ wHp cI b_p b_words_p b_roots_p b_heads_p b_marks_p b_order_p b_targets_p b_words b_roots b_base b_top b_heads b_objects b_marks b_order b_reached b_targets) sz) (va_Qi (fun (r : Int32) (u : ((Nat → Int32) × (Nat → Int32) × Int32 × (Nat → Int32) × (Nat → Int32) × Int32)) => o.1 = r ∧ o.2 = u) (gB (dC, dI) vwCl (gT cI cJ cH) (fun (u : ((Nat → Int32) × (Nat → Int32) × Int32 × (Nat → Int32) × (Nat → Int32) × Int32)) => wHp cI a_p a_words_p a_roots_p a_heads_p a_marks_p a_order_p a_targets_p a_words a_roots a_base a_top a_heads a_objects u.1 u.2.1 u.2.2.1 a_targets ++ wHp cI b_p b_words_p b_roots_p b_heads_p b_marks_p b_order_p b_targets_p b_words b_roots b_base b_top b_heads b_objects u.2.2.2.1 u.2.2.2.2.1 u.2.2.2.2.2 b_targets) (va_A (wHp cI a_p a_words_p a_roots_p a_heads_p a_marks_p a_order_p a_targets_p a_words a_roots a_base a_top a_heads a_objects a_marks a_order a_reached a_targets ++ wHp cI b_p b_words_p b_roots_p b_heads_p b_marks_p b_order_p b_targets_p b_words b_roots b_base b_top b_heads b_objects b_marks b_order b_reached b_targets) sz)) (va_A (wHp cI a_p a_words_p a_roots_p a_heads_p a_marks_p a_order_p a_targets_p a_words a_roots a_base a_top a_heads a_objects a_marks a_order a_reached a_targets ++ wHp cI b_p b_words_p b_roots_p b_heads_p b_marks_p b_order_p b_targets_p b_words b_roots b_base b_top b_heads b_objects b_marks b_order b_reached b_targets) sz)) 0 0 (va_A (wHp cI a_p a_words_p a_roots_p a_heads_p a_marks_p a_order_p a_targets_p a_words a_roots a_base a_top a_heads a_objects a_marks a_order a_reached a_targets ++ wHp cI b_p b_words_p b_roots_p b_heads_p b_marks_p b_order_p b_targets_p b_words b_roots b_base b_top b_heads b_objects b_marks b_order b_reached b_targets) sz) := by
  refine g_met (fun A => va_Qi (fun (r : Int32) (u : ((Nat → Int32) × (Nat → Int32) × Int32 × (Nat → Int32) × (Nat → Int32) × Int32)) => o.1 = r ∧ o.2 = u) (gB (dC, dI) vwCl (gT cI cJ cH) (fun (u : ((Nat → Int32) × (Nat → Int32) × Int32 × (Nat → Int32) × (Nat → Int32) × Int32)) => wHp cI a_p a_words_p a_roots_p a_heads_p a_marks_p a_order_p a_targets_p a_words a_roots a_base a_top a_heads a_objects u.1 u.2.1 u.2.2.1 a_targets ++ wHp cI b_p b_words_p b_roots_p b_heads_p b_marks_p b_order_p b_targets_p b_words b_roots b_base b_top b_heads b_objects u.2.2.2.1 u.2.2.2.2.1 u.2.2.2.2.2 b_targets) A) A) (by decide) rfl (Nat.le_of_ble_eq_true rfl) ?_
  intro p e s m args below meth c A Q F hlocks hr hname hN hQ
  unfold f_X1_hasSameAs at hf
  refine g_lvE (lv' := [(0, .ref a_p), (1, .ref b_p)]) rfl ?_
  refine g_aload_n F dX1_hasSameAs_0 rfl 0 rfl ?_
  obtain ⟨o1, ho1, hf⟩ := bnE hf
  refine g_callPv (n := 0) (As := []) F (c_X1_findOrder l dC dI cI cJ cH a_p a_words_p a_roots_p a_heads_p a_marks_p a_order_p a_targets_p a_words a_roots a_base a_top a_heads a_objects a_marks a_order a_reached a_targets o1 ho1) ggX1_hasSameAs_X1_findOrder rfl rfl rfl (by decide +kernel) (by decide +kernel) (by decide +kernel) (by decide +kernel) (by decide +kernel) ⟨Nat.le_of_ble_eq_true rfl, Nat.le_of_ble_eq_true rfl⟩ ⟨Nat.le_of_ble_eq_true rfl, Nat.le_of_ble_eq_true rfl⟩ hN 0 rfl rfl rfl ([]) (wHp cI b_p b_words_p b_roots_p b_heads_p b_marks_p b_order_p b_targets_p b_words b_roots b_base b_top b_heads b_objects b_marks b_order b_reached b_targets) rfl (fun _ => rfl) rfl (Nat.le_of_ble_eq_true rfl) rfl dX1_hasSameAs_1 (cells' := 0) (slots' := 0) rfl rfl (fun u hp => ?_)
  subst hp
  refine g_ws (ws' := wHp cI a_p a_words_p a_roots_p a_heads_p a_marks_p a_order_p a_targets_p a_words a_roots a_base a_top a_heads a_objects o1.1 o1.2.1 o1.2.2 a_targets ++ wHp cI b_p b_words_p b_roots_p b_heads_p b_marks_p b_order_p b_targets_p b_words b_roots b_base b_top b_heads b_objects b_marks b_order b_reached b_targets) rfl ?_
  refine g_aload_n F dX1_hasSameAs_4 rfl 1 rfl ?_
  obtain ⟨o2, ho2, hf⟩ := bnE hf
  refine g_callPv (n := 0) (As := []) F (c_X1_findOrder l dC dI cI cJ cH b_p b_words_p b_roots_p b_heads_p b_marks_p b_order_p b_targets_p b_words b_roots b_base b_top b_heads b_objects b_marks b_order b_reached b_targets o2 ho2) ggX1_hasSameAs_X1_findOrder rfl rfl rfl (by decide +kernel) (by decide +kernel) (by decide +kernel) (by decide +kernel) (by decide +kernel) ⟨Nat.le_of_ble_eq_true rfl, Nat.le_of_ble_eq_true rfl⟩ ⟨Nat.le_of_ble_eq_true rfl, Nat.le_of_ble_eq_true rfl⟩ hN 7 rfl rfl rfl (wHp cI a_p a_words_p a_roots_p a_heads_p a_marks_p a_order_p a_targets_p a_words a_roots a_base a_top a_heads a_objects o1.1 o1.2.1 o1.2.2 a_targets) ([]) rfl (fun _ => rfl) rfl (Nat.le_of_ble_eq_true rfl) rfl dX1_hasSameAs_5 (cells' := 0) (slots' := 0) rfl rfl (fun u hp => ?_)
  subst hp
  refine g_ws (ws' := wHp cI a_p a_words_p a_roots_p a_heads_p a_marks_p a_order_p a_targets_p a_words a_roots a_base a_top a_heads a_objects o1.1 o1.2.1 o1.2.2 a_targets ++ wHp cI b_p b_words_p b_roots_p b_heads_p b_marks_p b_order_p b_targets_p b_words b_roots b_base b_top b_heads b_objects o2.1 o2.2.1 o2.2.2 b_targets) rfl ?_
  refine g_aload_n F dX1_hasSameAs_8 rfl 0 rfl ?_
  refine g_get F h_X1_hasSameAs_1 0 rfl rfl 8 (by decide) (by decide +kernel) rfl dX1_hasSameAs_9 ?_
  refine g_aload_n F dX1_hasSameAs_12 rfl 1 rfl ?_
  refine g_get F h_X1_hasSameAs_1 7 rfl rfl 8 (by decide) (by decide +kernel) rfl dX1_hasSameAs_13 ?_
  refine g_icmp_eq (tgt := 21) F dX1_hasSameAs_16 (by decide) (fun c16 => ?_) (fun c16 => ?_)
  · have hf := iteT hf c16
    refine g_iconst (v := 0) F dX1_hasSameAs_21 rfl ?_
    refine g_istore_n (lv' := [(2, .int (0 : Int32)), (0, .ref a_p), (1, .ref b_p)]) F dX1_hasSameAs_22 rfl (by decide) rfl ?_
    obtain ⟨o8, ho8, hf⟩ := bnE hf
    refine g_lv [1, 2, 0] rfl ?_
    refine w_X1_hasSameAs_L23 F hN FU _ o8 ho8 ?_ ?_
    · intro hk
      have hf := iteT hf hk
      refine g_iconst (v := 0) F dX1_hasSameAs_60 rfl ?_
      refine g_istore_n (lv' := [(2, .int (0 : Int32)), (0, .ref a_p), (1, .ref b_p)]) F dX1_hasSameAs_61 rfl (by decide) rfl ?_
      obtain ⟨o13, ho13, hf⟩ := bnE hf
      refine g_lv [1, 2, 0] rfl ?_
      refine w_X1_hasSameAs_L62 F hN FU _ o13 ho13 ?_ ?_
      · intro hk
        have hf := iteT hf hk
        refine g_iconst (v := 1) F dX1_hasSameAs_98 rfl ?_
        subst hQ
        exact g_zret F hlocks hr rfl (o1.1, o1.2.1, o1.2.2, o2.1, o2.2.1, o2.2.2) rfl (pr2 (Option.some.inj hf)) dX1_hasSameAs_99
      · intro hk
        have hf := iteF hf (by rw [hk]; decide)
        refine g_iconst (v := 0) F dX1_hasSameAs_90 rfl ?_
        subst hQ
        exact g_zret F hlocks hr rfl (o1.1, o1.2.1, o1.2.2, o2.1, o2.2.1, o2.2.2) rfl (pr2 (Option.some.inj hf)) dX1_hasSameAs_91
    · intro hk
      have hf := iteF hf (by rw [hk]; decide)
      refine g_iconst (v := 0) F dX1_hasSameAs_52 rfl ?_
      subst hQ
      exact g_zret F hlocks hr rfl (o1.1, o1.2.1, o1.2.2, o2.1, o2.2.1, o2.2.2) rfl (pr2 (Option.some.inj hf)) dX1_hasSameAs_53
  · have hf := iteF hf c16
    refine g_iconst (v := 0) F dX1_hasSameAs_19 rfl ?_
    subst hQ
    exact g_zret F hlocks hr rfl (o1.1, o1.2.1, o1.2.2, o2.1, o2.2.1, o2.2.2) rfl (pr2 (Option.some.inj hf)) dX1_hasSameAs_20

/-! HeapImages$Heap.resolveAll([III)V -/
def rm_X1_resolveAll_roots : Room := { frames := 1, cells := 0, slots := 0, locals := 21 }
theorem h_X1_resolveAll_1 : ∀ w ∈ wsX10, w ∈ wsX1_resolveAll := by decide +kernel
def f_X1_resolveAll_roots_L3_s (a_base : Int32) (a_heads : (Nat → Int32)) (y2 : Int32) (y3 : Int32) (rc : Int32 → (Nat → Int32) → Option (Nat → Int32)) (z4 : Int32) (a_roots : (Nat → Int32)) : Option (Nat → Int32) :=
  if (y2 + y3) ≤ z4 then some a_roots else ck (inR z4 4) (nm (a_roots z4.toNatClampNeg) fun v2 => if v2 = 0 then nm (z4 + (1 : Int32)) fun v3 => rc v3 a_roots else Option.bind (f_X3_isNumber v2) fun o4 => if o4 = 0 then ck (inR ((v2 / (2 : Int32)) - (1 : Int32)) 256) (Option.bind (f_X1_addressOf a_base (a_heads ((v2 / (2 : Int32)) - (1 : Int32)).toNatClampNeg)) fun o7 => ck (inR z4 4) (nm (z4 + (1 : Int32)) fun v9 => rc v9 (upd a_roots z4.toNatClampNeg o7))) else nm (z4 + (1 : Int32)) fun v5 => rc v5 a_roots)
def f_X1_resolveAll_roots_L3 (a_base : Int32) (a_heads : (Nat → Int32)) (y2 : Int32) (y3 : Int32) : Nat → Int32 → (Nat → Int32) → Option (Nat → Int32)
  | 0, _, _ => none
  | n + 1, z4, a_roots => f_X1_resolveAll_roots_L3_s a_base a_heads y2 y3 (f_X1_resolveAll_roots_L3 a_base a_heads y2 y3 n) z4 a_roots
set_option maxHeartbeats 4000000 in
theorem w_X1_resolveAll_roots_L3 {p : Program} {l : Launch} {e : Env} {s : State} {m : MethodId} {args : Array Value} {below : List Frame} {meth : Method} {c : Code} {A : Nat → Prop} {Q : State → Prop} {dC : Nat → ClassId} {dI : Nat → Nat → Nat} {cI cJ cH : ClassId} {a_p a_words_p a_roots_p a_heads_p a_marks_p a_order_p a_targets_p : Nat} {a_words : (Nat → Int32)} {a_base : Int32} {a_top : Int32} {a_heads : (Nat → Int32)} {a_objects : Int32} {a_marks : (Nat → Int32)} {a_order : (Nat → Int32)} {a_reached : Int32} {a_targets : (Nat → Int32)} {y2 : Int32} {y3 : Int32} (F : gF p m c cX1_resolveAll 6 s args wsX1_resolveAll yX1_resolveAll.cls (dC, dI) vwCl (gT cI cJ cH) A) (hN : ∀ w ∈ gN, va_Nw w s) : ∀ (n : Nat) (z4 : Int32) (a_roots : (Nat → Int32)) (o : (Nat → Int32)), f_X1_resolveAll_roots_L3 a_base a_heads y2 y3 n z4 a_roots = some o → (gW p l e rm_X1_resolveAll_roots s m args below meth c 0 0 Q (dC, dI) vwCl A 6 (wHp cI a_p a_words_p a_roots_p a_heads_p a_marks_p a_order_p a_targets_p a_words o a_base a_top a_heads a_objects a_marks a_order a_reached a_targets) [] 55 []) → gW p l e rm_X1_resolveAll_roots s m args below meth c 0 0 Q (dC, dI) vwCl A 6 (wHp cI a_p a_words_p a_roots_p a_heads_p a_marks_p a_order_p a_targets_p a_words a_roots a_base a_top a_heads a_objects a_marks a_order a_reached a_targets) [(0, .ref a_p), (1, .ref a_roots_p), (2, .int y2), (3, .int y3), (4, .int z4)] 3 [] := by
  intro n
  induction n with
  | zero =>
    intro z4 a_roots o hf E0
    change none = some o at hf
    cases hf
  | succ n ih =>
    intro z4 a_roots o hf E0
    change f_X1_resolveAll_roots_L3_s a_base a_heads y2 y3 (f_X1_resolveAll_roots_L3 a_base a_heads y2 y3 n) z4 a_roots = some o at hf
    unfold f_X1_resolveAll_roots_L3_s at hf
    refine g_iload F dX1_resolveAll_3 4 rfl ?_
    refine g_iload_n F dX1_resolveAll_5 rfl 2 rfl ?_
    refine g_iload_n F dX1_resolveAll_6 rfl 3 rfl ?_
    refine g_iadd F dX1_resolveAll_7 ?_
    refine g_icmp_ge (tgt := 55) F dX1_resolveAll_8 (by decide) (fun c8 => ?_) (fun c8 => ?_)
    · have hf := iteT hf c8
      cases hf
      refine g_lv [] rfl ?_
      exact E0
    · have hf := iteF hf c8
      refine g_aload_n F dX1_resolveAll_11 rfl 1 rfl ?_
      refine g_iload F dX1_resolveAll_12 4 rfl ?_
      obtain ⟨h1, hf⟩ := ckE hf
      refine g_iald F 2 0 rfl rfl h1 dX1_resolveAll_14 ?_
      obtain ⟨v2, ev2, hf⟩ := nmE hf
      refine g_nmi ev2 ?_
      refine g_istore (lv' := [(5, .int v2), (0, .ref a_p), (1, .ref a_roots_p), (2, .int y2), (3, .int y3), (4, .int z4)]) F dX1_resolveAll_15 (by decide) rfl ?_
      refine g_iload F dX1_resolveAll_17 0 rfl ?_
      refine g_if_eq (tgt := 49) F dX1_resolveAll_19 (by decide) (fun c19 => ?_) (fun c19 => ?_)
      · have hf := iteT hf c19
        obtain ⟨v3, ev3, hf⟩ := nmE hf
        refine g_iinc (j := 5) (lv' := [(4, .int v3), (5, .int v2), (0, .ref a_p), (1, .ref a_roots_p), (2, .int y2), (3, .int y3)]) F dX1_resolveAll_49 rfl ev3.symm (by decide) rfl ?_
        refine g_goto (tgt := 3) F dX1_resolveAll_52 (by decide) ?_
        refine g_lv [2, 3, 4, 5, 0] rfl ?_
        exact ih _ _ o hf E0
      · have hf := iteF hf c19
        refine g_iload F dX1_resolveAll_22 0 rfl ?_
        obtain ⟨o4, ho4, hf⟩ := bnE hf
        refine g_callNi (host := "HeapImages") (n := 1) (As := [.int v2]) F (c_X3_isNumber l dC dI cI cJ cH v2 o4 ho4) ggX1_resolveAll_X3_isNumber rfl rfl rfl (by decide +kernel) (hN _ (by decide +kernel)) (by decide +kernel) (by decide +kernel) ⟨Nat.le_of_ble_eq_true rfl, Nat.le_of_ble_eq_true rfl⟩ ⟨Nat.le_of_ble_eq_true rfl, Nat.le_of_ble_eq_true rfl⟩ hN [] rfl rfl (fun _ => rfl) rfl (Nat.le_of_ble_eq_true rfl) rfl dX1_resolveAll_24 (cells' := 0) (slots' := 0) rfl rfl (fun r u hp => ?_)
        subst hp
        refine g_ws (ws' := wHp cI a_p a_words_p a_roots_p a_heads_p a_marks_p a_order_p a_targets_p a_words a_roots a_base a_top a_heads a_objects a_marks a_order a_reached a_targets) rfl ?_
        refine g_if_ne (tgt := 49) F dX1_resolveAll_27 (by decide) (fun c27 => ?_) (fun c27 => ?_)
        · have hf := iteF hf c27
          obtain ⟨v5, ev5, hf⟩ := nmE hf
          refine g_iinc (j := 5) (lv' := [(4, .int v5), (5, .int v2), (0, .ref a_p), (1, .ref a_roots_p), (2, .int y2), (3, .int y3)]) F dX1_resolveAll_49 rfl ev5.symm (by decide) rfl ?_
          refine g_goto (tgt := 3) F dX1_resolveAll_52 (by decide) ?_
          refine g_lv [2, 3, 4, 5, 0] rfl ?_
          exact ih _ _ o hf E0
        · have hf := iteT hf c27
          refine g_aload_n F dX1_resolveAll_30 rfl 2 rfl ?_
          refine g_iload F dX1_resolveAll_31 5 rfl ?_
          refine g_aload_n F dX1_resolveAll_33 rfl 1 rfl ?_
          refine g_aload_n F dX1_resolveAll_34 rfl 1 rfl ?_
          refine g_get F h_X1_resolveAll_1 0 rfl rfl 4 (by decide) (by decide +kernel) rfl dX1_resolveAll_35 ?_
          refine g_iload F dX1_resolveAll_38 0 rfl ?_
          refine g_iconst (v := 2) F dX1_resolveAll_40 rfl ?_
          refine g_idiv F dX1_resolveAll_41 (by decide) ?_
          refine g_iconst (v := 1) F dX1_resolveAll_42 rfl ?_
          refine g_isub F dX1_resolveAll_43 ?_
          obtain ⟨h6, hf⟩ := ckE hf
          refine g_iald F 3 0 rfl rfl h6 dX1_resolveAll_44 ?_
          obtain ⟨o7, ho7, hf⟩ := bnE hf
          refine g_callPi (n := 1) (As := [.int (a_heads ((v2 / (2 : Int32)) - (1 : Int32)).toNatClampNeg)]) F (c_X1_addressOf l dC dI cI cJ cH a_p a_words_p a_roots_p a_heads_p a_marks_p a_order_p a_targets_p a_words a_roots a_base a_top a_heads a_objects a_marks a_order a_reached a_targets (a_heads ((v2 / (2 : Int32)) - (1 : Int32)).toNatClampNeg) o7 ho7) ggX1_resolveAll_X1_addressOf rfl rfl rfl (by decide +kernel) (by decide +kernel) (by decide +kernel) (by decide +kernel) (by decide +kernel) ⟨Nat.le_of_ble_eq_true rfl, Nat.le_of_ble_eq_true rfl⟩ ⟨Nat.le_of_ble_eq_true rfl, Nat.le_of_ble_eq_true rfl⟩ hN 0 rfl rfl rfl ([]) ([]) rfl (fun _ => rfl) rfl (Nat.le_of_ble_eq_true rfl) rfl dX1_resolveAll_45 (cells' := 0) (slots' := 0) rfl rfl (fun r u hp => ?_)
          subst hp
          refine g_ws (ws' := wHp cI a_p a_words_p a_roots_p a_heads_p a_marks_p a_order_p a_targets_p a_words a_roots a_base a_top a_heads a_objects a_marks a_order a_reached a_targets) rfl ?_
          obtain ⟨h8, hf⟩ := ckE hf
          refine g_iast F 2 0 rfl rfl h8 dX1_resolveAll_48 (ws' := wHp cI a_p a_words_p a_roots_p a_heads_p a_marks_p a_order_p a_targets_p a_words (upd a_roots z4.toNatClampNeg o7) a_base a_top a_heads a_objects a_marks a_order a_reached a_targets) rfl ?_
          obtain ⟨v9, ev9, hf⟩ := nmE hf
          refine g_iinc (j := 5) (lv' := [(4, .int v9), (5, .int v2), (0, .ref a_p), (1, .ref a_roots_p), (2, .int y2), (3, .int y3)]) F dX1_resolveAll_49 rfl ev9.symm (by decide) rfl ?_
          refine g_goto (tgt := 3) F dX1_resolveAll_52 (by decide) ?_
          refine g_lv [2, 3, 4, 5, 0] rfl ?_
          exact ih _ _ o hf E0
def f_X1_resolveAll_roots (a_roots : (Nat → Int32)) (a_base : Int32) (a_heads : (Nat → Int32)) (x2 : Int32) (x3 : Int32) : Option (Nat → Int32) :=
  Option.bind (f_X1_resolveAll_roots_L3 a_base a_heads x2 x3 FU x2 a_roots) fun o10 => some o10
set_option maxHeartbeats 4000000 in
set_option maxRecDepth 100000 in
theorem c_X1_resolveAll_roots (l : Launch) (dC : Nat → ClassId) (dI : Nat → Nat → Nat) (cI cJ cH : ClassId) (a_p a_words_p a_roots_p a_heads_p a_marks_p a_order_p a_targets_p : Nat)  (a_words : (Nat → Int32)) (a_roots : (Nat → Int32)) (a_base : Int32) (a_top : Int32) (a_heads : (Nat → Int32)) (a_objects : Int32) (a_marks : (Nat → Int32)) (a_order : (Nat → Int32)) (a_reached : Int32) (a_targets : (Nat → Int32)) (x2 : Int32) (x3 : Int32) (o : (Nat → Int32)) (hf : f_X1_resolveAll_roots a_roots a_base a_heads x2 x3 = some o) : ∀ sz : Nat, Met l yX1_resolveAll wsX1_resolveAll rm_X1_resolveAll_roots (gPre [.ref a_p, .ref a_roots_p, .int x2, .int x3] (dC, dI) vwCl (gT cI cJ cH) (wHp cI a_p a_words_p a_roots_p a_heads_p a_marks_p a_order_p a_targets_p a_words a_roots a_base a_top a_heads a_objects a_marks a_order a_reached a_targets) sz) (va_Qv (fun (u : (Nat → Int32)) => o = u) (gB (dC, dI) vwCl (gT cI cJ cH) (fun (u : (Nat → Int32)) => wHp cI a_p a_words_p a_roots_p a_heads_p a_marks_p a_order_p a_targets_p a_words u a_base a_top a_heads a_objects a_marks a_order a_reached a_targets) (va_A (wHp cI a_p a_words_p a_roots_p a_heads_p a_marks_p a_order_p a_targets_p a_words a_roots a_base a_top a_heads a_objects a_marks a_order a_reached a_targets) sz)) (va_A (wHp cI a_p a_words_p a_roots_p a_heads_p a_marks_p a_order_p a_targets_p a_words a_roots a_base a_top a_heads a_objects a_marks a_order a_reached a_targets) sz)) 0 0 (va_A (wHp cI a_p a_words_p a_roots_p a_heads_p a_marks_p a_order_p a_targets_p a_words a_roots a_base a_top a_heads a_objects a_marks a_order a_reached a_targets) sz) := by
  refine g_met (fun A => va_Qv (fun (u : (Nat → Int32)) => o = u) (gB (dC, dI) vwCl (gT cI cJ cH) (fun (u : (Nat → Int32)) => wHp cI a_p a_words_p a_roots_p a_heads_p a_marks_p a_order_p a_targets_p a_words u a_base a_top a_heads a_objects a_marks a_order a_reached a_targets) A) A) (by decide) rfl (Nat.le_of_ble_eq_true rfl) ?_
  intro p e s m args below meth c A Q F hlocks hr hname hN hQ
  unfold f_X1_resolveAll_roots at hf
  refine g_lvE (lv' := [(0, .ref a_p), (1, .ref a_roots_p), (2, .int x2), (3, .int x3)]) rfl ?_
  refine g_iload_n F dX1_resolveAll_0 rfl 2 rfl ?_
  refine g_istore (lv' := [(4, .int x2), (0, .ref a_p), (1, .ref a_roots_p), (2, .int x2), (3, .int x3)]) F dX1_resolveAll_1 (by decide) rfl ?_
  obtain ⟨o10, ho10, hf⟩ := bnE hf
  refine g_lv [1, 2, 3, 4, 0] rfl ?_
  refine w_X1_resolveAll_roots_L3 F hN FU _ _ o10 ho10 ?_
  subst hQ
  exact g_vret F hlocks hr o10 rfl (Option.some.inj hf).symm dX1_resolveAll_55

/-! HeapImages$Heap.resolveAll([III)V -/
def rm_X1_resolveAll_words : Room := { frames := 1, cells := 0, slots := 0, locals := 21 }
def f_X1_resolveAll_words_L3_s (a_base : Int32) (a_heads : (Nat → Int32)) (y2 : Int32) (y3 : Int32) (rc : Int32 → (Nat → Int32) → Option (Nat → Int32)) (z4 : Int32) (a_words : (Nat → Int32)) : Option (Nat → Int32) :=
  if (y2 + y3) ≤ z4 then some a_words else ck (inR z4 256) (nm (a_words z4.toNatClampNeg) fun v2 => if v2 = 0 then nm (z4 + (1 : Int32)) fun v3 => rc v3 a_words else Option.bind (f_X3_isNumber v2) fun o4 => if o4 = 0 then ck (inR ((v2 / (2 : Int32)) - (1 : Int32)) 256) (Option.bind (f_X1_addressOf a_base (a_heads ((v2 / (2 : Int32)) - (1 : Int32)).toNatClampNeg)) fun o7 => ck (inR z4 256) (nm (z4 + (1 : Int32)) fun v9 => rc v9 (upd a_words z4.toNatClampNeg o7))) else nm (z4 + (1 : Int32)) fun v5 => rc v5 a_words)
def f_X1_resolveAll_words_L3 (a_base : Int32) (a_heads : (Nat → Int32)) (y2 : Int32) (y3 : Int32) : Nat → Int32 → (Nat → Int32) → Option (Nat → Int32)
  | 0, _, _ => none
  | n + 1, z4, a_words => f_X1_resolveAll_words_L3_s a_base a_heads y2 y3 (f_X1_resolveAll_words_L3 a_base a_heads y2 y3 n) z4 a_words
set_option maxHeartbeats 4000000 in
theorem w_X1_resolveAll_words_L3 {p : Program} {l : Launch} {e : Env} {s : State} {m : MethodId} {args : Array Value} {below : List Frame} {meth : Method} {c : Code} {A : Nat → Prop} {Q : State → Prop} {dC : Nat → ClassId} {dI : Nat → Nat → Nat} {cI cJ cH : ClassId} {a_p a_words_p a_roots_p a_heads_p a_marks_p a_order_p a_targets_p : Nat} {a_roots : (Nat → Int32)} {a_base : Int32} {a_top : Int32} {a_heads : (Nat → Int32)} {a_objects : Int32} {a_marks : (Nat → Int32)} {a_order : (Nat → Int32)} {a_reached : Int32} {a_targets : (Nat → Int32)} {y2 : Int32} {y3 : Int32} (F : gF p m c cX1_resolveAll 6 s args wsX1_resolveAll yX1_resolveAll.cls (dC, dI) vwCl (gT cI cJ cH) A) (hN : ∀ w ∈ gN, va_Nw w s) : ∀ (n : Nat) (z4 : Int32) (a_words : (Nat → Int32)) (o : (Nat → Int32)), f_X1_resolveAll_words_L3 a_base a_heads y2 y3 n z4 a_words = some o → (gW p l e rm_X1_resolveAll_words s m args below meth c 0 0 Q (dC, dI) vwCl A 6 (wHp cI a_p a_words_p a_roots_p a_heads_p a_marks_p a_order_p a_targets_p o a_roots a_base a_top a_heads a_objects a_marks a_order a_reached a_targets) [] 55 []) → gW p l e rm_X1_resolveAll_words s m args below meth c 0 0 Q (dC, dI) vwCl A 6 (wHp cI a_p a_words_p a_roots_p a_heads_p a_marks_p a_order_p a_targets_p a_words a_roots a_base a_top a_heads a_objects a_marks a_order a_reached a_targets) [(0, .ref a_p), (1, .ref a_words_p), (2, .int y2), (3, .int y3), (4, .int z4)] 3 [] := by
  intro n
  induction n with
  | zero =>
    intro z4 a_words o hf E0
    change none = some o at hf
    cases hf
  | succ n ih =>
    intro z4 a_words o hf E0
    change f_X1_resolveAll_words_L3_s a_base a_heads y2 y3 (f_X1_resolveAll_words_L3 a_base a_heads y2 y3 n) z4 a_words = some o at hf
    unfold f_X1_resolveAll_words_L3_s at hf
    refine g_iload F dX1_resolveAll_3 4 rfl ?_
    refine g_iload_n F dX1_resolveAll_5 rfl 2 rfl ?_
    refine g_iload_n F dX1_resolveAll_6 rfl 3 rfl ?_
    refine g_iadd F dX1_resolveAll_7 ?_
    refine g_icmp_ge (tgt := 55) F dX1_resolveAll_8 (by decide) (fun c8 => ?_) (fun c8 => ?_)
    · have hf := iteT hf c8
      cases hf
      refine g_lv [] rfl ?_
      exact E0
    · have hf := iteF hf c8
      refine g_aload_n F dX1_resolveAll_11 rfl 1 rfl ?_
      refine g_iload F dX1_resolveAll_12 4 rfl ?_
      obtain ⟨h1, hf⟩ := ckE hf
      refine g_iald F 1 0 rfl rfl h1 dX1_resolveAll_14 ?_
      obtain ⟨v2, ev2, hf⟩ := nmE hf
      refine g_nmi ev2 ?_
      refine g_istore (lv' := [(5, .int v2), (0, .ref a_p), (1, .ref a_words_p), (2, .int y2), (3, .int y3), (4, .int z4)]) F dX1_resolveAll_15 (by decide) rfl ?_
      refine g_iload F dX1_resolveAll_17 0 rfl ?_
      refine g_if_eq (tgt := 49) F dX1_resolveAll_19 (by decide) (fun c19 => ?_) (fun c19 => ?_)
      · have hf := iteT hf c19
        obtain ⟨v3, ev3, hf⟩ := nmE hf
        refine g_iinc (j := 5) (lv' := [(4, .int v3), (5, .int v2), (0, .ref a_p), (1, .ref a_words_p), (2, .int y2), (3, .int y3)]) F dX1_resolveAll_49 rfl ev3.symm (by decide) rfl ?_
        refine g_goto (tgt := 3) F dX1_resolveAll_52 (by decide) ?_
        refine g_lv [2, 3, 4, 5, 0] rfl ?_
        exact ih _ _ o hf E0
      · have hf := iteF hf c19
        refine g_iload F dX1_resolveAll_22 0 rfl ?_
        obtain ⟨o4, ho4, hf⟩ := bnE hf
        refine g_callNi (host := "HeapImages") (n := 1) (As := [.int v2]) F (c_X3_isNumber l dC dI cI cJ cH v2 o4 ho4) ggX1_resolveAll_X3_isNumber rfl rfl rfl (by decide +kernel) (hN _ (by decide +kernel)) (by decide +kernel) (by decide +kernel) ⟨Nat.le_of_ble_eq_true rfl, Nat.le_of_ble_eq_true rfl⟩ ⟨Nat.le_of_ble_eq_true rfl, Nat.le_of_ble_eq_true rfl⟩ hN [] rfl rfl (fun _ => rfl) rfl (Nat.le_of_ble_eq_true rfl) rfl dX1_resolveAll_24 (cells' := 0) (slots' := 0) rfl rfl (fun r u hp => ?_)
        subst hp
        refine g_ws (ws' := wHp cI a_p a_words_p a_roots_p a_heads_p a_marks_p a_order_p a_targets_p a_words a_roots a_base a_top a_heads a_objects a_marks a_order a_reached a_targets) rfl ?_
        refine g_if_ne (tgt := 49) F dX1_resolveAll_27 (by decide) (fun c27 => ?_) (fun c27 => ?_)
        · have hf := iteF hf c27
          obtain ⟨v5, ev5, hf⟩ := nmE hf
          refine g_iinc (j := 5) (lv' := [(4, .int v5), (5, .int v2), (0, .ref a_p), (1, .ref a_words_p), (2, .int y2), (3, .int y3)]) F dX1_resolveAll_49 rfl ev5.symm (by decide) rfl ?_
          refine g_goto (tgt := 3) F dX1_resolveAll_52 (by decide) ?_
          refine g_lv [2, 3, 4, 5, 0] rfl ?_
          exact ih _ _ o hf E0
        · have hf := iteT hf c27
          refine g_aload_n F dX1_resolveAll_30 rfl 2 rfl ?_
          refine g_iload F dX1_resolveAll_31 5 rfl ?_
          refine g_aload_n F dX1_resolveAll_33 rfl 1 rfl ?_
          refine g_aload_n F dX1_resolveAll_34 rfl 1 rfl ?_
          refine g_get F h_X1_resolveAll_1 0 rfl rfl 4 (by decide) (by decide +kernel) rfl dX1_resolveAll_35 ?_
          refine g_iload F dX1_resolveAll_38 0 rfl ?_
          refine g_iconst (v := 2) F dX1_resolveAll_40 rfl ?_
          refine g_idiv F dX1_resolveAll_41 (by decide) ?_
          refine g_iconst (v := 1) F dX1_resolveAll_42 rfl ?_
          refine g_isub F dX1_resolveAll_43 ?_
          obtain ⟨h6, hf⟩ := ckE hf
          refine g_iald F 3 0 rfl rfl h6 dX1_resolveAll_44 ?_
          obtain ⟨o7, ho7, hf⟩ := bnE hf
          refine g_callPi (n := 1) (As := [.int (a_heads ((v2 / (2 : Int32)) - (1 : Int32)).toNatClampNeg)]) F (c_X1_addressOf l dC dI cI cJ cH a_p a_words_p a_roots_p a_heads_p a_marks_p a_order_p a_targets_p a_words a_roots a_base a_top a_heads a_objects a_marks a_order a_reached a_targets (a_heads ((v2 / (2 : Int32)) - (1 : Int32)).toNatClampNeg) o7 ho7) ggX1_resolveAll_X1_addressOf rfl rfl rfl (by decide +kernel) (by decide +kernel) (by decide +kernel) (by decide +kernel) (by decide +kernel) ⟨Nat.le_of_ble_eq_true rfl, Nat.le_of_ble_eq_true rfl⟩ ⟨Nat.le_of_ble_eq_true rfl, Nat.le_of_ble_eq_true rfl⟩ hN 0 rfl rfl rfl ([]) ([]) rfl (fun _ => rfl) rfl (Nat.le_of_ble_eq_true rfl) rfl dX1_resolveAll_45 (cells' := 0) (slots' := 0) rfl rfl (fun r u hp => ?_)
          subst hp
          refine g_ws (ws' := wHp cI a_p a_words_p a_roots_p a_heads_p a_marks_p a_order_p a_targets_p a_words a_roots a_base a_top a_heads a_objects a_marks a_order a_reached a_targets) rfl ?_
          obtain ⟨h8, hf⟩ := ckE hf
          refine g_iast F 1 0 rfl rfl h8 dX1_resolveAll_48 (ws' := wHp cI a_p a_words_p a_roots_p a_heads_p a_marks_p a_order_p a_targets_p (upd a_words z4.toNatClampNeg o7) a_roots a_base a_top a_heads a_objects a_marks a_order a_reached a_targets) rfl ?_
          obtain ⟨v9, ev9, hf⟩ := nmE hf
          refine g_iinc (j := 5) (lv' := [(4, .int v9), (5, .int v2), (0, .ref a_p), (1, .ref a_words_p), (2, .int y2), (3, .int y3)]) F dX1_resolveAll_49 rfl ev9.symm (by decide) rfl ?_
          refine g_goto (tgt := 3) F dX1_resolveAll_52 (by decide) ?_
          refine g_lv [2, 3, 4, 5, 0] rfl ?_
          exact ih _ _ o hf E0
def f_X1_resolveAll_words (a_words : (Nat → Int32)) (a_base : Int32) (a_heads : (Nat → Int32)) (x2 : Int32) (x3 : Int32) : Option (Nat → Int32) :=
  Option.bind (f_X1_resolveAll_words_L3 a_base a_heads x2 x3 FU x2 a_words) fun o10 => some o10
set_option maxHeartbeats 4000000 in
set_option maxRecDepth 100000 in
theorem c_X1_resolveAll_words (l : Launch) (dC : Nat → ClassId) (dI : Nat → Nat → Nat) (cI cJ cH : ClassId) (a_p a_words_p a_roots_p a_heads_p a_marks_p a_order_p a_targets_p : Nat)  (a_words : (Nat → Int32)) (a_roots : (Nat → Int32)) (a_base : Int32) (a_top : Int32) (a_heads : (Nat → Int32)) (a_objects : Int32) (a_marks : (Nat → Int32)) (a_order : (Nat → Int32)) (a_reached : Int32) (a_targets : (Nat → Int32)) (x2 : Int32) (x3 : Int32) (o : (Nat → Int32)) (hf : f_X1_resolveAll_words a_words a_base a_heads x2 x3 = some o) : ∀ sz : Nat, Met l yX1_resolveAll wsX1_resolveAll rm_X1_resolveAll_words (gPre [.ref a_p, .ref a_words_p, .int x2, .int x3] (dC, dI) vwCl (gT cI cJ cH) (wHp cI a_p a_words_p a_roots_p a_heads_p a_marks_p a_order_p a_targets_p a_words a_roots a_base a_top a_heads a_objects a_marks a_order a_reached a_targets) sz) (va_Qv (fun (u : (Nat → Int32)) => o = u) (gB (dC, dI) vwCl (gT cI cJ cH) (fun (u : (Nat → Int32)) => wHp cI a_p a_words_p a_roots_p a_heads_p a_marks_p a_order_p a_targets_p u a_roots a_base a_top a_heads a_objects a_marks a_order a_reached a_targets) (va_A (wHp cI a_p a_words_p a_roots_p a_heads_p a_marks_p a_order_p a_targets_p a_words a_roots a_base a_top a_heads a_objects a_marks a_order a_reached a_targets) sz)) (va_A (wHp cI a_p a_words_p a_roots_p a_heads_p a_marks_p a_order_p a_targets_p a_words a_roots a_base a_top a_heads a_objects a_marks a_order a_reached a_targets) sz)) 0 0 (va_A (wHp cI a_p a_words_p a_roots_p a_heads_p a_marks_p a_order_p a_targets_p a_words a_roots a_base a_top a_heads a_objects a_marks a_order a_reached a_targets) sz) := by
  refine g_met (fun A => va_Qv (fun (u : (Nat → Int32)) => o = u) (gB (dC, dI) vwCl (gT cI cJ cH) (fun (u : (Nat → Int32)) => wHp cI a_p a_words_p a_roots_p a_heads_p a_marks_p a_order_p a_targets_p u a_roots a_base a_top a_heads a_objects a_marks a_order a_reached a_targets) A) A) (by decide) rfl (Nat.le_of_ble_eq_true rfl) ?_
  intro p e s m args below meth c A Q F hlocks hr hname hN hQ
  unfold f_X1_resolveAll_words at hf
  refine g_lvE (lv' := [(0, .ref a_p), (1, .ref a_words_p), (2, .int x2), (3, .int x3)]) rfl ?_
  refine g_iload_n F dX1_resolveAll_0 rfl 2 rfl ?_
  refine g_istore (lv' := [(4, .int x2), (0, .ref a_p), (1, .ref a_words_p), (2, .int x2), (3, .int x3)]) F dX1_resolveAll_1 (by decide) rfl ?_
  obtain ⟨o10, ho10, hf⟩ := bnE hf
  refine g_lv [1, 2, 3, 4, 0] rfl ?_
  refine w_X1_resolveAll_words_L3 F hN FU _ _ o10 ho10 ?_
  subst hQ
  exact g_vret F hlocks hr o10 rfl (Option.some.inj hf).symm dX1_resolveAll_55

/-! HeapImages$Heap.resolveReferences()V -/
def rm_X1_resolveReferences : Room := { frames := 4, cells := 0, slots := 0, locals := 86 }
theorem h_X1_resolveReferences_1 : ∀ w ∈ wsX10, w ∈ wsX1_resolveReferences := by decide +kernel
def f_X1_resolveReferences_L17_s (a_base : Int32) (a_heads : (Nat → Int32)) (a_objects : Int32) (rc : Int32 → (Nat → Int32) → Option (Nat → Int32)) (z1 : Int32) (a_words : (Nat → Int32)) : Option (Nat → Int32) :=
  if a_objects ≤ z1 then some a_words else ck (inR z1 256) (ck (inR z1 256) (ck (inR (a_heads z1.toNatClampNeg) 256) (Option.bind (f_X3_valuesOf (a_words (a_heads z1.toNatClampNeg).toNatClampNeg)) fun o6 => Option.bind (f_X1_resolveAll_words a_words a_base a_heads ((a_heads z1.toNatClampNeg) + (1 : Int32)) o6) fun o7 => nm (z1 + (1 : Int32)) fun v8 => rc v8 o7)))
def f_X1_resolveReferences_L17 (a_base : Int32) (a_heads : (Nat → Int32)) (a_objects : Int32) : Nat → Int32 → (Nat → Int32) → Option (Nat → Int32)
  | 0, _, _ => none
  | n + 1, z1, a_words => f_X1_resolveReferences_L17_s a_base a_heads a_objects (f_X1_resolveReferences_L17 a_base a_heads a_objects n) z1 a_words
set_option maxHeartbeats 4000000 in
theorem w_X1_resolveReferences_L17 {p : Program} {l : Launch} {e : Env} {s : State} {m : MethodId} {args : Array Value} {below : List Frame} {meth : Method} {c : Code} {A : Nat → Prop} {Q : State → Prop} {dC : Nat → ClassId} {dI : Nat → Nat → Nat} {cI cJ cH : ClassId} {a_p a_words_p a_roots_p a_heads_p a_marks_p a_order_p a_targets_p : Nat} {a_roots : (Nat → Int32)} {a_base : Int32} {a_top : Int32} {a_heads : (Nat → Int32)} {a_objects : Int32} {a_marks : (Nat → Int32)} {a_order : (Nat → Int32)} {a_reached : Int32} {a_targets : (Nat → Int32)}  (F : gF p m c cX1_resolveReferences 2 s args wsX1_resolveReferences yX1_resolveReferences.cls (dC, dI) vwCl (gT cI cJ cH) A) (hN : ∀ w ∈ gN, va_Nw w s) : ∀ (n : Nat) (z1 : Int32) (a_words : (Nat → Int32)) (o : (Nat → Int32)), f_X1_resolveReferences_L17 a_base a_heads a_objects n z1 a_words = some o → (gW p l e rm_X1_resolveReferences s m args below meth c 0 0 Q (dC, dI) vwCl A 2 (wHp cI a_p a_words_p a_roots_p a_heads_p a_marks_p a_order_p a_targets_p o a_roots a_base a_top a_heads a_objects a_marks a_order a_reached a_targets) [] 61 []) → gW p l e rm_X1_resolveReferences s m args below meth c 0 0 Q (dC, dI) vwCl A 2 (wHp cI a_p a_words_p a_roots_p a_heads_p a_marks_p a_order_p a_targets_p a_words a_roots a_base a_top a_heads a_objects a_marks a_order a_reached a_targets) [(0, .ref a_p), (1, .int z1)] 17 [] := by
  intro n
  induction n with
  | zero =>
    intro z1 a_words o hf E0
    change none = some o at hf
    cases hf
  | succ n ih =>
    intro z1 a_words o hf E0
    change f_X1_resolveReferences_L17_s a_base a_heads a_objects (f_X1_resolveReferences_L17 a_base a_heads a_objects n) z1 a_words = some o at hf
    unfold f_X1_resolveReferences_L17_s at hf
    refine g_iload_n F dX1_resolveReferences_17 rfl 1 rfl ?_
    refine g_aload_n F dX1_resolveReferences_18 rfl 0 rfl ?_
    refine g_get F h_X1_resolveReferences_1 0 rfl rfl 5 (by decide) (by decide +kernel) rfl dX1_resolveReferences_19 ?_
    refine g_icmp_ge (tgt := 61) F dX1_resolveReferences_22 (by decide) (fun c22 => ?_) (fun c22 => ?_)
    · have hf := iteT hf c22
      cases hf
      refine g_lv [] rfl ?_
      exact E0
    · have hf := iteF hf c22
      refine g_aload_n F dX1_resolveReferences_25 rfl 0 rfl ?_
      refine g_aload_n F dX1_resolveReferences_26 rfl 0 rfl ?_
      refine g_get F h_X1_resolveReferences_1 0 rfl rfl 0 (by decide) (by decide +kernel) rfl dX1_resolveReferences_27 ?_
      refine g_aload_n F dX1_resolveReferences_30 rfl 0 rfl ?_
      refine g_get F h_X1_resolveReferences_1 0 rfl rfl 4 (by decide) (by decide +kernel) rfl dX1_resolveReferences_31 ?_
      refine g_iload_n F dX1_resolveReferences_34 rfl 1 rfl ?_
      obtain ⟨h3, hf⟩ := ckE hf
      refine g_iald F 3 0 rfl rfl h3 dX1_resolveReferences_35 ?_
      refine g_iconst (v := 1) F dX1_resolveReferences_36 rfl ?_
      refine g_iadd F dX1_resolveReferences_37 ?_
      refine g_aload_n F dX1_resolveReferences_38 rfl 0 rfl ?_
      refine g_get F h_X1_resolveReferences_1 0 rfl rfl 0 (by decide) (by decide +kernel) rfl dX1_resolveReferences_39 ?_
      refine g_aload_n F dX1_resolveReferences_42 rfl 0 rfl ?_
      refine g_get F h_X1_resolveReferences_1 0 rfl rfl 4 (by decide) (by decide +kernel) rfl dX1_resolveReferences_43 ?_
      refine g_iload_n F dX1_resolveReferences_46 rfl 1 rfl ?_
      obtain ⟨h4, hf⟩ := ckE hf
      refine g_iald F 3 0 rfl rfl h4 dX1_resolveReferences_47 ?_
      obtain ⟨h5, hf⟩ := ckE hf
      refine g_iald F 1 0 rfl rfl h5 dX1_resolveReferences_48 ?_
      obtain ⟨o6, ho6, hf⟩ := bnE hf
      refine g_callNi (host := "HeapImages") (n := 1) (As := [.int (a_words (a_heads z1.toNatClampNeg).toNatClampNeg)]) F (c_X3_valuesOf l dC dI cI cJ cH (a_words (a_heads z1.toNatClampNeg).toNatClampNeg) o6 ho6) ggX1_resolveReferences_X3_valuesOf rfl rfl rfl (by decide +kernel) (hN _ (by decide +kernel)) (by decide +kernel) (by decide +kernel) ⟨Nat.le_of_ble_eq_true rfl, Nat.le_of_ble_eq_true rfl⟩ ⟨Nat.le_of_ble_eq_true rfl, Nat.le_of_ble_eq_true rfl⟩ hN [] rfl rfl (fun _ => rfl) rfl (Nat.le_of_ble_eq_true rfl) rfl dX1_resolveReferences_49 (cells' := 0) (slots' := 0) rfl rfl (fun r u hp => ?_)
      subst hp
      refine g_ws (ws' := wHp cI a_p a_words_p a_roots_p a_heads_p a_marks_p a_order_p a_targets_p a_words a_roots a_base a_top a_heads a_objects a_marks a_order a_reached a_targets) rfl ?_
      obtain ⟨o7, ho7, hf⟩ := bnE hf
      refine g_callPv (n := 3) (As := [.ref a_words_p, .int ((a_heads z1.toNatClampNeg) + (1 : Int32)), .int o6]) F (c_X1_resolveAll_words l dC dI cI cJ cH a_p a_words_p a_roots_p a_heads_p a_marks_p a_order_p a_targets_p a_words a_roots a_base a_top a_heads a_objects a_marks a_order a_reached a_targets ((a_heads z1.toNatClampNeg) + (1 : Int32)) o6 o7 ho7) ggX1_resolveReferences_X1_resolveAll rfl rfl rfl (by decide +kernel) (by decide +kernel) (by decide +kernel) (by decide +kernel) (by decide +kernel) ⟨Nat.le_of_ble_eq_true rfl, Nat.le_of_ble_eq_true rfl⟩ ⟨Nat.le_of_ble_eq_true rfl, Nat.le_of_ble_eq_true rfl⟩ hN 0 rfl rfl rfl ([]) ([]) rfl (fun _ => rfl) rfl (Nat.le_of_ble_eq_true rfl) rfl dX1_resolveReferences_52 (cells' := 0) (slots' := 0) rfl rfl (fun u hp => ?_)
      subst hp
      refine g_ws (ws' := wHp cI a_p a_words_p a_roots_p a_heads_p a_marks_p a_order_p a_targets_p o7 a_roots a_base a_top a_heads a_objects a_marks a_order a_reached a_targets) rfl ?_
      obtain ⟨v8, ev8, hf⟩ := nmE hf
      refine g_iinc (j := 1) (lv' := [(1, .int v8), (0, .ref a_p)]) F dX1_resolveReferences_55 rfl ev8.symm (by decide) rfl ?_
      refine g_goto (tgt := 17) F dX1_resolveReferences_58 (by decide) ?_
      refine g_lv [1, 0] rfl ?_
      exact ih _ _ o hf E0
def f_X1_resolveReferences (a_words : (Nat → Int32)) (a_roots : (Nat → Int32)) (a_base : Int32) (a_top : Int32) (a_heads : (Nat → Int32)) (a_objects : Int32) (a_marks : (Nat → Int32)) : Option ((Nat → Int32) × (Nat → Int32) × (Nat → Int32) × Int32 × (Nat → Int32)) :=
  Option.bind (f_X1_listObjects a_words a_top a_heads a_objects a_marks) fun o1 => Option.bind (f_X1_resolveAll_roots a_roots a_base o1.2.1 (0 : Int32) (4 : Int32)) fun o2 => Option.bind (f_X1_resolveReferences_L17 a_base o1.2.1 o1.2.2.1 FU (0 : Int32) a_words) fun o9 => some (o9, o2, o1.2.1, o1.2.2.1, o1.2.2.2)
set_option maxHeartbeats 4000000 in
set_option maxRecDepth 100000 in
theorem c_X1_resolveReferences (l : Launch) (dC : Nat → ClassId) (dI : Nat → Nat → Nat) (cI cJ cH : ClassId) (a_p a_words_p a_roots_p a_heads_p a_marks_p a_order_p a_targets_p : Nat)  (a_words : (Nat → Int32)) (a_roots : (Nat → Int32)) (a_base : Int32) (a_top : Int32) (a_heads : (Nat → Int32)) (a_objects : Int32) (a_marks : (Nat → Int32)) (a_order : (Nat → Int32)) (a_reached : Int32) (a_targets : (Nat → Int32))  (o : ((Nat → Int32) × (Nat → Int32) × (Nat → Int32) × Int32 × (Nat → Int32))) (hf : f_X1_resolveReferences a_words a_roots a_base a_top a_heads a_objects a_marks = some o) : ∀ sz : Nat, Met l yX1_resolveReferences wsX1_resolveReferences rm_X1_resolveReferences (gPre [.ref a_p] (dC, dI) vwCl (gT cI cJ cH) (wHp cI a_p a_words_p a_roots_p a_heads_p a_marks_p a_order_p a_targets_p a_words a_roots a_base a_top a_heads a_objects a_marks a_order a_reached a_targets) sz) (va_Qv (fun (u : ((Nat → Int32) × (Nat → Int32) × (Nat → Int32) × Int32 × (Nat → Int32))) => o = u) (gB (dC, dI) vwCl (gT cI cJ cH) (fun (u : ((Nat → Int32) × (Nat → Int32) × (Nat → Int32) × Int32 × (Nat → Int32))) => wHp cI a_p a_words_p a_roots_p a_heads_p a_marks_p a_order_p a_targets_p u.1 u.2.1 a_base a_top u.2.2.1 u.2.2.2.1 u.2.2.2.2 a_order a_reached a_targets) (va_A (wHp cI a_p a_words_p a_roots_p a_heads_p a_marks_p a_order_p a_targets_p a_words a_roots a_base a_top a_heads a_objects a_marks a_order a_reached a_targets) sz)) (va_A (wHp cI a_p a_words_p a_roots_p a_heads_p a_marks_p a_order_p a_targets_p a_words a_roots a_base a_top a_heads a_objects a_marks a_order a_reached a_targets) sz)) 0 0 (va_A (wHp cI a_p a_words_p a_roots_p a_heads_p a_marks_p a_order_p a_targets_p a_words a_roots a_base a_top a_heads a_objects a_marks a_order a_reached a_targets) sz) := by
  refine g_met (fun A => va_Qv (fun (u : ((Nat → Int32) × (Nat → Int32) × (Nat → Int32) × Int32 × (Nat → Int32))) => o = u) (gB (dC, dI) vwCl (gT cI cJ cH) (fun (u : ((Nat → Int32) × (Nat → Int32) × (Nat → Int32) × Int32 × (Nat → Int32))) => wHp cI a_p a_words_p a_roots_p a_heads_p a_marks_p a_order_p a_targets_p u.1 u.2.1 a_base a_top u.2.2.1 u.2.2.2.1 u.2.2.2.2 a_order a_reached a_targets) A) A) (by decide) rfl (Nat.le_of_ble_eq_true rfl) ?_
  intro p e s m args below meth c A Q F hlocks hr hname hN hQ
  unfold f_X1_resolveReferences at hf
  refine g_lvE (lv' := [(0, .ref a_p)]) rfl ?_
  refine g_aload_n F dX1_resolveReferences_0 rfl 0 rfl ?_
  obtain ⟨o1, ho1, hf⟩ := bnE hf
  refine g_callPi (n := 0) (As := []) F (c_X1_listObjects l dC dI cI cJ cH a_p a_words_p a_roots_p a_heads_p a_marks_p a_order_p a_targets_p a_words a_roots a_base a_top a_heads a_objects a_marks a_order a_reached a_targets o1 ho1) ggX1_resolveReferences_X1_listObjects rfl rfl rfl (by decide +kernel) (by decide +kernel) (by decide +kernel) (by decide +kernel) (by decide +kernel) ⟨Nat.le_of_ble_eq_true rfl, Nat.le_of_ble_eq_true rfl⟩ ⟨Nat.le_of_ble_eq_true rfl, Nat.le_of_ble_eq_true rfl⟩ hN 0 rfl rfl rfl ([]) ([]) rfl (fun _ => rfl) rfl (Nat.le_of_ble_eq_true rfl) rfl dX1_resolveReferences_1 (cells' := 0) (slots' := 0) rfl rfl (fun r u hp => ?_)
  obtain ⟨hp1, hp2⟩ := hp
  subst hp1
  subst hp2
  refine g_ws (ws' := wHp cI a_p a_words_p a_roots_p a_heads_p a_marks_p a_order_p a_targets_p a_words a_roots a_base a_top o1.2.1 o1.2.2.1 o1.2.2.2 a_order a_reached a_targets) rfl ?_
  refine g_pop F dX1_resolveReferences_4 rfl ?_
  refine g_aload_n F dX1_resolveReferences_5 rfl 0 rfl ?_
  refine g_aload_n F dX1_resolveReferences_6 rfl 0 rfl ?_
  refine g_get F h_X1_resolveReferences_1 0 rfl rfl 1 (by decide) (by decide +kernel) rfl dX1_resolveReferences_7 ?_
  refine g_iconst (v := 0) F dX1_resolveReferences_10 rfl ?_
  refine g_iconst (v := 4) F dX1_resolveReferences_11 rfl ?_
  obtain ⟨o2, ho2, hf⟩ := bnE hf
  refine g_callPv (n := 3) (As := [.ref a_roots_p, .int (0 : Int32), .int (4 : Int32)]) F (c_X1_resolveAll_roots l dC dI cI cJ cH a_p a_words_p a_roots_p a_heads_p a_marks_p a_order_p a_targets_p a_words a_roots a_base a_top o1.2.1 o1.2.2.1 o1.2.2.2 a_order a_reached a_targets (0 : Int32) (4 : Int32) o2 ho2) ggX1_resolveReferences_X1_resolveAll rfl rfl rfl (by decide +kernel) (by decide +kernel) (by decide +kernel) (by decide +kernel) (by decide +kernel) ⟨Nat.le_of_ble_eq_true rfl, Nat.le_of_ble_eq_true rfl⟩ ⟨Nat.le_of_ble_eq_true rfl, Nat.le_of_ble_eq_true rfl⟩ hN 0 rfl rfl rfl ([]) ([]) rfl (fun _ => rfl) rfl (Nat.le_of_ble_eq_true rfl) rfl dX1_resolveReferences_12 (cells' := 0) (slots' := 0) rfl rfl (fun u hp => ?_)
  subst hp
  refine g_ws (ws' := wHp cI a_p a_words_p a_roots_p a_heads_p a_marks_p a_order_p a_targets_p a_words o2 a_base a_top o1.2.1 o1.2.2.1 o1.2.2.2 a_order a_reached a_targets) rfl ?_
  refine g_iconst (v := 0) F dX1_resolveReferences_15 rfl ?_
  refine g_istore_n (lv' := [(1, .int (0 : Int32)), (0, .ref a_p)]) F dX1_resolveReferences_16 rfl (by decide) rfl ?_
  obtain ⟨o9, ho9, hf⟩ := bnE hf
  refine g_lv [1, 0] rfl ?_
  refine w_X1_resolveReferences_L17 F hN FU _ _ o9 ho9 ?_
  subst hQ
  exact g_vret F hlocks hr (o9, o2, o1.2.1, o1.2.2.1, o1.2.2.2) rfl (Option.some.inj hf).symm dX1_resolveReferences_61
