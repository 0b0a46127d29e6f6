/-! HeapImages$Heap.dropUnreached()I -/
def rm_X1_dropUnreached : Room := { frames := 3, cells := 0, slots := 0, locals := 75 }
theorem h_X1_dropUnreached_1 : ∀ w ∈ wsX10, w ∈ wsX1_dropUnreached := by decide +kernel
def f_X1_dropUnreached_L8_s (a_words : (Nat → Int32)) (a_heads : (Nat → Int32)) (a_objects : Int32) (a_marks : (Nat → Int32)) (rc : Int32 → Int32 → (Nat → Int32) → Option (Int32 × (Nat → Int32))) (z1 : Int32) (z2 : Int32) (a_targets : (Nat → Int32)) : Option (Int32 × (Nat → Int32)) :=
  if a_objects ≤ z2 then some (z1, a_targets) else ck (inR z2 256) (nm (a_heads z2.toNatClampNeg) fun v3 => ck (inR v3 256) (ck (inR v3 256) (if (a_marks v3.toNatClampNeg) = (-1 : Int32) then nm (z2 + (1 : Int32)) fun v6 => rc z1 v6 (upd a_targets v3.toNatClampNeg z1) else ck (inR v3 256) (Option.bind (f_X3_slotsOf (a_words v3.toNatClampNeg)) fun o8 => nm (z1 + ((1 : Int32) + o8)) fun v9 => nm (z2 + (1 : Int32)) fun v10 => rc v9 v10 (upd a_targets v3.toNatClampNeg z1)))))
def f_X1_dropUnreached_L8 (a_words : (Nat → Int32)) (a_heads : (Nat → Int32)) (a_objects : Int32) (a_marks : (Nat → Int32)) : Nat → Int32 → Int32 → (Nat → Int32) → Option (Int32 × (Nat → Int32))
  | 0, _, _, _ => none
  | n + 1, z1, z2, a_targets => f_X1_dropUnreached_L8_s a_words a_heads a_objects a_marks (f_X1_dropUnreached_L8 a_words a_heads a_objects a_marks n) z1 z2 a_targets
set_option maxHeartbeats 4000000 in
theorem w_X1_dropUnreached_L8 {p : Program} {l : Launch} {e : Env} {s : State} {m : MethodId} {args : Array Value} {below : List Frame} {meth : Method} {c : Code} {A : Nat → Prop} {Q : State → Prop} {dC : Nat → ClassId} {dI : Nat → Nat → Nat} {cI cJ cH : ClassId} {a_p a_words_p a_roots_p a_heads_p a_marks_p a_order_p a_targets_p : Nat} {a_words : (Nat → Int32)} {a_roots : (Nat → Int32)} {a_base : Int32} {a_top : Int32} {a_heads : (Nat → Int32)} {a_objects : Int32} {a_marks : (Nat → Int32)} {a_order : (Nat → Int32)} {a_reached : Int32}  (F : gF p m c cX1_dropUnreached 4 s args wsX1_dropUnreached yX1_dropUnreached.cls (dC, dI) vwCl (gT cI cJ cH) A) (hN : ∀ w ∈ gN, va_Nw w s) : ∀ (n : Nat) (z1 : Int32) (z2 : Int32) (a_targets : (Nat → Int32)) (o : (Int32 × (Nat → Int32))), f_X1_dropUnreached_L8 a_words a_heads a_objects a_marks n z1 z2 a_targets = some o → (gW p l e rm_X1_dropUnreached s m args below meth c 0 0 Q (dC, dI) vwCl A 4 (wHp cI a_p a_words_p a_roots_p a_heads_p a_marks_p a_order_p a_targets_p a_words a_roots a_base a_top a_heads a_objects a_marks a_order a_reached o.2) [(0, .ref a_p), (1, .int o.1)] 60 []) → gW p l e rm_X1_dropUnreached s m args below meth c 0 0 Q (dC, dI) vwCl A 4 (wHp cI a_p a_words_p a_roots_p a_heads_p a_marks_p a_order_p a_targets_p a_words a_roots a_base a_top a_heads a_objects a_marks a_order a_reached a_targets) [(0, .ref a_p), (1, .int z1), (2, .int z2)] 8 [] := by
  intro n
  induction n with
  | zero =>
    intro z1 z2 a_targets o hf E0
    change none = some o at hf
    cases hf
  | succ n ih =>
    intro z1 z2 a_targets o hf E0
    change f_X1_dropUnreached_L8_s a_words a_heads a_objects a_marks (f_X1_dropUnreached_L8 a_words a_heads a_objects a_marks n) z1 z2 a_targets = some o at hf
    unfold f_X1_dropUnreached_L8_s at hf
    refine g_iload_n F dX1_dropUnreached_8 rfl 2 rfl ?_
    refine g_aload_n F dX1_dropUnreached_9 rfl 0 rfl ?_
    refine g_get F h_X1_dropUnreached_1 0 rfl rfl 5 (by decide) (by decide +kernel) rfl dX1_dropUnreached_10 ?_
    refine g_icmp_ge (tgt := 60) F dX1_dropUnreached_13 (by decide) (fun c13 => ?_) (fun c13 => ?_)
    · have hf := iteT hf c13
      cases hf
      refine g_lv [0, 1] rfl ?_
      exact E0
    · have hf := iteF hf c13
      refine g_aload_n F dX1_dropUnreached_16 rfl 0 rfl ?_
      refine g_get F h_X1_dropUnreached_1 0 rfl rfl 4 (by decide) (by decide +kernel) rfl dX1_dropUnreached_17 ?_
      refine g_iload_n F dX1_dropUnreached_20 rfl 2 rfl ?_
      obtain ⟨h2, hf⟩ := ckE hf
      refine g_iald F 3 0 rfl rfl h2 dX1_dropUnreached_21 ?_
      obtain ⟨v3, ev3, hf⟩ := nmE hf
      refine g_nmi ev3 ?_
      refine g_istore_n (lv' := [(3, .int v3), (0, .ref a_p), (1, .int z1), (2, .int z2)]) F dX1_dropUnreached_22 rfl (by decide) rfl ?_
      refine g_aload_n F dX1_dropUnreached_23 rfl 1 rfl ?_
      refine g_get F h_X1_dropUnreached_1 0 rfl rfl 9 (by decide) (by decide +kernel) rfl dX1_dropUnreached_24 ?_
      refine g_iload_n F dX1_dropUnreached_27 rfl 0 rfl ?_
      refine g_iload_n F dX1_dropUnreached_28 rfl 2 rfl ?_
      obtain ⟨h4, hf⟩ := ckE hf
      refine g_iast F 6 0 rfl rfl h4 dX1_dropUnreached_29 (ws' := wHp cI a_p a_words_p a_roots_p a_heads_p a_marks_p a_order_p a_targets_p a_words a_roots a_base a_top a_heads a_objects a_marks a_order a_reached (upd a_targets v3.toNatClampNeg z1)) rfl ?_
      refine g_aload_n F dX1_dropUnreached_30 rfl 1 rfl ?_
      refine g_get F h_X1_dropUnreached_1 0 rfl rfl 6 (by decide) (by decide +kernel) rfl dX1_dropUnreached_31 ?_
      refine g_iload_n F dX1_dropUnreached_34 rfl 0 rfl ?_
      obtain ⟨h5, hf⟩ := ckE hf
      refine g_iald F 4 0 rfl rfl h5 dX1_dropUnreached_35 ?_
      refine g_iconst (v := -1) F dX1_dropUnreached_36 rfl ?_
      refine g_icmp_eq (tgt := 54) F dX1_dropUnreached_37 (by decide) (fun c37 => ?_) (fun c37 => ?_)
      · have hf := iteT hf c37
        obtain ⟨v6, ev6, hf⟩ := nmE hf
        refine g_iinc (j := 3) (lv' := [(2, .int v6), (3, .int v3), (0, .ref a_p), (1, .int z1)]) F dX1_dropUnreached_54 rfl ev6.symm (by decide) rfl ?_
        refine g_goto (tgt := 8) F dX1_dropUnreached_57 (by decide) ?_
        refine g_lv [2, 3, 0] rfl ?_
        exact ih _ _ _ o hf E0
      · have hf := iteF hf c37
        refine g_iload_n F dX1_dropUnreached_40 rfl 2 rfl ?_
        refine g_iconst (v := 1) F dX1_dropUnreached_41 rfl ?_
        refine g_aload_n F dX1_dropUnreached_42 rfl 1 rfl ?_
        refine g_get F h_X1_dropUnreached_1 0 rfl rfl 0 (by decide) (by decide +kernel) rfl dX1_dropUnreached_43 ?_
        refine g_iload_n F dX1_dropUnreached_46 rfl 0 rfl ?_
        obtain ⟨h7, hf⟩ := ckE hf
        refine g_iald F 1 0 rfl rfl h7 dX1_dropUnreached_47 ?_
        obtain ⟨o8, ho8, hf⟩ := bnE hf
        refine g_callNi (host := "HeapImages") (n := 1) (As := [.int (a_words v3.toNatClampNeg)]) F (c_X3_slotsOf l dC dI cI cJ cH (a_words v3.toNatClampNeg) o8 ho8) ggX1_dropUnreached_X3_slotsOf rfl rfl rfl (by decide +kernel) (hN _ (by decide +kernel)) (by decide +kernel) (by decide +kernel) ⟨Nat.le_of_ble_eq_true rfl, Nat.le_of_ble_eq_true rfl⟩ ⟨Nat.le_of_ble_eq_true rfl, Nat.le_of_ble_eq_true rfl⟩ hN [] rfl rfl (fun _ => rfl) rfl (Nat.le_of_ble_eq_true rfl) rfl dX1_dropUnreached_48 (cells' := 0) (slots' := 0) rfl rfl (fun r u hp => ?_)
        subst hp
        refine g_ws (ws' := wHp cI a_p a_words_p a_roots_p a_heads_p a_marks_p a_order_p a_targets_p a_words a_roots a_base a_top a_heads a_objects a_marks a_order a_reached (upd a_targets v3.toNatClampNeg z1)) rfl ?_
        refine g_iadd F dX1_dropUnreached_51 ?_
        refine g_iadd F dX1_dropUnreached_52 ?_
        obtain ⟨v9, ev9, hf⟩ := nmE hf
        refine g_nmi ev9 ?_
        refine g_istore_n (lv' := [(1, .int v9), (3, .int v3), (0, .ref a_p), (2, .int z2)]) F dX1_dropUnreached_53 rfl (by decide) rfl ?_
        obtain ⟨v10, ev10, hf⟩ := nmE hf
        refine g_iinc (j := 3) (lv' := [(2, .int v10), (1, .int v9), (3, .int v3), (0, .ref a_p)]) F dX1_dropUnreached_54 rfl ev10.symm (by decide) rfl ?_
        refine g_goto (tgt := 8) F dX1_dropUnreached_57 (by decide) ?_
        refine g_lv [3, 1, 0] rfl ?_
        exact ih _ _ _ o hf E0
def f_X1_dropUnreached_L75_s (y1 : Int32) (rc : Int32 → (Nat → Int32) → Option (Nat → Int32)) (z2 : Int32) (a_words : (Nat → Int32)) : Option (Nat → Int32) :=
  if (256 : Int32) ≤ z2 then some a_words else ck (inR z2 256) (nm (z2 + (1 : Int32)) fun v15 => rc v15 (upd a_words z2.toNatClampNeg (0 : Int32)))
def f_X1_dropUnreached_L75 (y1 : Int32) : Nat → Int32 → (Nat → Int32) → Option (Nat → Int32)
  | 0, _, _ => none
  | n + 1, z2, a_words => f_X1_dropUnreached_L75_s y1 (f_X1_dropUnreached_L75 y1 n) z2 a_words
set_option maxHeartbeats 4000000 in
theorem w_X1_dropUnreached_L75 {p : Program} {l : Launch} {e : Env} {s : State} {m : MethodId} {args : Array Value} {below : List Frame} {meth : Method} {c : Code} {A : Nat → Prop} {Q : State → Prop} {dC : Nat → ClassId} {dI : Nat → Nat → Nat} {cI cJ cH : ClassId} {a_p a_words_p a_roots_p a_heads_p a_marks_p a_order_p a_targets_p : Nat} {a_roots : (Nat → Int32)} {a_base : Int32} {a_top : Int32} {a_heads : (Nat → Int32)} {a_objects : Int32} {a_marks : (Nat → Int32)} {a_order : (Nat → Int32)} {a_reached : Int32} {a_targets : (Nat → Int32)} {y1 : Int32} (F : gF p m c cX1_dropUnreached 4 s args wsX1_dropUnreached yX1_dropUnreached.cls (dC, dI) vwCl (gT cI cJ cH) A) (hN : ∀ w ∈ gN, va_Nw w s) : ∀ (n : Nat) (z2 : Int32) (a_words : (Nat → Int32)) (o : (Nat → Int32)), f_X1_dropUnreached_L75 y1 n z2 a_words = some o → (gW p l e rm_X1_dropUnreached s m args below meth c 0 0 Q (dC, dI) vwCl A 4 (wHp cI a_p a_words_p a_roots_p a_heads_p a_marks_p a_order_p a_targets_p o a_roots a_base a_top a_heads a_objects a_marks a_order a_reached a_targets) [(0, .ref a_p), (1, .int y1)] 95 []) → gW p l e rm_X1_dropUnreached s m args below meth c 0 0 Q (dC, dI) vwCl A 4 (wHp cI a_p a_words_p a_roots_p a_heads_p a_marks_p a_order_p a_targets_p a_words a_roots a_base a_top a_heads a_objects a_marks a_order a_reached a_targets) [(0, .ref a_p), (1, .int y1), (2, .int z2)] 75 [] := by
  intro n
  induction n with
  | zero =>
    intro z2 a_words o hf E0
    change none = some o at hf
    cases hf
  | succ n ih =>
    intro z2 a_words o hf E0
    change f_X1_dropUnreached_L75_s y1 (f_X1_dropUnreached_L75 y1 n) z2 a_words = some o at hf
    unfold f_X1_dropUnreached_L75_s at hf
    refine g_iload_n F dX1_dropUnreached_75 rfl 2 rfl ?_
    refine g_sipush (v := 256) F dX1_dropUnreached_76 rfl ?_
    refine g_icmp_ge (tgt := 95) F dX1_dropUnreached_79 (by decide) (fun c79 => ?_) (fun c79 => ?_)
    · have hf := iteT hf c79
      cases hf
      refine g_lv [0, 1] rfl ?_
      exact E0
    · have hf := iteF hf c79
      refine g_aload_n F dX1_dropUnreached_82 rfl 0 rfl ?_
      refine g_get F h_X1_dropUnreached_1 0 rfl rfl 0 (by decide) (by decide +kernel) rfl dX1_dropUnreached_83 ?_
      refine g_iload_n F dX1_dropUnreached_86 rfl 2 rfl ?_
      refine g_iconst (v := 0) F dX1_dropUnreached_87 rfl ?_
      obtain ⟨h14, hf⟩ := ckE hf
      refine g_iast F 1 0 rfl rfl h14 dX1_dropUnreached_88 (ws' := wHp cI a_p a_words_p a_roots_p a_heads_p a_marks_p a_order_p a_targets_p (upd a_words z2.toNatClampNeg (0 : Int32)) a_roots a_base a_top a_heads a_objects a_marks a_order a_reached a_targets) rfl ?_
      obtain ⟨v15, ev15, hf⟩ := nmE hf
      refine g_iinc (j := 2) (lv' := [(2, .int v15), (0, .ref a_p), (1, .int y1)]) F dX1_dropUnreached_89 rfl ev15.symm (by decide) rfl ?_
      refine g_goto (tgt := 75) F dX1_dropUnreached_92 (by decide) ?_
      refine g_lv [1, 2, 0] rfl ?_
      exact ih _ _ o hf E0
def f_X1_dropUnreached (a_words : (Nat → Int32)) (a_roots : (Nat → Int32)) (a_base : Int32) (a_top : Int32) (a_heads : (Nat → Int32)) (a_objects : Int32) (a_marks : (Nat → Int32)) (a_order : (Nat → Int32)) (a_reached : Int32) (a_targets : (Nat → Int32)) : Option (Int32 × (Nat → Int32) × (Nat → Int32) × Int32 × Int32 × (Nat → Int32) × (Nat → Int32) × Int32 × (Nat → Int32)) :=
  Option.bind (f_X1_findOrder a_words a_roots a_base a_marks a_order a_reached) fun o1 => Option.bind (f_X1_dropUnreached_L8 a_words a_heads a_objects o1.1 FU (0 : Int32) (0 : Int32) a_targets) fun o11 => Option.bind (f_X1_redirect a_words a_roots a_base a_heads a_objects o1.1 o11.2 a_base) fun o12 => Option.bind (f_X1_slideToTargets o12.2.1 a_heads a_objects o1.1 o11.2) fun o13 => Option.bind (f_X1_dropUnreached_L75 o11.1 FU o11.1 o13) fun o16 => nm (a_top - o11.1) fun v17 => some (v17, o16, o12.2.2.1, o12.2.2.2, o11.1, o1.1, o1.2.1, o1.2.2, o11.2)
set_option maxHeartbeats 4000000 in
set_option maxRecDepth 100000 in
theorem c_X1_dropUnreached (l : Launch) (dC : Nat → ClassId) (dI : Nat → Nat → Nat) (cI cJ cH : ClassId) (a_p a_words_p a_roots_p a_heads_p a_marks_p a_order_p a_targets_p : Nat)  (a_words : (Nat → Int32)) (a_roots : (Nat → Int32)) (a_base : Int32) (a_top : Int32) (a_heads : (Nat → Int32)) (a_objects : Int32) (a_marks : (Nat → Int32)) (a_order : (Nat → Int32)) (a_reached : Int32) (a_targets : (Nat → Int32))  (o : (Int32 × (Nat → Int32) × (Nat → Int32) × Int32 × Int32 × (Nat → Int32) × (Nat → Int32) × Int32 × (Nat → Int32))) (hf : f_X1_dropUnreached a_words a_roots a_base a_top a_heads a_objects a_marks a_order a_reached a_targets = some o) : ∀ sz : Nat, Met l yX1_dropUnreached wsX1_dropUnreached rm_X1_dropUnreached (gPre [.ref a_p] (dC, dI) vwCl (gT cI cJ cH) (wHp cI a_p a_words_p a_roots_p a_heads_p a_marks_p a_order_p a_targets_p a_words a_roots a_base a_top a_heads a_objects a_marks a_order a_reached a_targets) sz) (va_Qi (fun (r : Int32) (u : ((Nat → Int32) × (Nat → Int32) × Int32 × Int32 × (Nat → Int32) × (Nat → Int32) × Int32 × (Nat → Int32))) => o.1 = r ∧ o.2 = u) (gB (dC, dI) vwCl (gT cI cJ cH) (fun (u : ((Nat → Int32) × (Nat → Int32) × Int32 × Int32 × (Nat → Int32) × (Nat → Int32) × Int32 × (Nat → Int32))) => wHp cI a_p a_words_p a_roots_p a_heads_p a_marks_p a_order_p a_targets_p u.1 u.2.1 u.2.2.1 u.2.2.2.1 a_heads a_objects u.2.2.2.2.1 u.2.2.2.2.2.1 u.2.2.2.2.2.2.1 u.2.2.2.2.2.2.2) (va_A (wHp cI a_p a_words_p a_roots_p a_heads_p a_marks_p a_order_p a_targets_p a_words a_roots a_base a_top a_heads a_objects a_marks a_order a_reached a_targets) sz)) (va_A (wHp cI a_p a_words_p a_roots_p a_heads_p a_marks_p a_order_p a_targets_p a_words a_roots a_base a_top a_heads a_objects a_marks a_order a_reached a_targets) sz)) 0 0 (va_A (wHp cI a_p a_words_p a_roots_p a_heads_p a_marks_p a_order_p a_targets_p a_words a_roots a_base a_top a_heads a_objects a_marks a_order a_reached a_targets) sz) := by
  refine g_met (fun A => va_Qi (fun (r : Int32) (u : ((Nat → Int32) × (Nat → Int32) × Int32 × Int32 × (Nat → Int32) × (Nat → Int32) × Int32 × (Nat → Int32))) => o.1 = r ∧ o.2 = u) (gB (dC, dI) vwCl (gT cI cJ cH) (fun (u : ((Nat → Int32) × (Nat → Int32) × Int32 × Int32 × (Nat → Int32) × (Nat → Int32) × Int32 × (Nat → Int32))) => wHp cI a_p a_words_p a_roots_p a_heads_p a_marks_p a_order_p a_targets_p u.1 u.2.1 u.2.2.1 u.2.2.2.1 a_heads a_objects u.2.2.2.2.1 u.2.2.2.2.2.1 u.2.2.2.2.2.2.1 u.2.2.2.2.2.2.2) A) A) (by decide) rfl (Nat.le_of_ble_eq_true rfl) ?_
  intro p e s m args below meth c A Q F hlocks hr hname hN hQ
  unfold f_X1_dropUnreached at hf
  refine g_lvE (lv' := [(0, .ref a_p)]) rfl ?_
  refine g_aload_n F dX1_dropUnreached_0 rfl 0 rfl ?_
  obtain ⟨o1, ho1, hf⟩ := bnE hf
  refine g_callPv (n := 0) (As := []) F (c_X1_findOrder l dC dI cI cJ cH a_p a_words_p a_roots_p a_heads_p a_marks_p a_order_p a_targets_p a_words a_roots a_base a_top a_heads a_objects a_marks a_order a_reached a_targets o1 ho1) ggX1_dropUnreached_X1_findOrder rfl rfl rfl (by decide +kernel) (by decide +kernel) (by decide +kernel) (by decide +kernel) (by decide +kernel) ⟨Nat.le_of_ble_eq_true rfl, Nat.le_of_ble_eq_true rfl⟩ ⟨Nat.le_of_ble_eq_true rfl, Nat.le_of_ble_eq_true rfl⟩ hN 0 rfl rfl rfl ([]) ([]) rfl (fun _ => rfl) rfl (Nat.le_of_ble_eq_true rfl) rfl dX1_dropUnreached_1 (cells' := 0) (slots' := 0) rfl rfl (fun u hp => ?_)
  subst hp
  refine g_ws (ws' := wHp cI a_p a_words_p a_roots_p a_heads_p a_marks_p a_order_p a_targets_p a_words a_roots a_base a_top a_heads a_objects o1.1 o1.2.1 o1.2.2 a_targets) rfl ?_
  refine g_iconst (v := 0) F dX1_dropUnreached_4 rfl ?_
  refine g_istore_n (lv' := [(1, .int (0 : Int32)), (0, .ref a_p)]) F dX1_dropUnreached_5 rfl (by decide) rfl ?_
  refine g_iconst (v := 0) F dX1_dropUnreached_6 rfl ?_
  refine g_istore_n (lv' := [(2, .int (0 : Int32)), (1, .int (0 : Int32)), (0, .ref a_p)]) F dX1_dropUnreached_7 rfl (by decide) rfl ?_
  obtain ⟨o11, ho11, hf⟩ := bnE hf
  refine g_lv [2, 1, 0] rfl ?_
  refine w_X1_dropUnreached_L8 F hN FU _ _ _ o11 ho11 ?_
  refine g_aload_n F dX1_dropUnreached_60 rfl 0 rfl ?_
  refine g_aload_n F dX1_dropUnreached_61 rfl 0 rfl ?_
  refine g_get F h_X1_dropUnreached_1 0 rfl rfl 2 (by decide) (by decide +kernel) rfl dX1_dropUnreached_62 ?_
  obtain ⟨o12, ho12, hf⟩ := bnE hf
  refine g_callPi (n := 1) (As := [.int a_base]) F (c_X1_redirect l dC dI cI cJ cH a_p a_words_p a_roots_p a_heads_p a_marks_p a_order_p a_targets_p a_words a_roots a_base a_top a_heads a_objects o1.1 o1.2.1 o1.2.2 o11.2 a_base o12 ho12) ggX1_dropUnreached_X1_redirect rfl rfl rfl (by decide +kernel) (by decide +kernel) (by decide +kernel) (by decide +kernel) (by decide +kernel) ⟨Nat.le_of_ble_eq_true rfl, Nat.le_of_ble_eq_true rfl⟩ ⟨Nat.le_of_ble_eq_true rfl, Nat.le_of_ble_eq_true rfl⟩ hN 0 rfl rfl rfl ([]) ([]) rfl (fun _ => rfl) rfl (Nat.le_of_ble_eq_true rfl) rfl dX1_dropUnreached_65 (cells' := 0) (slots' := 0) rfl rfl (fun r u hp => ?_)
  obtain ⟨hp1, hp2⟩ := hp
  subst hp1
  subst hp2
  refine g_ws (ws' := wHp cI a_p a_words_p a_roots_p a_heads_p a_marks_p a_order_p a_targets_p o12.2.1 o12.2.2.1 o12.2.2.2 a_top a_heads a_objects o1.1 o1.2.1 o1.2.2 o11.2) rfl ?_
  refine g_pop F dX1_dropUnreached_68 rfl ?_
  refine g_aload_n F dX1_dropUnreached_69 rfl 0 rfl ?_
  obtain ⟨o13, ho13, hf⟩ := bnE hf
  refine g_callPv (n := 0) (As := []) F (c_X1_slideToTargets l dC dI cI cJ cH a_p a_words_p a_roots_p a_heads_p a_marks_p a_order_p a_targets_p o12.2.1 o12.2.2.1 o12.2.2.2 a_top a_heads a_objects o1.1 o1.2.1 o1.2.2 o11.2 o13 ho13) ggX1_dropUnreached_X1_slideToTargets rfl rfl rfl (by decide +kernel) (by decide +kernel) (by decide +kernel) (by decide +kernel) (by decide +kernel) ⟨Nat.le_of_ble_eq_true rfl, Nat.le_of_ble_eq_true rfl⟩ ⟨Nat.le_of_ble_eq_true rfl, Nat.le_of_ble_eq_true rfl⟩ hN 0 rfl rfl rfl ([]) ([]) rfl (fun _ => rfl) rfl (Nat.le_of_ble_eq_true rfl) rfl dX1_dropUnreached_70 (cells' := 0) (slots' := 0) rfl rfl (fun u hp => ?_)
  subst hp
  refine g_ws (ws' := wHp cI a_p a_words_p a_roots_p a_heads_p a_marks_p a_order_p a_targets_p o13 o12.2.2.1 o12.2.2.2 a_top a_heads a_objects o1.1 o1.2.1 o1.2.2 o11.2) rfl ?_
  refine g_iload_n F dX1_dropUnreached_73 rfl 1 rfl ?_
  refine g_istore_n (lv' := [(2, .int o11.1), (0, .ref a_p), (1, .int o11.1)]) F dX1_dropUnreached_74 rfl (by decide) rfl ?_
  obtain ⟨o16, ho16, hf⟩ := bnE hf
  refine g_lv [1, 2, 0] rfl ?_
  refine w_X1_dropUnreached_L75 F hN FU _ _ o16 ho16 ?_
  refine g_aload_n F dX1_dropUnreached_95 rfl 0 rfl ?_
  refine g_get F h_X1_dropUnreached_1 0 rfl rfl 3 (by decide) (by decide +kernel) rfl dX1_dropUnreached_96 ?_
  refine g_iload_n F dX1_dropUnreached_99 rfl 1 rfl ?_
  refine g_isub F dX1_dropUnreached_100 ?_
  obtain ⟨v17, ev17, hf⟩ := nmE hf
  refine g_nmi ev17 ?_
  refine g_istore_n (lv' := [(2, .int v17), (0, .ref a_p), (1, .int o11.1)]) F dX1_dropUnreached_101 rfl (by decide) rfl ?_
  refine g_aload_n F dX1_dropUnreached_102 rfl 1 rfl ?_
  refine g_iload_n F dX1_dropUnreached_103 rfl 2 rfl ?_
  refine g_put F h_X1_dropUnreached_1 tyX1 tyX1_ok nmX1 0 rfl rfl 3 (by decide) (by decide +kernel) rfl rfl rfl (Nat.le_of_ble_eq_true rfl) dX1_dropUnreached_104 (ws' := wHp cI a_p a_words_p a_roots_p a_heads_p a_marks_p a_order_p a_targets_p o16 o12.2.2.1 o12.2.2.2 o11.1 a_heads a_objects o1.1 o1.2.1 o1.2.2 o11.2) rfl ?_
  refine g_iload_n F dX1_dropUnreached_107 rfl 0 rfl ?_
  subst hQ
  exact g_iret F hlocks hr (o16, o12.2.2.1, o12.2.2.2, o11.1, o1.1, o1.2.1, o1.2.2, o11.2) rfl (pr2 (Option.some.inj hf)) dX1_dropUnreached_108

/-! HeapImages$Heap.countOf(I)J -/
def rm_X1_countOf : Room := { frames := 1, cells := 0, slots := 0, locals := 23 }
theorem h_X1_countOf_1 : ∀ w ∈ wsX10, w ∈ wsX1_countOf := by decide +kernel
def f_X1_countOf (a_base : Int32) (a_marks : (Nat → Int32)) (x1 : Int32) : Option Int64 :=
  Option.bind (f_X3_isNumber x1) fun o1 => if o1 = 0 then Option.bind (f_X1_headOf a_base a_marks x1) fun o2 => if 0 ≤ o2 then ck (inR o2 256) (some (((2 : Int64) * ((a_marks o2.toNatClampNeg).toInt64)) + (2 : Int64))) else some (0 : Int64) else nm ((x1 >>> ((1 : Int32) &&& 31)).toInt64) fun v4 => if (lg_cmp v4 (0 : Int64)) < 0 then some (((4 : Int64) * ((-1 : Int64) - v4)) + (3 : Int64)) else some (((4 : Int64) * v4) + (1 : Int64))
set_option maxHeartbeats 4000000 in
set_option maxRecDepth 100000 in
theorem c_X1_countOf (l : Launch) (dC : Nat → ClassId) (dI : Nat → Nat → Nat) (cI cJ cH : ClassId) (a_p a_words_p a_roots_p a_heads_p a_marks_p a_order_p a_targets_p : Nat)  (a_words : (Nat → Int32)) (a_roots : (Nat → Int32)) (a_base : Int32) (a_top : Int32) (a_heads : (Nat → Int32)) (a_objects : Int32) (a_marks : (Nat → Int32)) (a_order : (Nat → Int32)) (a_reached : Int32) (a_targets : (Nat → Int32)) (x1 : Int32) (o : Int64) (hf : f_X1_countOf a_base a_marks x1 = some o) : ∀ sz : Nat, Met l yX1_countOf wsX1_countOf rm_X1_countOf (gPre [.ref a_p, .int x1] (dC, dI) vwCl (gT cI cJ cH) (wHp cI a_p a_words_p a_roots_p a_heads_p a_marks_p a_order_p a_targets_p a_words a_roots a_base a_top a_heads a_objects a_marks a_order a_reached a_targets) sz) (va_Ql (fun (r : Int64) (u : Unit) => o = r) (gB (dC, dI) vwCl (gT cI cJ cH) (fun (u : Unit) => wHp cI a_p a_words_p a_roots_p a_heads_p a_marks_p a_order_p a_targets_p a_words a_roots a_base a_top a_heads a_objects a_marks a_order a_reached a_targets) (va_A (wHp cI a_p a_words_p a_roots_p a_heads_p a_marks_p a_order_p a_targets_p a_words a_roots a_base a_top a_heads a_objects a_marks a_order a_reached a_targets) sz)) (va_A (wHp cI a_p a_words_p a_roots_p a_heads_p a_marks_p a_order_p a_targets_p a_words a_roots a_base a_top a_heads a_objects a_marks a_order a_reached a_targets) sz)) 0 0 (va_A (wHp cI a_p a_words_p a_roots_p a_heads_p a_marks_p a_order_p a_targets_p a_words a_roots a_base a_top a_heads a_objects a_marks a_order a_reached a_targets) sz) := by
  refine g_met (fun A => va_Ql (fun (r : Int64) (u : Unit) => o = r) (gB (dC, dI) vwCl (gT cI cJ cH) (fun (u : Unit) => wHp cI a_p a_words_p a_roots_p a_heads_p a_marks_p a_order_p a_targets_p a_words a_roots a_base a_top a_heads a_objects a_marks a_order a_reached a_targets) A) A) (by decide) rfl (Nat.le_of_ble_eq_true rfl) ?_
  intro p e s m args below meth c A Q F hlocks hr hname hN hQ
  unfold f_X1_countOf at hf
  refine g_lvE (lv' := [(0, .ref a_p), (1, .int x1)]) rfl ?_
  refine g_iload_n F dX1_countOf_0 rfl 1 rfl ?_
  obtain ⟨o1, ho1, hf⟩ := bnE hf
  refine g_callNi (host := "HeapImages") (n := 1) (As := [.int x1]) F (c_X3_isNumber l dC dI cI cJ cH x1 o1 ho1) ggX1_countOf_X3_isNumber rfl rfl rfl (by decide +kernel) (hN _ (by decide +kernel)) (by decide +kernel) (by decide +kernel) ⟨Nat.le_of_ble_eq_true rfl, Nat.le_of_ble_eq_true rfl⟩ ⟨Nat.le_of_ble_eq_true rfl, Nat.le_of_ble_eq_true rfl⟩ hN [] rfl rfl (fun _ => rfl) rfl (Nat.le_of_ble_eq_true rfl) rfl dX1_countOf_1 (cells' := 0) (slots' := 0) rfl rfl (fun r u hp => ?_)
  subst hp
  refine g_ws (ws' := wHp cI a_p a_words_p a_roots_p a_heads_p a_marks_p a_order_p a_targets_p a_words a_roots a_base a_top a_heads a_objects a_marks a_order a_reached a_targets) rfl ?_
  refine g_if_eq (tgt := 42) F dX1_countOf_4 (by decide) (fun c4 => ?_) (fun c4 => ?_)
  · have hf := iteT hf c4
    refine g_aload_n F dX1_countOf_42 rfl 0 rfl ?_
    refine g_iload_n F dX1_countOf_43 rfl 1 rfl ?_
    obtain ⟨o2, ho2, hf⟩ := bnE hf
    refine g_callPi (n := 1) (As := [.int x1]) F (c_X1_headOf l dC dI cI cJ cH a_p a_words_p a_roots_p a_heads_p a_marks_p a_order_p a_targets_p a_words a_roots a_base a_top a_heads a_objects a_marks a_order a_reached a_targets x1 o2 ho2) ggX1_countOf_X1_headOf rfl rfl rfl (by decide +kernel) (by decide +kernel) (by decide +kernel) (by decide +kernel) (by decide +kernel) ⟨Nat.le_of_ble_eq_true rfl, Nat.le_of_ble_eq_true rfl⟩ ⟨Nat.le_of_ble_eq_true rfl, Nat.le_of_ble_eq_true rfl⟩ hN 0 rfl rfl rfl ([]) ([]) rfl (fun _ => rfl) rfl (Nat.le_of_ble_eq_true rfl) rfl dX1_countOf_44 (cells' := 0) (slots' := 0) rfl rfl (fun r u hp => ?_)
    subst hp
    refine g_ws (ws' := wHp cI a_p a_words_p a_roots_p a_heads_p a_marks_p a_order_p a_targets_p a_words a_roots a_base a_top a_heads a_objects a_marks a_order a_reached a_targets) rfl ?_
    refine g_istore_n (lv' := [(2, .int o2), (0, .ref a_p), (1, .int x1)]) F dX1_countOf_47 rfl (by decide) rfl ?_
    refine g_iload_n F dX1_countOf_48 rfl 0 rfl ?_
    refine g_if_ge (tgt := 56) F dX1_countOf_49 (by decide) (fun c49 => ?_) (fun c49 => ?_)
    · have hf := iteT hf c49
      refine g_ldc2 (v := 2) F (by decide +kernel) dX1_countOf_56 ?_
      refine g_aload_n F dX1_countOf_59 rfl 1 rfl ?_
      refine g_get F h_X1_countOf_1 0 rfl rfl 6 (by decide) (by decide +kernel) rfl dX1_countOf_60 ?_
      refine g_iload_n F dX1_countOf_63 rfl 0 rfl ?_
      obtain ⟨h3, hf⟩ := ckE hf
      refine g_iald F 4 0 rfl rfl h3 dX1_countOf_64 ?_
      refine g_i2l F dX1_countOf_65 ?_
      refine g_lmul F dX1_countOf_66 ?_
      refine g_ldc2 (v := 2) F (by decide +kernel) dX1_countOf_67 ?_
      refine g_ladd F dX1_countOf_70 ?_
      subst hQ
      exact g_lret F hlocks hr () rfl (Option.some.inj hf).symm dX1_countOf_71
    · have hf := iteF hf c49
      refine g_lconst (v := 0) F dX1_countOf_52 rfl ?_
      refine g_goto (tgt := 71) F dX1_countOf_53 (by decide) ?_
      subst hQ
      exact g_lret F hlocks hr () rfl (Option.some.inj hf).symm dX1_countOf_71
  · have hf := iteF hf c4
    refine g_iload_n F dX1_countOf_7 rfl 1 rfl ?_
    refine g_iconst (v := 1) F dX1_countOf_8 rfl ?_
    refine g_ishr F dX1_countOf_9 ?_
    refine g_i2l F dX1_countOf_10 ?_
    obtain ⟨v4, ev4, hf⟩ := nmE hf
    refine g_nml ev4 ?_
    refine g_lstore_n (lv' := [(2, .long v4), (0, .ref a_p), (1, .int x1)]) F dX1_countOf_11 rfl (by decide) rfl ?_
    refine g_lload_n F dX1_countOf_12 rfl 0 rfl ?_
    refine g_lconst (v := 0) F dX1_countOf_13 rfl ?_
    refine g_lcmp F dX1_countOf_14 ?_
    refine g_if_lt (tgt := 28) F dX1_countOf_15 (by decide) (fun c15 => ?_) (fun c15 => ?_)
    · have hf := iteT hf c15
      refine g_ldc2 (v := 4) F (by decide +kernel) dX1_countOf_28 ?_
      refine g_ldc2 (v := -1) F (by decide +kernel) dX1_countOf_31 ?_
      refine g_lload_n F dX1_countOf_34 rfl 0 rfl ?_
      refine g_lsub F dX1_countOf_35 ?_
      refine g_lmul F dX1_countOf_36 ?_
      refine g_ldc2 (v := 3) F (by decide +kernel) dX1_countOf_37 ?_
      refine g_ladd F dX1_countOf_40 ?_
      subst hQ
      exact g_lret F hlocks hr () rfl (Option.some.inj hf).symm dX1_countOf_41
    · have hf := iteF hf c15
      refine g_ldc2 (v := 4) F (by decide +kernel) dX1_countOf_18 ?_
      refine g_lload_n F dX1_countOf_21 rfl 0 rfl ?_
      refine g_lmul F dX1_countOf_22 ?_
      refine g_lconst (v := 1) F dX1_countOf_23 rfl ?_
      refine g_ladd F dX1_countOf_24 ?_
      refine g_goto (tgt := 41) F dX1_countOf_25 (by decide) ?_
      subst hQ
      exact g_lret F hlocks hr () rfl (Option.some.inj hf).symm dX1_countOf_41

/-! HeapImages$Heap.writeValues(LHeapImages$Bytes;[III)V -/
def rm_X1_writeValues_roots : Room := { frames := 2, cells := 0, slots := 0, locals := 46 }
def f_X1_writeValues_roots_L3_s (a_roots : (Nat → Int32)) (a_base : Int32) (a_marks : (Nat → Int32)) (y3 : Int32) (y4 : Int32) (rc : Int32 → (Nat → Int32) → Int32 → Option ((Nat → Int32) × Int32)) (z5 : Int32) (b_row : (Nat → Int32)) (b_size : Int32) : Option ((Nat → Int32) × Int32) :=
  if (y3 + y4) ≤ z5 then some (b_row, b_size) else ck (inR z5 4) (Option.bind (f_X1_countOf a_base a_marks (a_roots z5.toNatClampNeg)) fun o2 => Option.bind (f_X0_addCount b_row b_size o2) fun o3 => nm (z5 + (1 : Int32)) fun v4 => rc v4 o3.1 o3.2)
def f_X1_writeValues_roots_L3 (a_roots : (Nat → Int32)) (a_base : Int32) (a_marks : (Nat → Int32)) (y3 : Int32) (y4 : Int32) : Nat → Int32 → (Nat → Int32) → Int32 → Option ((Nat → Int32) × Int32)
  | 0, _, _, _ => none
  | n + 1, z5, b_row, b_size => f_X1_writeValues_roots_L3_s a_roots a_base a_marks y3 y4 (f_X1_writeValues_roots_L3 a_roots a_base a_marks y3 y4 n) z5 b_row b_size
set_option maxHeartbeats 4000000 in
theorem w_X1_writeValues_roots_L3 {p : Program} {l : Launch} {e : Env} {s : State} {m : MethodId} {args : Array Value} {below : List Frame} {meth : Method} {c : Code} {A : Nat → Prop} {Q : State → Prop} {dC : Nat → ClassId} {dI : Nat → Nat → Nat} {cI cJ cH : ClassId} {a_p a_words_p a_roots_p a_heads_p a_marks_p a_order_p a_targets_p b_p b_row_p : Nat} {a_words : (Nat → Int32)} {a_roots : (Nat → Int32)} {a_base : Int32} {a_top : Int32} {a_heads : (Nat → Int32)} {a_objects : Int32} {a_marks : (Nat → Int32)} {a_order : (Nat → Int32)} {a_reached : Int32} {a_targets : (Nat → Int32)} {y3 : Int32} {y4 : Int32} (F : gF p m c cX1_writeValues 6 s args wsX1_writeValues yX1_writeValues.cls (dC, dI) vwCl (gT cI cJ cH) A) (hN : ∀ w ∈ gN, va_Nw w s) : ∀ (n : Nat) (z5 : Int32) (b_row : (Nat → Int32)) (b_size : Int32) (o : ((Nat → Int32) × Int32)), f_X1_writeValues_roots_L3 a_roots a_base a_marks y3 y4 n z5 b_row b_size = some o → (gW p l e rm_X1_writeValues_roots s m args below meth c 0 0 Q (dC, dI) vwCl A 6 (wHp cI a_p a_words_p a_roots_p a_heads_p a_marks_p a_order_p a_targets_p a_words a_roots a_base a_top a_heads a_objects a_marks a_order a_reached a_targets ++ wBy cI b_p b_row_p o.1 o.2) [] 30 []) → gW p l e rm_X1_writeValues_roots s m args below meth c 0 0 Q (dC, dI) vwCl A 6 (wHp cI a_p a_words_p a_roots_p a_heads_p a_marks_p a_order_p a_targets_p a_words a_roots a_base a_top a_heads a_objects a_marks a_order a_reached a_targets ++ wBy cI b_p b_row_p b_row b_size) [(0, .ref a_p), (1, .ref b_p), (2, .ref a_roots_p), (3, .int y3), (4, .int y4), (5, .int z5)] 3 [] := by
  intro n
  induction n with
  | zero =>
    intro z5 b_row b_size o hf E0
    change none = some o at hf
    cases hf
  | succ n ih =>
    intro z5 b_row b_size o hf E0
    change f_X1_writeValues_roots_L3_s a_roots a_base a_marks y3 y4 (f_X1_writeValues_roots_L3 a_roots a_base a_marks y3 y4 n) z5 b_row b_size = some o at hf
    unfold f_X1_writeValues_roots_L3_s at hf
    refine g_iload F dX1_writeValues_3 5 rfl ?_
    refine g_iload_n F dX1_writeValues_5 rfl 3 rfl ?_
    refine g_iload F dX1_writeValues_6 4 rfl ?_
    refine g_iadd F dX1_writeValues_8 ?_
    refine g_icmp_ge (tgt := 30) F dX1_writeValues_9 (by decide) (fun c9 => ?_) (fun c9 => ?_)
    · have hf := iteT hf c9
      cases hf
      refine g_lv [] rfl ?_
      exact E0
    · have hf := iteF hf c9
      refine g_aload_n F dX1_writeValues_12 rfl 1 rfl ?_
      refine g_aload_n F dX1_writeValues_13 rfl 0 rfl ?_
      refine g_aload_n F dX1_writeValues_14 rfl 2 rfl ?_
      refine g_iload F dX1_writeValues_15 5 rfl ?_
      obtain ⟨h1, hf⟩ := ckE hf
      refine g_iald F 2 0 rfl rfl h1 dX1_writeValues_17 ?_
      obtain ⟨o2, ho2, hf⟩ := bnE hf
      refine g_callVl (n := 1) (As := [.int (a_roots z5.toNatClampNeg)]) F (c_X1_countOf l dC dI cI cJ cH a_p a_words_p a_roots_p a_heads_p a_marks_p a_order_p a_targets_p a_words a_roots a_base a_top a_heads a_objects a_marks a_order a_reached a_targets (a_roots z5.toNatClampNeg) o2 ho2) ggX1_writeValues_X1_countOf rfl rfl rfl (by decide +kernel) (by decide +kernel) (by decide +kernel) (by decide +kernel) (by decide +kernel) ⟨Nat.le_of_ble_eq_true rfl, Nat.le_of_ble_eq_true rfl⟩ ⟨Nat.le_of_ble_eq_true rfl, Nat.le_of_ble_eq_true rfl⟩ hN 0 rfl rfl rfl [0, 1, 2, 3, 4, 5, 6] rfl rfl (fun _ => rfl) rfl (Nat.le_of_ble_eq_true rfl) rfl dX1_writeValues_18 (cells' := 0) (slots' := 0) rfl rfl (fun r u hp => ?_)
      subst hp
      refine g_ws (ws' := wHp cI a_p a_words_p a_roots_p a_heads_p a_marks_p a_order_p a_targets_p a_words a_roots a_base a_top a_heads a_objects a_marks a_order a_reached a_targets ++ wBy cI b_p b_row_p b_row b_size) rfl ?_
      obtain ⟨o3, ho3, hf⟩ := bnE hf
      refine g_callPv (n := 1) (As := [.long o2]) F (c_X0_addCount l dC dI cI cJ cH b_p b_row_p b_row b_size o2 o3 ho3) ggX1_writeValues_X0_addCount rfl rfl rfl (by decide +kernel) (by decide +kernel) (by decide +kernel) (by decide +kernel) (by decide +kernel) ⟨Nat.le_of_ble_eq_true rfl, Nat.le_of_ble_eq_true rfl⟩ ⟨Nat.le_of_ble_eq_true rfl, Nat.le_of_ble_eq_true rfl⟩ hN 7 rfl rfl rfl (wHp cI a_p a_words_p a_roots_p a_heads_p a_marks_p a_order_p a_targets_p a_words a_roots a_base a_top a_heads a_objects a_marks a_order a_reached a_targets) ([]) rfl (fun _ => rfl) rfl (Nat.le_of_ble_eq_true rfl) rfl dX1_writeValues_21 (cells' := 0) (slots' := 0) rfl rfl (fun u hp => ?_)
      subst hp
      refine g_ws (ws' := wHp cI a_p a_words_p a_roots_p a_heads_p a_marks_p a_order_p a_targets_p a_words a_roots a_base a_top a_heads a_objects a_marks a_order a_reached a_targets ++ wBy cI b_p b_row_p o3.1 o3.2) rfl ?_
      obtain ⟨v4, ev4, hf⟩ := nmE hf
      refine g_iinc (j := 5) (lv' := [(5, .int v4), (0, .ref a_p), (1, .ref b_p), (2, .ref a_roots_p), (3, .int y3), (4, .int y4)]) F dX1_writeValues_24 rfl ev4.symm (by decide) rfl ?_
      refine g_goto (tgt := 3) F dX1_writeValues_27 (by decide) ?_
      refine g_lv [1, 2, 3, 4, 5, 0] rfl ?_
      exact ih _ _ _ o hf E0
def f_X1_writeValues_roots (a_roots : (Nat → Int32)) (a_base : Int32) (a_marks : (Nat → Int32)) (b_row : (Nat → Int32)) (b_size : Int32) (x3 : Int32) (x4 : Int32) : Option ((Nat → Int32) × Int32) :=
  Option.bind (f_X1_writeValues_roots_L3 a_roots a_base a_marks x3 x4 FU x3 b_row b_size) fun o5 => some (o5.1, o5.2)
set_option maxHeartbeats 4000000 in
set_option maxRecDepth 100000 in
theorem c_X1_writeValues_roots (l : Launch) (dC : Nat → ClassId) (dI : Nat → Nat → Nat) (cI cJ cH : ClassId) (a_p a_words_p a_roots_p a_heads_p a_marks_p a_order_p a_targets_p b_p b_row_p : Nat)  (a_words : (Nat → Int32)) (a_roots : (Nat → Int32)) (a_base : Int32) (a_top : Int32) (a_heads : (Nat → Int32)) (a_objects : Int32) (a_marks : (Nat → Int32)) (a_order : (Nat → Int32)) (a_reached : Int32) (a_targets : (Nat → Int32)) (b_row : (Nat → Int32)) (b_size : Int32) (x3 : Int32) (x4 : Int32) (o : ((Nat → Int32) × Int32)) (hf : f_X1_writeValues_roots a_roots a_base a_marks b_row b_size x3 x4 = some o) : ∀ sz : Nat, Met l yX1_writeValues wsX1_writeValues rm_X1_writeValues_roots (gPre [.ref a_p, .ref b_p, .ref a_roots_p, .int x3, .int x4] (dC, dI) vwCl (gT cI cJ cH) (wHp cI a_p a_words_p a_roots_p a_heads_p a_marks_p a_order_p a_targets_p a_words a_roots a_base a_top a_heads a_objects a_marks a_order a_reached a_targets ++ wBy cI b_p b_row_p b_row b_size) sz) (va_Qv (fun (u : ((Nat → Int32) × Int32)) => o = u) (gB (dC, dI) vwCl (gT cI cJ cH) (fun (u : ((Nat → Int32) × Int32)) => wHp cI a_p a_words_p a_roots_p a_heads_p a_marks_p a_order_p a_targets_p a_words a_roots a_base a_top a_heads a_objects a_marks a_order a_reached a_targets ++ wBy cI b_p b_row_p u.1 u.2) (va_A (wHp cI a_p a_words_p a_roots_p a_heads_p a_marks_p a_order_p a_targets_p a_words a_roots a_base a_top a_heads a_objects a_marks a_order a_reached a_targets ++ wBy cI b_p b_row_p b_row b_size) sz)) (va_A (wHp cI a_p a_words_p a_roots_p a_heads_p a_marks_p a_order_p a_targets_p a_words a_roots a_base a_top a_heads a_objects a_marks a_order a_reached a_targets ++ wBy cI b_p b_row_p b_row b_size) sz)) 0 0 (va_A (wHp cI a_p a_words_p a_roots_p a_heads_p a_marks_p a_order_p a_targets_p a_words a_roots a_base a_top a_heads a_objects a_marks a_order a_reached a_targets ++ wBy cI b_p b_row_p b_row b_size) sz) := by
  refine g_met (fun A => va_Qv (fun (u : ((Nat → Int32) × Int32)) => o = u) (gB (dC, dI) vwCl (gT cI cJ cH) (fun (u : ((Nat → Int32) × Int32)) => wHp cI a_p a_words_p a_roots_p a_heads_p a_marks_p a_order_p a_targets_p a_words a_roots a_base a_top a_heads a_objects a_marks a_order a_reached a_targets ++ wBy cI b_p b_row_p u.1 u.2) A) A) (by decide) rfl (Nat.le_of_ble_eq_true rfl) ?_
  intro p e s m args below meth c A Q F hlocks hr hname hN hQ
  unfold f_X1_writeValues_roots at hf
  refine g_lvE (lv' := [(0, .ref a_p), (1, .ref b_p), (2, .ref a_roots_p), (3, .int x3), (4, .int x4)]) rfl ?_
  refine g_iload_n F dX1_writeValues_0 rfl 3 rfl ?_
  refine g_istore (lv' := [(5, .int x3), (0, .ref a_p), (1, .ref b_p), (2, .ref a_roots_p), (3, .int x3), (4, .int x4)]) F dX1_writeValues_1 (by decide) rfl ?_
  obtain ⟨o5, ho5, hf⟩ := bnE hf
  refine g_lv [1, 2, 3, 4, 5, 0] rfl ?_
  refine w_X1_writeValues_roots_L3 F hN FU _ _ _ o5 ho5 ?_
  subst hQ
  exact g_vret F hlocks hr (o5.1, o5.2) rfl (Option.some.inj hf).symm dX1_writeValues_30

/-! HeapImages$Heap.writeValues(LHeapImages$Bytes;[III)V -/
def rm_X1_writeValues_words : Room := { frames := 2, cells := 0, slots := 0, locals := 46 }
def f_X1_writeValues_words_L3_s (a_words : (Nat → Int32)) (a_base : Int32) (a_marks : (Nat → Int32)) (y3 : Int32) (y4 : Int32) (rc : Int32 → (Nat → Int32) → Int32 → Option ((Nat → Int32) × Int32)) (z5 : Int32) (b_row : (Nat → Int32)) (b_size : Int32) : Option ((Nat → Int32) × Int32) :=
  if (y3 + y4) ≤ z5 then some (b_row, b_size) else ck (inR z5 256) (Option.bind (f_X1_countOf a_base a_marks (a_words z5.toNatClampNeg)) fun o2 => Option.bind (f_X0_addCount b_row b_size o2) fun o3 => nm (z5 + (1 : Int32)) fun v4 => rc v4 o3.1 o3.2)
def f_X1_writeValues_words_L3 (a_words : (Nat → Int32)) (a_base : Int32) (a_marks : (Nat → Int32)) (y3 : Int32) (y4 : Int32) : Nat → Int32 → (Nat → Int32) → Int32 → Option ((Nat → Int32) × Int32)
  | 0, _, _, _ => none
  | n + 1, z5, b_row, b_size => f_X1_writeValues_words_L3_s a_words a_base a_marks y3 y4 (f_X1_writeValues_words_L3 a_words a_base a_marks y3 y4 n) z5 b_row b_size
set_option maxHeartbeats 4000000 in
theorem w_X1_writeValues_words_L3 {p : Program} {l : Launch} {e : Env} {s : State} {m : MethodId} {args : Array Value} {below : List Frame} {meth : Method} {c : Code} {A : Nat → Prop} {Q : State → Prop} {dC : Nat → ClassId} {dI : Nat → Nat → Nat} {cI cJ cH : ClassId} {a_p a_words_p a_roots_p a_heads_p a_marks_p a_order_p a_targets_p b_p b_row_p : Nat} {a_words : (Nat → Int32)} {a_roots : (Nat → Int32)} {a_base : Int32} {a_top : Int32} {a_heads : (Nat → Int32)} {a_objects : Int32} {a_marks : (Nat → Int32)} {a_order : (Nat → Int32)} {a_reached : Int32} {a_targets : (Nat → Int32)} {y3 : Int32} {y4 : Int32} (F : gF p m c cX1_writeValues 6 s args wsX1_writeValues yX1_writeValues.cls (dC, dI) vwCl (gT cI cJ cH) A) (hN : ∀ w ∈ gN, va_Nw w s) : ∀ (n : Nat) (z5 : Int32) (b_row : (Nat → Int32)) (b_size : Int32) (o : ((Nat → Int32) × Int32)), f_X1_writeValues_words_L3 a_words a_base a_marks y3 y4 n z5 b_row b_size = some o → (gW p l e rm_X1_writeValues_words s m args below meth c 0 0 Q (dC, dI) vwCl A 6 (wHp cI a_p a_words_p a_roots_p a_heads_p a_marks_p a_order_p a_targets_p a_words a_roots a_base a_top a_heads a_objects a_marks a_order a_reached a_targets ++ wBy cI b_p b_row_p o.1 o.2) [] 30 []) → gW p l e rm_X1_writeValues_words s m args below meth c 0 0 Q (dC, dI) vwCl A 6 (wHp cI a_p a_words_p a_roots_p a_heads_p a_marks_p a_order_p a_targets_p a_words a_roots a_base a_top a_heads a_objects a_marks a_order a_reached a_targets ++ wBy cI b_p b_row_p b_row b_size) [(0, .ref a_p), (1, .ref b_p), (2, .ref a_words_p), (3, .int y3), (4, .int y4), (5, .int z5)] 3 [] := by
  intro n
  induction n with
  | zero =>
    intro z5 b_row b_size o hf E0
    change none = some o at hf
    cases hf
  | succ n ih =>
    intro z5 b_row b_size o hf E0
    change f_X1_writeValues_words_L3_s a_words a_base a_marks y3 y4 (f_X1_writeValues_words_L3 a_words a_base a_marks y3 y4 n) z5 b_row b_size = some o at hf
    unfold f_X1_writeValues_words_L3_s at hf
    refine g_iload F dX1_writeValues_3 5 rfl ?_
    refine g_iload_n F dX1_writeValues_5 rfl 3 rfl ?_
    refine g_iload F dX1_writeValues_6 4 rfl ?_
    refine g_iadd F dX1_writeValues_8 ?_
    refine g_icmp_ge (tgt := 30) F dX1_writeValues_9 (by decide) (fun c9 => ?_) (fun c9 => ?_)
    · have hf := iteT hf c9
      cases hf
      refine g_lv [] rfl ?_
      exact E0
    · have hf := iteF hf c9
      refine g_aload_n F dX1_writeValues_12 rfl 1 rfl ?_
      refine g_aload_n F dX1_writeValues_13 rfl 0 rfl ?_
      refine g_aload_n F dX1_writeValues_14 rfl 2 rfl ?_
      refine g_iload F dX1_writeValues_15 5 rfl ?_
      obtain ⟨h1, hf⟩ := ckE hf
      refine g_iald F 1 0 rfl rfl h1 dX1_writeValues_17 ?_
      obtain ⟨o2, ho2, hf⟩ := bnE hf
      refine g_callVl (n := 1) (As := [.int (a_words z5.toNatClampNeg)]) F (c_X1_countOf l dC dI cI cJ cH a_p a_words_p a_roots_p a_heads_p a_marks_p a_order_p a_targets_p a_words a_roots a_base a_top a_heads a_objects a_marks a_order a_reached a_targets (a_words z5.toNatClampNeg) o2 ho2) ggX1_writeValues_X1_countOf rfl rfl rfl (by decide +kernel) (by decide +kernel) (by decide +kernel) (by decide +kernel) (by decide +kernel) ⟨Nat.le_of_ble_eq_true rfl, Nat.le_of_ble_eq_true rfl⟩ ⟨Nat.le_of_ble_eq_true rfl, Nat.le_of_ble_eq_true rfl⟩ hN 0 rfl rfl rfl [0, 1, 2, 3, 4, 5, 6] rfl rfl (fun _ => rfl) rfl (Nat.le_of_ble_eq_true rfl) rfl dX1_writeValues_18 (cells' := 0) (slots' := 0) rfl rfl (fun r u hp => ?_)
      subst hp
      refine g_ws (ws' := wHp cI a_p a_words_p a_roots_p a_heads_p a_marks_p a_order_p a_targets_p a_words a_roots a_base a_top a_heads a_objects a_marks a_order a_reached a_targets ++ wBy cI b_p b_row_p b_row b_size) rfl ?_
      obtain ⟨o3, ho3, hf⟩ := bnE hf
      refine g_callPv (n := 1) (As := [.long o2]) F (c_X0_addCount l dC dI cI cJ cH b_p b_row_p b_row b_size o2 o3 ho3) ggX1_writeValues_X0_addCount rfl rfl rfl (by decide +kernel) (by decide +kernel) (by decide +kernel) (by decide +kernel) (by decide +kernel) ⟨Nat.le_of_ble_eq_true rfl, Nat.le_of_ble_eq_true rfl⟩ ⟨Nat.le_of_ble_eq_true rfl, Nat.le_of_ble_eq_true rfl⟩ hN 7 rfl rfl rfl (wHp cI a_p a_words_p a_roots_p a_heads_p a_marks_p a_order_p a_targets_p a_words a_roots a_base a_top a_heads a_objects a_marks a_order a_reached a_targets) ([]) rfl (fun _ => rfl) rfl (Nat.le_of_ble_eq_true rfl) rfl dX1_writeValues_21 (cells' := 0) (slots' := 0) rfl rfl (fun u hp => ?_)
      subst hp
      refine g_ws (ws' := wHp cI a_p a_words_p a_roots_p a_heads_p a_marks_p a_order_p a_targets_p a_words a_roots a_base a_top a_heads a_objects a_marks a_order a_reached a_targets ++ wBy cI b_p b_row_p o3.1 o3.2) rfl ?_
      obtain ⟨v4, ev4, hf⟩ := nmE hf
      refine g_iinc (j := 5) (lv' := [(5, .int v4), (0, .ref a_p), (1, .ref b_p), (2, .ref a_words_p), (3, .int y3), (4, .int y4)]) F dX1_writeValues_24 rfl ev4.symm (by decide) rfl ?_
      refine g_goto (tgt := 3) F dX1_writeValues_27 (by decide) ?_
      refine g_lv [1, 2, 3, 4, 5, 0] rfl ?_
      exact ih _ _ _ o hf E0
def f_X1_writeValues_words (a_words : (Nat → Int32)) (a_base : Int32) (a_marks : (Nat → Int32)) (b_row : (Nat → Int32)) (b_size : Int32) (x3 : Int32) (x4 : Int32) : Option ((Nat → Int32) × Int32) :=
  Option.bind (f_X1_writeValues_words_L3 a_words a_base a_marks x3 x4 FU x3 b_row b_size) fun o5 => some (o5.1, o5.2)
set_option maxHeartbeats 4000000 in
set_option maxRecDepth 100000 in
theorem c_X1_writeValues_words (l : Launch) (dC : Nat → ClassId) (dI : Nat → Nat → Nat) (cI cJ cH : ClassId) (a_p a_words_p a_roots_p a_heads_p a_marks_p a_order_p a_targets_p b_p b_row_p : Nat)  (a_words : (Nat → Int32)) (a_roots : (Nat → Int32)) (a_base : Int32) (a_top : Int32) (a_heads : (Nat → Int32)) (a_objects : Int32) (a_marks : (Nat → Int32)) (a_order : (Nat → Int32)) (a_reached : Int32) (a_targets : (Nat → Int32)) (b_row : (Nat → Int32)) (b_size : Int32) (x3 : Int32) (x4 : Int32) (o : ((Nat → Int32) × Int32)) (hf : f_X1_writeValues_words a_words a_base a_marks b_row b_size x3 x4 = some o) : ∀ sz : Nat, Met l yX1_writeValues wsX1_writeValues rm_X1_writeValues_words (gPre [.ref a_p, .ref b_p, .ref a_words_p, .int x3, .int x4] (dC, dI) vwCl (gT cI cJ cH) (wHp cI a_p a_words_p a_roots_p a_heads_p a_marks_p a_order_p a_targets_p a_words a_roots a_base a_top a_heads a_objects a_marks a_order a_reached a_targets ++ wBy cI b_p b_row_p b_row b_size) sz) (va_Qv (fun (u : ((Nat → Int32) × Int32)) => o = u) (gB (dC, dI) vwCl (gT cI cJ cH) (fun (u : ((Nat → Int32) × Int32)) => wHp cI a_p a_words_p a_roots_p a_heads_p a_marks_p a_order_p a_targets_p a_words a_roots a_base a_top a_heads a_objects a_marks a_order a_reached a_targets ++ wBy cI b_p b_row_p u.1 u.2) (va_A (wHp cI a_p a_words_p a_roots_p a_heads_p a_marks_p a_order_p a_targets_p a_words a_roots a_base a_top a_heads a_objects a_marks a_order a_reached a_targets ++ wBy cI b_p b_row_p b_row b_size) sz)) (va_A (wHp cI a_p a_words_p a_roots_p a_heads_p a_marks_p a_order_p a_targets_p a_words a_roots a_base a_top a_heads a_objects a_marks a_order a_reached a_targets ++ wBy cI b_p b_row_p b_row b_size) sz)) 0 0 (va_A (wHp cI a_p a_words_p a_roots_p a_heads_p a_marks_p a_order_p a_targets_p a_words a_roots a_base a_top a_heads a_objects a_marks a_order a_reached a_targets ++ wBy cI b_p b_row_p b_row b_size) sz) := by
  refine g_met (fun A => va_Qv (fun (u : ((Nat → Int32) × Int32)) => o = u) (gB (dC, dI) vwCl (gT cI cJ cH) (fun (u : ((Nat → Int32) × Int32)) => wHp cI a_p a_words_p a_roots_p a_heads_p a_marks_p a_order_p a_targets_p a_words a_roots a_base a_top a_heads a_objects a_marks a_order a_reached a_targets ++ wBy cI b_p b_row_p u.1 u.2) A) A) (by decide) rfl (Nat.le_of_ble_eq_true rfl) ?_
  intro p e s m args below meth c A Q F hlocks hr hname hN hQ
  unfold f_X1_writeValues_words at hf
  refine g_lvE (lv' := [(0, .ref a_p), (1, .ref b_p), (2, .ref a_words_p), (3, .int x3), (4, .int x4)]) rfl ?_
  refine g_iload_n F dX1_writeValues_0 rfl 3 rfl ?_
  refine g_istore (lv' := [(5, .int x3), (0, .ref a_p), (1, .ref b_p), (2, .ref a_words_p), (3, .int x3), (4, .int x4)]) F dX1_writeValues_1 (by decide) rfl ?_
  obtain ⟨o5, ho5, hf⟩ := bnE hf
  refine g_lv [1, 2, 3, 4, 5, 0] rfl ?_
  refine w_X1_writeValues_words_L3 F hN FU _ _ _ o5 ho5 ?_
  subst hQ
  exact g_vret F hlocks hr (o5.1, o5.2) rfl (Option.some.inj hf).symm dX1_writeValues_30

/-! HeapImages$Heap.writeObject(LHeapImages$Bytes;I)V -/
def rm_X1_writeObject : Room := { frames := 3, cells := 0, slots := 0, locals := 71 }
theorem h_X1_writeObject_1 : ∀ w ∈ wsX10, w ∈ wsX1_writeObject := by decide +kernel
def f_X1_writeObject_L59_s (a_words : (Nat → Int32)) (y2 : Int32) (y4 : Int32) (rc : Int32 → (Nat → Int32) → Int32 → Option ((Nat → Int32) × Int32)) (z5 : Int32) (b_row : (Nat → Int32)) (b_size : Int32) : Option ((Nat → Int32) × Int32) :=
  if (y2 + y4) < z5 then some (b_row, b_size) else ck (inR z5 256) (Option.bind (f_X0_addTwo b_row b_size (a_words z5.toNatClampNeg)) fun o9 => ck (inR z5 256) (Option.bind (f_X0_addTwo o9.1 o9.2 (((a_words z5.toNatClampNeg).toUInt32 >>> ((16 : Int32).toUInt32 &&& Int32.toUInt32 31)).toInt32)) fun o11 => nm (z5 + (1 : Int32)) fun v12 => rc v12 o11.1 o11.2))
def f_X1_writeObject_L59 (a_words : (Nat → Int32)) (y2 : Int32) (y4 : Int32) : Nat → Int32 → (Nat → Int32) → Int32 → Option ((Nat → Int32) × Int32)
  | 0, _, _, _ => none
  | n + 1, z5, b_row, b_size => f_X1_writeObject_L59_s a_words y2 y4 (f_X1_writeObject_L59 a_words y2 y4 n) z5 b_row b_size
set_option maxHeartbeats 4000000 in
theorem w_X1_writeObject_L59 {p : Program} {l : Launch} {e : Env} {s : State} {m : MethodId} {args : Array Value} {below : List Frame} {meth : Method} {c : Code} {A : Nat → Prop} {Q : State → Prop} {dC : Nat → ClassId} {dI : Nat → Nat → Nat} {cI cJ cH : ClassId} {a_p a_words_p a_roots_p a_heads_p a_marks_p a_order_p a_targets_p b_p b_row_p : Nat} {a_words : (Nat → Int32)} {a_roots : (Nat → Int32)} {a_base : Int32} {a_top : Int32} {a_heads : (Nat → Int32)} {a_objects : Int32} {a_marks : (Nat → Int32)} {a_order : (Nat → Int32)} {a_reached : Int32} {a_targets : (Nat → Int32)} {y2 : Int32} {y4 : Int32} (F : gF p m c cX1_writeObject 6 s args wsX1_writeObject yX1_writeObject.cls (dC, dI) vwCl (gT cI cJ cH) A) (hN : ∀ w ∈ gN, va_Nw w s) : ∀ (n : Nat) (z5 : Int32) (b_row : (Nat → Int32)) (b_size : Int32) (o : ((Nat → Int32) × Int32)), f_X1_writeObject_L59 a_words y2 y4 n z5 b_row b_size = some o → (gW p l e rm_X1_writeObject s m args below meth c 0 0 Q (dC, dI) vwCl A 6 (wHp cI a_p a_words_p a_roots_p a_heads_p a_marks_p a_order_p a_targets_p a_words a_roots a_base a_top a_heads a_objects a_marks a_order a_reached a_targets ++ wBy cI b_p b_row_p o.1 o.2) [] 99 []) → gW p l e rm_X1_writeObject s m args below meth c 0 0 Q (dC, dI) vwCl A 6 (wHp cI a_p a_words_p a_roots_p a_heads_p a_marks_p a_order_p a_targets_p a_words a_roots a_base a_top a_heads a_objects a_marks a_order a_reached a_targets ++ wBy cI b_p b_row_p b_row b_size) [(0, .ref a_p), (1, .ref b_p), (2, .int y2), (4, .int y4), (5, .int z5)] 59 [] := by
  intro n
  induction n with
  | zero =>
    intro z5 b_row b_size o hf E0
    change none = some o at hf
    cases hf
  | succ n ih =>
    intro z5 b_row b_size o hf E0
    change f_X1_writeObject_L59_s a_words y2 y4 (f_X1_writeObject_L59 a_words y2 y4 n) z5 b_row b_size = some o at hf
    unfold f_X1_writeObject_L59_s at hf
    refine g_iload F dX1_writeObject_59 4 rfl ?_
    refine g_iload_n F dX1_writeObject_61 rfl 2 rfl ?_
    refine g_iload F dX1_writeObject_62 3 rfl ?_
    refine g_iadd F dX1_writeObject_64 ?_
    refine g_icmp_gt (tgt := 99) F dX1_writeObject_65 (by decide) (fun c65 => ?_) (fun c65 => ?_)
    · have hf := iteT hf c65
      cases hf
      refine g_lv [] rfl ?_
      exact E0
    · have hf := iteF hf c65
      refine g_aload_n F dX1_writeObject_68 rfl 1 rfl ?_
      refine g_aload_n F dX1_writeObject_69 rfl 0 rfl ?_
      refine g_get F h_X1_writeObject_1 0 rfl rfl 0 (by decide) (by decide +kernel) rfl dX1_writeObject_70 ?_
      refine g_iload F dX1_writeObject_73 4 rfl ?_
      obtain ⟨h8, hf⟩ := ckE hf
      refine g_iald F 1 0 rfl rfl h8 dX1_writeObject_75 ?_
      obtain ⟨o9, ho9, hf⟩ := bnE hf
      refine g_callPv (n := 1) (As := [.int (a_words z5.toNatClampNeg)]) F (c_X0_addTwo l dC dI cI cJ cH b_p b_row_p b_row b_size (a_words z5.toNatClampNeg) o9 ho9) ggX1_writeObject_X0_addTwo rfl rfl rfl (by decide +kernel) (by decide +kernel) (by decide +kernel) (by decide +kernel) (by decide +kernel) ⟨Nat.le_of_ble_eq_true rfl, Nat.le_of_ble_eq_true rfl⟩ ⟨Nat.le_of_ble_eq_true rfl, Nat.le_of_ble_eq_true rfl⟩ hN 7 rfl rfl rfl (wHp cI a_p a_words_p a_roots_p a_heads_p a_marks_p a_order_p a_targets_p a_words a_roots a_base a_top a_heads a_objects a_marks a_order a_reached a_targets) ([]) rfl (fun _ => rfl) rfl (Nat.le_of_ble_eq_true rfl) rfl dX1_writeObject_76 (cells' := 0) (slots' := 0) rfl rfl (fun u hp => ?_)
      subst hp
      refine g_ws (ws' := wHp cI a_p a_words_p a_roots_p a_heads_p a_marks_p a_order_p a_targets_p a_words a_roots a_base a_top a_heads a_objects a_marks a_order a_reached a_targets ++ wBy cI b_p b_row_p o9.1 o9.2) rfl ?_
      refine g_aload_n F dX1_writeObject_79 rfl 1 rfl ?_
      refine g_aload_n F dX1_writeObject_80 rfl 0 rfl ?_
      refine g_get F h_X1_writeObject_1 0 rfl rfl 0 (by decide) (by decide +kernel) rfl dX1_writeObject_81 ?_
      refine g_iload F dX1_writeObject_84 4 rfl ?_
      obtain ⟨h10, hf⟩ := ckE hf
      refine g_iald F 1 0 rfl rfl h10 dX1_writeObject_86 ?_
      refine g_bipush (v := 16) F dX1_writeObject_87 rfl ?_
      refine g_iushr F dX1_writeObject_89 ?_
      obtain ⟨o11, ho11, hf⟩ := bnE hf
      refine g_callPv (n := 1) (As := [.int (((a_words z5.toNatClampNeg).toUInt32 >>> ((16 : Int32).toUInt32 &&& Int32.toUInt32 31)).toInt32)]) F (c_X0_addTwo l dC dI cI cJ cH b_p b_row_p o9.1 o9.2 (((a_words z5.toNatClampNeg).toUInt32 >>> ((16 : Int32).toUInt32 &&& Int32.toUInt32 31)).toInt32) o11 ho11) ggX1_writeObject_X0_addTwo rfl rfl rfl (by decide +kernel) (by decide +kernel) (by decide +kernel) (by decide +kernel) (by decide +kernel) ⟨Nat.le_of_ble_eq_true rfl, Nat.le_of_ble_eq_true rfl⟩ ⟨Nat.le_of_ble_eq_true rfl, Nat.le_of_ble_eq_true rfl⟩ hN 7 rfl rfl rfl (wHp cI a_p a_words_p a_roots_p a_heads_p a_marks_p a_order_p a_targets_p a_words a_roots a_base a_top a_heads a_objects a_marks a_order a_reached a_targets) ([]) rfl (fun _ => rfl) rfl (Nat.le_of_ble_eq_true rfl) rfl dX1_writeObject_90 (cells' := 0) (slots' := 0) rfl rfl (fun u hp => ?_)
      subst hp
      refine g_ws (ws' := wHp cI a_p a_words_p a_roots_p a_heads_p a_marks_p a_order_p a_targets_p a_words a_roots a_base a_top a_heads a_objects a_marks a_order a_reached a_targets ++ wBy cI b_p b_row_p o11.1 o11.2) rfl ?_
      obtain ⟨v12, ev12, hf⟩ := nmE hf
      refine g_iinc (j := 4) (lv' := [(5, .int v12), (0, .ref a_p), (1, .ref b_p), (2, .int y2), (4, .int y4)]) F dX1_writeObject_93 rfl ev12.symm (by decide) rfl ?_
      refine g_goto (tgt := 59) F dX1_writeObject_96 (by decide) ?_
      refine g_lv [1, 2, 3, 4, 0] rfl ?_
      exact ih _ _ _ o hf E0
def f_X1_writeObject (a_words : (Nat → Int32)) (a_base : Int32) (a_marks : (Nat → Int32)) (b_row : (Nat → Int32)) (b_size : Int32) (x2 : Int32) : Option ((Nat → Int32) × Int32) :=
  ck (inR x2 256) (Option.bind (f_X3_kindOf (a_words x2.toNatClampNeg)) fun o2 => ck (inR x2 256) (Option.bind (f_X3_slotsOf (a_words x2.toNatClampNeg)) fun o4 => Option.bind (f_X0_addCount b_row b_size o2.toInt64) fun o5 => Option.bind (f_X0_addCount o5.1 o5.2 o4.toInt64) fun o6 => if o2 = (2 : Int32) then nm (x2 + (1 : Int32)) fun v7 => Option.bind (f_X1_writeObject_L59 a_words x2 o4 FU v7 o6.1 o6.2) fun o13 => some (o13.1, o13.2) else Option.bind (f_X1_writeValues_words a_words a_base a_marks o6.1 o6.2 (x2 + (1 : Int32)) o4) fun o14 => some (o14.1, o14.2)))
set_option maxHeartbeats 4000000 in
set_option maxRecDepth 100000 in
theorem c_X1_writeObject (l : Launch) (dC : Nat → ClassId) (dI : Nat → Nat → Nat) (cI cJ cH : ClassId) (a_p a_words_p a_roots_p a_heads_p a_marks_p a_order_p a_targets_p b_p b_row_p : Nat)  (a_words : (Nat → Int32)) (a_roots : (Nat → Int32)) (a_base : Int32) (a_top : Int32) (a_heads : (Nat → Int32)) (a_objects : Int32) (a_marks : (Nat → Int32)) (a_order : (Nat → Int32)) (a_reached : Int32) (a_targets : (Nat → Int32)) (b_row : (Nat → Int32)) (b_size : Int32) (x2 : Int32) (o : ((Nat → Int32) × Int32)) (hf : f_X1_writeObject a_words a_base a_marks b_row b_size x2 = some o) : ∀ sz : Nat, Met l yX1_writeObject wsX1_writeObject rm_X1_writeObject (gPre [.ref a_p, .ref b_p, .int x2] (dC, dI) vwCl (gT cI cJ cH) (wHp cI a_p a_words_p a_roots_p a_heads_p a_marks_p a_order_p a_targets_p a_words a_roots a_base a_top a_heads a_objects a_marks a_order a_reached a_targets ++ wBy cI b_p b_row_p b_row b_size) sz) (va_Qv (fun (u : ((Nat → Int32) × Int32)) => o = u) (gB (dC, dI) vwCl (gT cI cJ cH) (fun (u : ((Nat → Int32) × Int32)) => wHp cI a_p a_words_p a_roots_p a_heads_p a_marks_p a_order_p a_targets_p a_words a_roots a_base a_top a_heads a_objects a_marks a_order a_reached a_targets ++ wBy cI b_p b_row_p u.1 u.2) (va_A (wHp cI a_p a_words_p a_roots_p a_heads_p a_marks_p a_order_p a_targets_p a_words a_roots a_base a_top a_heads a_objects a_marks a_order a_reached a_targets ++ wBy cI b_p b_row_p b_row b_size) sz)) (va_A (wHp cI a_p a_words_p a_roots_p a_heads_p a_marks_p a_order_p a_targets_p a_words a_roots a_base a_top a_heads a_objects a_marks a_order a_reached a_targets ++ wBy cI b_p b_row_p b_row b_size) sz)) 0 0 (va_A (wHp cI a_p a_words_p a_roots_p a_heads_p a_marks_p a_order_p a_targets_p a_words a_roots a_base a_top a_heads a_objects a_marks a_order a_reached a_targets ++ wBy cI b_p b_row_p b_row b_size) sz) := by
  refine g_met (fun A => va_Qv (fun (u : ((Nat → Int32) × Int32)) => o = u) (gB (dC, dI) vwCl (gT cI cJ cH) (fun (u : ((Nat → Int32) × Int32)) => wHp cI a_p a_words_p a_roots_p a_heads_p a_marks_p a_order_p a_targets_p a_words a_roots a_base a_top a_heads a_objects a_marks a_order a_reached a_targets ++ wBy cI b_p b_row_p u.1 u.2) A) A) (by decide) rfl (Nat.le_of_ble_eq_true rfl) ?_
  intro p e s m args below meth c A Q F hlocks hr hname hN hQ
  unfold f_X1_writeObject at hf
  refine g_lvE (lv' := [(0, .ref a_p), (1, .ref b_p), (2, .int x2)]) rfl ?_
  refine g_aload_n F dX1_writeObject_0 rfl 0 rfl ?_
  refine g_get F h_X1_writeObject_1 0 rfl rfl 0 (by decide) (by decide +kernel) rfl dX1_writeObject_1 ?_
  refine g_iload_n F dX1_writeObject_4 rfl 2 rfl ?_
  obtain ⟨h1, hf⟩ := ckE hf
  refine g_iald F 1 0 rfl rfl h1 dX1_writeObject_5 ?_
  obtain ⟨o2, ho2, hf⟩ := bnE hf
  refine g_callNi (host := "HeapImages") (n := 1) (As := [.int (a_words x2.toNatClampNeg)]) F (c_X3_kindOf l dC dI cI cJ cH (a_words x2.toNatClampNeg) o2 ho2) ggX1_writeObject_X3_kindOf rfl rfl rfl (by decide +kernel) (hN _ (by decide +kernel)) (by decide +kernel) (by decide +kernel) ⟨Nat.le_of_ble_eq_true rfl, Nat.le_of_ble_eq_true rfl⟩ ⟨Nat.le_of_ble_eq_true rfl, Nat.le_of_ble_eq_true rfl⟩ hN [] rfl rfl (fun _ => rfl) rfl (Nat.le_of_ble_eq_true rfl) rfl dX1_writeObject_6 (cells' := 0) (slots' := 0) rfl rfl (fun r u hp => ?_)
  subst hp
  refine g_ws (ws' := wHp cI a_p a_words_p a_roots_p a_heads_p a_marks_p a_order_p a_targets_p a_words a_roots a_base a_top a_heads a_objects a_marks a_order a_reached a_targets ++ wBy cI b_p b_row_p b_row b_size) rfl ?_
  refine g_istore_n (lv' := [(3, .int o2), (0, .ref a_p), (1, .ref b_p), (2, .int x2)]) F dX1_writeObject_9 rfl (by decide) rfl ?_
  refine g_aload_n F dX1_writeObject_10 rfl 1 rfl ?_
  refine g_get F h_X1_writeObject_1 0 rfl rfl 0 (by decide) (by decide +kernel) rfl dX1_writeObject_11 ?_
  refine g_iload_n F dX1_writeObject_14 rfl 3 rfl ?_
  obtain ⟨h3, hf⟩ := ckE hf
  refine g_iald F 1 0 rfl rfl h3 dX1_writeObject_15 ?_
  obtain ⟨o4, ho4, hf⟩ := bnE hf
  refine g_callNi (host := "HeapImages") (n := 1) (As := [.int (a_words x2.toNatClampNeg)]) F (c_X3_slotsOf l dC dI cI cJ cH (a_words x2.toNatClampNeg) o4 ho4) ggX1_writeObject_X3_slotsOf rfl rfl rfl (by decide +kernel) (hN _ (by decide +kernel)) (by decide +kernel) (by decide +kernel) ⟨Nat.le_of_ble_eq_true rfl, Nat.le_of_ble_eq_true rfl⟩ ⟨Nat.le_of_ble_eq_true rfl, Nat.le_of_ble_eq_true rfl⟩ hN [] rfl rfl (fun _ => rfl) rfl (Nat.le_of_ble_eq_true rfl) rfl dX1_writeObject_16 (cells' := 0) (slots' := 0) rfl rfl (fun r u hp => ?_)
  subst hp
  refine g_ws (ws' := wHp cI a_p a_words_p a_roots_p a_heads_p a_marks_p a_order_p a_targets_p a_words a_roots a_base a_top a_heads a_objects a_marks a_order a_reached a_targets ++ wBy cI b_p b_row_p b_row b_size) rfl ?_
  refine g_istore (lv' := [(4, .int o4), (3, .int o2), (0, .ref a_p), (1, .ref b_p), (2, .int x2)]) F dX1_writeObject_19 (by decide) rfl ?_
  refine g_aload_n F dX1_writeObject_21 rfl 3 rfl ?_
  refine g_iload_n F dX1_writeObject_22 rfl 1 rfl ?_
  refine g_i2l F dX1_writeObject_23 ?_
  obtain ⟨o5, ho5, hf⟩ := bnE hf
  refine g_callPv (n := 1) (As := [.long o2.toInt64]) F (c_X0_addCount l dC dI cI cJ cH b_p b_row_p b_row b_size o2.toInt64 o5 ho5) ggX1_writeObject_X0_addCount rfl rfl rfl (by decide +kernel) (by decide +kernel) (by decide +kernel) (by decide +kernel) (by decide +kernel) ⟨Nat.le_of_ble_eq_true rfl, Nat.le_of_ble_eq_true rfl⟩ ⟨Nat.le_of_ble_eq_true rfl, Nat.le_of_ble_eq_true rfl⟩ hN 7 rfl rfl rfl (wHp cI a_p a_words_p a_roots_p a_heads_p a_marks_p a_order_p a_targets_p a_words a_roots a_base a_top a_heads a_objects a_marks a_order a_reached a_targets) ([]) rfl (fun _ => rfl) rfl (Nat.le_of_ble_eq_true rfl) rfl dX1_writeObject_24 (cells' := 0) (slots' := 0) rfl rfl (fun u hp => ?_)
  subst hp
  refine g_ws (ws' := wHp cI a_p a_words_p a_roots_p a_heads_p a_marks_p a_order_p a_targets_p a_words a_roots a_base a_top a_heads a_objects a_marks a_order a_reached a_targets ++ wBy cI b_p b_row_p o5.1 o5.2) rfl ?_
  refine g_aload_n F dX1_writeObject_27 rfl 3 rfl ?_
  refine g_iload F dX1_writeObject_28 0 rfl ?_
  refine g_i2l F dX1_writeObject_30 ?_
  obtain ⟨o6, ho6, hf⟩ := bnE hf
  refine g_callPv (n := 1) (As := [.long o4.toInt64]) F (c_X0_addCount l dC dI cI cJ cH b_p b_row_p o5.1 o5.2 o4.toInt64 o6 ho6) ggX1_writeObject_X0_addCount rfl rfl rfl (by decide +kernel) (by decide +kernel) (by decide +kernel) (by decide +kernel) (by decide +kernel) ⟨Nat.le_of_ble_eq_true rfl, Nat.le_of_ble_eq_true rfl⟩ ⟨Nat.le_of_ble_eq_true rfl, Nat.le_of_ble_eq_true rfl⟩ hN 7 rfl rfl rfl (wHp cI a_p a_words_p a_roots_p a_heads_p a_marks_p a_order_p a_targets_p a_words a_roots a_base a_top a_heads a_objects a_marks a_order a_reached a_targets) ([]) rfl (fun _ => rfl) rfl (Nat.le_of_ble_eq_true rfl) rfl dX1_writeObject_31 (cells' := 0) (slots' := 0) rfl rfl (fun u hp => ?_)
  subst hp
  refine g_ws (ws' := wHp cI a_p a_words_p a_roots_p a_heads_p a_marks_p a_order_p a_targets_p a_words a_roots a_base a_top a_heads a_objects a_marks a_order a_reached a_targets ++ wBy cI b_p b_row_p o6.1 o6.2) rfl ?_
  refine g_iload_n F dX1_writeObject_34 rfl 1 rfl ?_
  refine g_iconst (v := 2) F dX1_writeObject_35 rfl ?_
  refine g_icmp_eq (tgt := 54) F dX1_writeObject_36 (by decide) (fun c36 => ?_) (fun c36 => ?_)
  · have hf := iteT hf c36
    refine g_iload_n F dX1_writeObject_54 rfl 4 rfl ?_
    refine g_iconst (v := 1) F dX1_writeObject_55 rfl ?_
    refine g_iadd F dX1_writeObject_56 ?_
    obtain ⟨v7, ev7, hf⟩ := nmE hf
    refine g_nmi ev7 ?_
    refine g_istore (lv' := [(5, .int v7), (4, .int o4), (3, .int o2), (0, .ref a_p), (1, .ref b_p), (2, .int x2)]) F dX1_writeObject_57 (by decide) rfl ?_
    obtain ⟨o13, ho13, hf⟩ := bnE hf
    refine g_lv [3, 4, 5, 1, 0] rfl ?_
    refine w_X1_writeObject_L59 F hN FU _ _ _ o13 ho13 ?_
    subst hQ
    exact g_vret F hlocks hr (o13.1, o13.2) rfl (Option.some.inj hf).symm dX1_writeObject_99
  · have hf := iteF hf c36
    refine g_aload_n F dX1_writeObject_39 rfl 2 rfl ?_
    refine g_aload_n F dX1_writeObject_40 rfl 3 rfl ?_
    refine g_aload_n F dX1_writeObject_41 rfl 2 rfl ?_
    refine g_get F h_X1_writeObject_1 0 rfl rfl 0 (by decide) (by decide +kernel) rfl dX1_writeObject_42 ?_
    refine g_iload_n F dX1_writeObject_45 rfl 4 rfl ?_
    refine g_iconst (v := 1) F dX1_writeObject_46 rfl ?_
    refine g_iadd F dX1_writeObject_47 ?_
    refine g_iload F dX1_writeObject_48 0 rfl ?_
    obtain ⟨o14, ho14, hf⟩ := bnE hf
    refine g_callPv (n := 4) (As := [.ref b_p, .ref a_words_p, .int (x2 + (1 : Int32)), .int o4]) F (c_X1_writeValues_words l dC dI cI cJ cH a_p a_words_p a_roots_p a_heads_p a_marks_p a_order_p a_targets_p b_p b_row_p a_words a_roots a_base a_top a_heads a_objects a_marks a_order a_reached a_targets o6.1 o6.2 (x2 + (1 : Int32)) o4 o14 ho14) ggX1_writeObject_X1_writeValues rfl rfl rfl (by decide +kernel) (by decide +kernel) (by decide +kernel) (by decide +kernel) (by decide +kernel) ⟨Nat.le_of_ble_eq_true rfl, Nat.le_of_ble_eq_true rfl⟩ ⟨Nat.le_of_ble_eq_true rfl, Nat.le_of_ble_eq_true rfl⟩ hN 0 rfl rfl rfl ([]) ([]) rfl (fun _ => rfl) rfl (Nat.le_of_ble_eq_true rfl) rfl dX1_writeObject_50 (cells' := 0) (slots' := 0) rfl rfl (fun u hp => ?_)
    subst hp
    refine g_ws (ws' := wHp cI a_p a_words_p a_roots_p a_heads_p a_marks_p a_order_p a_targets_p a_words a_roots a_base a_top a_heads a_objects a_marks a_order a_reached a_targets ++ wBy cI b_p b_row_p o14.1 o14.2) rfl ?_
    subst hQ
    exact g_vret F hlocks hr (o14.1, o14.2) rfl (Option.some.inj hf).symm dX1_writeObject_53

/-! HeapImages$Heap.writeTo(LHeapImages$Bytes;)V -/
def rm_X1_writeTo : Room := { frames := 4, cells := 0, slots := 0, locals := 96 }
theorem h_X1_writeTo_0 : ∀ w ∈ wsX00, w ∈ wsX1_writeTo := by decide +kernel
theorem h_X1_writeTo_1 : ∀ w ∈ wsX10, w ∈ wsX1_writeTo := by decide +kernel
def f_X1_writeTo_L48_s (a_words : (Nat → Int32)) (a_base : Int32) (a_marks : (Nat → Int32)) (a_order : (Nat → Int32)) (a_reached : Int32) (rc : Int32 → (Nat → Int32) → Int32 → Option ((Nat → Int32) × Int32)) (z2 : Int32) (b_row : (Nat → Int32)) (b_size : Int32) : Option ((Nat → Int32) × Int32) :=
  if a_reached ≤ z2 then some (b_row, b_size) else ck (inR z2 256) (Option.bind (f_X1_writeObject a_words a_base a_marks b_row b_size (a_order z2.toNatClampNeg)) fun o8 => nm (z2 + (1 : Int32)) fun v9 => rc v9 o8.1 o8.2)
def f_X1_writeTo_L48 (a_words : (Nat → Int32)) (a_base : Int32) (a_marks : (Nat → Int32)) (a_order : (Nat → Int32)) (a_reached : Int32) : Nat → Int32 → (Nat → Int32) → Int32 → Option ((Nat → Int32) × Int32)
  | 0, _, _, _ => none
  | n + 1, z2, b_row, b_size => f_X1_writeTo_L48_s a_words a_base a_marks a_order a_reached (f_X1_writeTo_L48 a_words a_base a_marks a_order a_reached n) z2 b_row b_size
set_option maxHeartbeats 4000000 in
theorem w_X1_writeTo_L48 {p : Program} {l : Launch} {e : Env} {s : State} {m : MethodId} {args : Array Value} {below : List Frame} {meth : Method} {c : Code} {A : Nat → Prop} {Q : State → Prop} {dC : Nat → ClassId} {dI : Nat → Nat → Nat} {cI cJ cH : ClassId} {a_p a_words_p a_roots_p a_heads_p a_marks_p a_order_p a_targets_p b_p b_row_p : Nat} {a_words : (Nat → Int32)} {a_roots : (Nat → Int32)} {a_base : Int32} {a_top : Int32} {a_heads : (Nat → Int32)} {a_objects : Int32} {a_marks : (Nat → Int32)} {a_order : (Nat → Int32)} {a_reached : Int32} {a_targets : (Nat → Int32)}  (F : gF p m c cX1_writeTo 3 s args wsX1_writeTo yX1_writeTo.cls (dC, dI) vwCl (gT cI cJ cH) A) (hN : ∀ w ∈ gN, va_Nw w s) : ∀ (n : Nat) (z2 : Int32) (b_row : (Nat → Int32)) (b_size : Int32) (o : ((Nat → Int32) × Int32)), f_X1_writeTo_L48 a_words a_base a_marks a_order a_reached n z2 b_row b_size = some o → (gW p l e rm_X1_writeTo s m args below meth c 0 0 Q (dC, dI) vwCl A 3 (wHp cI a_p a_words_p a_roots_p a_heads_p a_marks_p a_order_p a_targets_p a_words a_roots a_base a_top a_heads a_objects a_marks a_order a_reached a_targets ++ wBy cI b_p b_row_p o.1 o.2) [(1, .ref b_p)] 73 []) → gW p l e rm_X1_writeTo s m args below meth c 0 0 Q (dC, dI) vwCl A 3 (wHp cI a_p a_words_p a_roots_p a_heads_p a_marks_p a_order_p a_targets_p a_words a_roots a_base a_top a_heads a_objects a_marks a_order a_reached a_targets ++ wBy cI b_p b_row_p b_row b_size) [(0, .ref a_p), (1, .ref b_p), (2, .int z2)] 48 [] := by
  intro n
  induction n with
  | zero =>
    intro z2 b_row b_size o hf E0
    change none = some o at hf
    cases hf
  | succ n ih =>
    intro z2 b_row b_size o hf E0
    change f_X1_writeTo_L48_s a_words a_base a_marks a_order a_reached (f_X1_writeTo_L48 a_words a_base a_marks a_order a_reached n) z2 b_row b_size = some o at hf
    unfold f_X1_writeTo_L48_s at hf
    refine g_iload_n F dX1_writeTo_48 rfl 2 rfl ?_
    refine g_aload_n F dX1_writeTo_49 rfl 0 rfl ?_
    refine g_get F h_X1_writeTo_1 0 rfl rfl 8 (by decide) (by decide +kernel) rfl dX1_writeTo_50 ?_
    refine g_icmp_ge (tgt := 73) F dX1_writeTo_53 (by decide) (fun c53 => ?_) (fun c53 => ?_)
    · have hf := iteT hf c53
      cases hf
      refine g_lv [1] rfl ?_
      exact E0
    · have hf := iteF hf c53
      refine g_aload_n F dX1_writeTo_56 rfl 0 rfl ?_
      refine g_aload_n F dX1_writeTo_57 rfl 1 rfl ?_
      refine g_aload_n F dX1_writeTo_58 rfl 0 rfl ?_
      refine g_get F h_X1_writeTo_1 0 rfl rfl 7 (by decide) (by decide +kernel) rfl dX1_writeTo_59 ?_
      refine g_iload_n F dX1_writeTo_62 rfl 2 rfl ?_
      obtain ⟨h7, hf⟩ := ckE hf
      refine g_iald F 5 0 rfl rfl h7 dX1_writeTo_63 ?_
      obtain ⟨o8, ho8, hf⟩ := bnE hf
      refine g_callPv (n := 2) (As := [.ref b_p, .int (a_order z2.toNatClampNeg)]) F (c_X1_writeObject l dC dI cI cJ cH a_p a_words_p a_roots_p a_heads_p a_marks_p a_order_p a_targets_p b_p b_row_p a_words a_roots a_base a_top a_heads a_objects a_marks a_order a_reached a_targets b_row b_size (a_order z2.toNatClampNeg) o8 ho8) ggX1_writeTo_X1_writeObject rfl rfl rfl (by decide +kernel) (by decide +kernel) (by decide +kernel) (by decide +kernel) (by decide +kernel) ⟨Nat.le_of_ble_eq_true rfl, Nat.le_of_ble_eq_true rfl⟩ ⟨Nat.le_of_ble_eq_true rfl, Nat.le_of_ble_eq_true rfl⟩ hN 0 rfl rfl rfl ([]) ([]) rfl (fun _ => rfl) rfl (Nat.le_of_ble_eq_true rfl) rfl dX1_writeTo_64 (cells' := 0) (slots' := 0) rfl rfl (fun u hp => ?_)
      subst hp
      refine g_ws (ws' := wHp cI a_p a_words_p a_roots_p a_heads_p a_marks_p a_order_p a_targets_p a_words a_roots a_base a_top a_heads a_objects a_marks a_order a_reached a_targets ++ wBy cI b_p b_row_p o8.1 o8.2) rfl ?_
      obtain ⟨v9, ev9, hf⟩ := nmE hf
      refine g_iinc (j := 2) (lv' := [(2, .int v9), (0, .ref a_p), (1, .ref b_p)]) F dX1_writeTo_67 rfl ev9.symm (by decide) rfl ?_
      refine g_goto (tgt := 48) F dX1_writeTo_70 (by decide) ?_
      refine g_lv [1, 2, 0] rfl ?_
      exact ih _ _ _ o hf E0
def f_X1_writeTo (a_words : (Nat → Int32)) (a_roots : (Nat → Int32)) (a_base : Int32) (a_marks : (Nat → Int32)) (a_order : (Nat → Int32)) (a_reached : Int32) (b_row : (Nat → Int32)) (b_size : Int32) : Option ((Nat → Int32) × (Nat → Int32) × Int32 × (Nat → Int32) × Int32) :=
  Option.bind (f_X1_findOrder a_words a_roots a_base a_marks a_order a_reached) fun o1 => Option.bind (f_X0_add b_row (0 : Int32) (72 : Int32)) fun o2 => Option.bind (f_X0_add o2.1 o2.2 (73 : Int32)) fun o3 => Option.bind (f_X0_add o3.1 o3.2 (1 : Int32)) fun o4 => Option.bind (f_X0_addCount o4.1 o4.2 o1.2.2.toInt64) fun o5 => Option.bind (f_X1_writeValues_roots a_roots a_base o1.1 o5.1 o5.2 (0 : Int32) (4 : Int32)) fun o6 => Option.bind (f_X1_writeTo_L48 a_words a_base o1.1 o1.2.1 o1.2.2 FU (0 : Int32) o6.1 o6.2) fun o10 => Option.bind (f_X0_sumOf o10.1 o10.2) fun o11 => Option.bind (f_X0_addTwo o10.1 o10.2 o11) fun o12 => some (o1.1, o1.2.1, o1.2.2, o12.1, o12.2)
set_option maxHeartbeats 4000000 in
set_option maxRecDepth 100000 in
theorem c_X1_writeTo (l : Launch) (dC : Nat → ClassId) (dI : Nat → Nat → Nat) (cI cJ cH : ClassId) (a_p a_words_p a_roots_p a_heads_p a_marks_p a_order_p a_targets_p b_p b_row_p : Nat)  (a_words : (Nat → Int32)) (a_roots : (Nat → Int32)) (a_base : Int32) (a_top : Int32) (a_heads : (Nat → Int32)) (a_objects : Int32) (a_marks : (Nat → Int32)) (a_order : (Nat → Int32)) (a_reached : Int32) (a_targets : (Nat → Int32)) (b_row : (Nat → Int32)) (b_size : Int32)  (o : ((Nat → Int32) × (Nat → Int32) × Int32 × (Nat → Int32) × Int32)) (hf : f_X1_writeTo a_words a_roots a_base a_marks a_order a_reached b_row b_size = some o) : ∀ sz : Nat, Met l yX1_writeTo wsX1_writeTo rm_X1_writeTo (gPre [.ref a_p, .ref b_p] (dC, dI) vwCl (gT cI cJ cH) (wHp cI a_p a_words_p a_roots_p a_heads_p a_marks_p a_order_p a_targets_p a_words a_roots a_base a_top a_heads a_objects a_marks a_order a_reached a_targets ++ wBy cI b_p b_row_p b_row b_size) sz) (va_Qv (fun (u : ((Nat → Int32) × (Nat → Int32) × Int32 × (Nat → Int32) × Int32)) => o = u) (gB (dC, dI) vwCl (gT cI cJ cH) (fun (u : ((Nat → Int32) × (Nat → Int32) × Int32 × (Nat → Int32) × Int32)) => wHp cI a_p a_words_p a_roots_p a_heads_p a_marks_p a_order_p a_targets_p a_words a_roots a_base a_top a_heads a_objects u.1 u.2.1 u.2.2.1 a_targets ++ wBy cI b_p b_row_p u.2.2.2.1 u.2.2.2.2) (va_A (wHp cI a_p a_words_p a_roots_p a_heads_p a_marks_p a_order_p a_targets_p a_words a_roots a_base a_top a_heads a_objects a_marks a_order a_reached a_targets ++ wBy cI b_p b_row_p b_row b_size) sz)) (va_A (wHp cI a_p a_words_p a_roots_p a_heads_p a_marks_p a_order_p a_targets_p a_words a_roots a_base a_top a_heads a_objects a_marks a_order a_reached a_targets ++ wBy cI b_p b_row_p b_row b_size) sz)) 0 0 (va_A (wHp cI a_p a_words_p a_roots_p a_heads_p a_marks_p a_order_p a_targets_p a_words a_roots a_base a_top a_heads a_objects a_marks a_order a_reached a_targets ++ wBy cI b_p b_row_p b_row b_size) sz) := by
  refine g_met (fun A => va_Qv (fun (u : ((Nat → Int32) × (Nat → Int32) × Int32 × (Nat → Int32) × Int32)) => o = u) (gB (dC, dI) vwCl (gT cI cJ cH) (fun (u : ((Nat → Int32) × (Nat → Int32) × Int32 × (Nat → Int32) × Int32)) => wHp cI a_p a_words_p a_roots_p a_heads_p a_marks_p a_order_p a_targets_p a_words a_roots a_base a_top a_heads a_objects u.1 u.2.1 u.2.2.1 a_targets ++ wBy cI b_p b_row_p u.2.2.2.1 u.2.2.2.2) A) A) (by decide) rfl (Nat.le_of_ble_eq_true rfl) ?_
  intro p e s m args below meth c A Q F hlocks hr hname hN hQ
  unfold f_X1_writeTo at hf
  refine g_lvE (lv' := [(0, .ref a_p), (1, .ref b_p)]) rfl ?_
  refine g_aload_n F dX1_writeTo_0 rfl 0 rfl ?_
  obtain ⟨o1, ho1, hf⟩ := bnE hf
  refine g_callPv (n := 0) (As := []) F (c_X1_findOrder l dC dI cI cJ cH a_p a_words_p a_roots_p a_heads_p a_marks_p a_order_p a_targets_p a_words a_roots a_base a_top a_heads a_objects a_marks a_order a_reached a_targets o1 ho1) ggX1_writeTo_X1_findOrder rfl rfl rfl (by decide +kernel) (by decide +kernel) (by decide +kernel) (by decide +kernel) (by decide +kernel) ⟨Nat.le_of_ble_eq_true rfl, Nat.le_of_ble_eq_true rfl⟩ ⟨Nat.le_of_ble_eq_true rfl, Nat.le_of_ble_eq_true rfl⟩ hN 0 rfl rfl rfl ([]) (wBy cI b_p b_row_p b_row b_size) rfl (fun _ => rfl) rfl (Nat.le_of_ble_eq_true rfl) rfl dX1_writeTo_1 (cells' := 0) (slots' := 0) rfl rfl (fun u hp => ?_)
  subst hp
  refine g_ws (ws' := wHp cI a_p a_words_p a_roots_p a_heads_p a_marks_p a_order_p a_targets_p a_words a_roots a_base a_top a_heads a_objects o1.1 o1.2.1 o1.2.2 a_targets ++ wBy cI b_p b_row_p b_row b_size) rfl ?_
  refine g_aload_n F dX1_writeTo_4 rfl 1 rfl ?_
  refine g_iconst (v := 0) F dX1_writeTo_5 rfl ?_
  refine g_putN (host := "HeapImages") F h_X1_writeTo_0 tyX0 tyX0_ok nmX0 7 rfl rfl 1 (by decide) (hN _ (by decide +kernel)) rfl rfl rfl (Nat.le_of_ble_eq_true rfl) dX1_writeTo_6 (ws' := wHp cI a_p a_words_p a_roots_p a_heads_p a_marks_p a_order_p a_targets_p a_words a_roots a_base a_top a_heads a_objects o1.1 o1.2.1 o1.2.2 a_targets ++ wBy cI b_p b_row_p b_row (0 : Int32)) rfl ?_
  refine g_aload_n F dX1_writeTo_9 rfl 1 rfl ?_
  refine g_bipush (v := 72) F dX1_writeTo_10 rfl ?_
  obtain ⟨o2, ho2, hf⟩ := bnE hf
  refine g_callPv (n := 1) (As := [.int (72 : Int32)]) F (c_X0_add l dC dI cI cJ cH b_p b_row_p b_row (0 : Int32) (72 : Int32) o2 ho2) ggX1_writeTo_X0_add rfl rfl rfl (by decide +kernel) (by decide +kernel) (by decide +kernel) (by decide +kernel) (by decide +kernel) ⟨Nat.le_of_ble_eq_true rfl, Nat.le_of_ble_eq_true rfl⟩ ⟨Nat.le_of_ble_eq_true rfl, Nat.le_of_ble_eq_true rfl⟩ hN 7 rfl rfl rfl (wHp cI a_p a_words_p a_roots_p a_heads_p a_marks_p a_order_p a_targets_p a_words a_roots a_base a_top a_heads a_objects o1.1 o1.2.1 o1.2.2 a_targets) ([]) rfl (fun _ => rfl) rfl (Nat.le_of_ble_eq_true rfl) rfl dX1_writeTo_12 (cells' := 0) (slots' := 0) rfl rfl (fun u hp => ?_)
  subst hp
  refine g_ws (ws' := wHp cI a_p a_words_p a_roots_p a_heads_p a_marks_p a_order_p a_targets_p a_words a_roots a_base a_top a_heads a_objects o1.1 o1.2.1 o1.2.2 a_targets ++ wBy cI b_p b_row_p o2.1 o2.2) rfl ?_
  refine g_aload_n F dX1_writeTo_15 rfl 1 rfl ?_
  refine g_bipush (v := 73) F dX1_writeTo_16 rfl ?_
  obtain ⟨o3, ho3, hf⟩ := bnE hf
  refine g_callPv (n := 1) (As := [.int (73 : Int32)]) F (c_X0_add l dC dI cI cJ cH b_p b_row_p o2.1 o2.2 (73 : Int32) o3 ho3) ggX1_writeTo_X0_add rfl rfl rfl (by decide +kernel) (by decide +kernel) (by decide +kernel) (by decide +kernel) (by decide +kernel) ⟨Nat.le_of_ble_eq_true rfl, Nat.le_of_ble_eq_true rfl⟩ ⟨Nat.le_of_ble_eq_true rfl, Nat.le_of_ble_eq_true rfl⟩ hN 7 rfl rfl rfl (wHp cI a_p a_words_p a_roots_p a_heads_p a_marks_p a_order_p a_targets_p a_words a_roots a_base a_top a_heads a_objects o1.1 o1.2.1 o1.2.2 a_targets) ([]) rfl (fun _ => rfl) rfl (Nat.le_of_ble_eq_true rfl) rfl dX1_writeTo_18 (cells' := 0) (slots' := 0) rfl rfl (fun u hp => ?_)
  subst hp
  refine g_ws (ws' := wHp cI a_p a_words_p a_roots_p a_heads_p a_marks_p a_order_p a_targets_p a_words a_roots a_base a_top a_heads a_objects o1.1 o1.2.1 o1.2.2 a_targets ++ wBy cI b_p b_row_p o3.1 o3.2) rfl ?_
  refine g_aload_n F dX1_writeTo_21 rfl 1 rfl ?_
  refine g_iconst (v := 1) F dX1_writeTo_22 rfl ?_
  obtain ⟨o4, ho4, hf⟩ := bnE hf
  refine g_callPv (n := 1) (As := [.int (1 : Int32)]) F (c_X0_add l dC dI cI cJ cH b_p b_row_p o3.1 o3.2 (1 : Int32) o4 ho4) ggX1_writeTo_X0_add rfl rfl rfl (by decide +kernel) (by decide +kernel) (by decide +kernel) (by decide +kernel) (by decide +kernel) ⟨Nat.le_of_ble_eq_true rfl, Nat.le_of_ble_eq_true rfl⟩ ⟨Nat.le_of_ble_eq_true rfl, Nat.le_of_ble_eq_true rfl⟩ hN 7 rfl rfl rfl (wHp cI a_p a_words_p a_roots_p a_heads_p a_marks_p a_order_p a_targets_p a_words a_roots a_base a_top a_heads a_objects o1.1 o1.2.1 o1.2.2 a_targets) ([]) rfl (fun _ => rfl) rfl (Nat.le_of_ble_eq_true rfl) rfl dX1_writeTo_23 (cells' := 0) (slots' := 0) rfl rfl (fun u hp => ?_)
  subst hp
  refine g_ws (ws' := wHp cI a_p a_words_p a_roots_p a_heads_p a_marks_p a_order_p a_targets_p a_words a_roots a_base a_top a_heads a_objects o1.1 o1.2.1 o1.2.2 a_targets ++ wBy cI b_p b_row_p o4.1 o4.2) rfl ?_
  refine g_aload_n F dX1_writeTo_26 rfl 1 rfl ?_
  refine g_aload_n F dX1_writeTo_27 rfl 0 rfl ?_
  refine g_get F h_X1_writeTo_1 0 rfl rfl 8 (by decide) (by decide +kernel) rfl dX1_writeTo_28 ?_
  refine g_i2l F dX1_writeTo_31 ?_
  obtain ⟨o5, ho5, hf⟩ := bnE hf
  refine g_callPv (n := 1) (As := [.long o1.2.2.toInt64]) F (c_X0_addCount l dC dI cI cJ cH b_p b_row_p o4.1 o4.2 o1.2.2.toInt64 o5 ho5) ggX1_writeTo_X0_addCount rfl rfl rfl (by decide +kernel) (by decide +kernel) (by decide +kernel) (by decide +kernel) (by decide +kernel) ⟨Nat.le_of_ble_eq_true rfl, Nat.le_of_ble_eq_true rfl⟩ ⟨Nat.le_of_ble_eq_true rfl, Nat.le_of_ble_eq_true rfl⟩ hN 7 rfl rfl rfl (wHp cI a_p a_words_p a_roots_p a_heads_p a_marks_p a_order_p a_targets_p a_words a_roots a_base a_top a_heads a_objects o1.1 o1.2.1 o1.2.2 a_targets) ([]) rfl (fun _ => rfl) rfl (Nat.le_of_ble_eq_true rfl) rfl dX1_writeTo_32 (cells' := 0) (slots' := 0) rfl rfl (fun u hp => ?_)
  subst hp
  refine g_ws (ws' := wHp cI a_p a_words_p a_roots_p a_heads_p a_marks_p a_order_p a_targets_p a_words a_roots a_base a_top a_heads a_objects o1.1 o1.2.1 o1.2.2 a_targets ++ wBy cI b_p b_row_p o5.1 o5.2) rfl ?_
  refine g_aload_n F dX1_writeTo_35 rfl 0 rfl ?_
  refine g_aload_n F dX1_writeTo_36 rfl 1 rfl ?_
  refine g_aload_n F dX1_writeTo_37 rfl 0 rfl ?_
  refine g_get F h_X1_writeTo_1 0 rfl rfl 1 (by decide) (by decide +kernel) rfl dX1_writeTo_38 ?_
  refine g_iconst (v := 0) F dX1_writeTo_41 rfl ?_
  refine g_iconst (v := 4) F dX1_writeTo_42 rfl ?_
  obtain ⟨o6, ho6, hf⟩ := bnE hf
  refine g_callPv (n := 4) (As := [.ref b_p, .ref a_roots_p, .int (0 : Int32), .int (4 : Int32)]) F (c_X1_writeValues_roots l dC dI cI cJ cH a_p a_words_p a_roots_p a_heads_p a_marks_p a_order_p a_targets_p b_p b_row_p a_words a_roots a_base a_top a_heads a_objects o1.1 o1.2.1 o1.2.2 a_targets o5.1 o5.2 (0 : Int32) (4 : Int32) o6 ho6) ggX1_writeTo_X1_writeValues rfl rfl rfl (by decide +kernel) (by decide +kernel) (by decide +kernel) (by decide +kernel) (by decide +kernel) ⟨Nat.le_of_ble_eq_true rfl, Nat.le_of_ble_eq_true rfl⟩ ⟨Nat.le_of_ble_eq_true rfl, Nat.le_of_ble_eq_true rfl⟩ hN 0 rfl rfl rfl ([]) ([]) rfl (fun _ => rfl) rfl (Nat.le_of_ble_eq_true rfl) rfl dX1_writeTo_43 (cells' := 0) (slots' := 0) rfl rfl (fun u hp => ?_)
  subst hp
  refine g_ws (ws' := wHp cI a_p a_words_p a_roots_p a_heads_p a_marks_p a_order_p a_targets_p a_words a_roots a_base a_top a_heads a_objects o1.1 o1.2.1 o1.2.2 a_targets ++ wBy cI b_p b_row_p o6.1 o6.2) rfl ?_
  refine g_iconst (v := 0) F dX1_writeTo_46 rfl ?_
  refine g_istore_n (lv' := [(2, .int (0 : Int32)), (0, .ref a_p), (1, .ref b_p)]) F dX1_writeTo_47 rfl (by decide) rfl ?_
  obtain ⟨o10, ho10, hf⟩ := bnE hf
  refine g_lv [1, 2, 0] rfl ?_
  refine w_X1_writeTo_L48 F hN FU _ _ _ o10 ho10 ?_
  refine g_aload_n F dX1_writeTo_73 rfl 0 rfl ?_
  refine g_aload_n F dX1_writeTo_74 rfl 0 rfl ?_
  refine g_aload_n F dX1_writeTo_75 rfl 0 rfl ?_
  refine g_getN (host := "HeapImages") F h_X1_writeTo_0 7 rfl rfl 1 (by decide) (hN _ (by decide +kernel)) rfl dX1_writeTo_76 ?_
  obtain ⟨o11, ho11, hf⟩ := bnE hf
  refine g_callPi (n := 1) (As := [.int o10.2]) F (c_X0_sumOf l dC dI cI cJ cH b_p b_row_p o10.1 o10.2 o10.2 o11 ho11) ggX1_writeTo_X0_sumOf rfl rfl rfl (by decide +kernel) (by decide +kernel) (by decide +kernel) (by decide +kernel) (by decide +kernel) ⟨Nat.le_of_ble_eq_true rfl, Nat.le_of_ble_eq_true rfl⟩ ⟨Nat.le_of_ble_eq_true rfl, Nat.le_of_ble_eq_true rfl⟩ hN 7 rfl rfl rfl (wHp cI a_p a_words_p a_roots_p a_heads_p a_marks_p a_order_p a_targets_p a_words a_roots a_base a_top a_heads a_objects o1.1 o1.2.1 o1.2.2 a_targets) ([]) rfl (fun _ => rfl) rfl (Nat.le_of_ble_eq_true rfl) rfl dX1_writeTo_79 (cells' := 0) (slots' := 0) rfl rfl (fun r u hp => ?_)
  subst hp
  refine g_ws (ws' := wHp cI a_p a_words_p a_roots_p a_heads_p a_marks_p a_order_p a_targets_p a_words a_roots a_base a_top a_heads a_objects o1.1 o1.2.1 o1.2.2 a_targets ++ wBy cI b_p b_row_p o10.1 o10.2) rfl ?_
  obtain ⟨o12, ho12, hf⟩ := bnE hf
  refine g_callPv (n := 1) (As := [.int o11]) F (c_X0_addTwo l dC dI cI cJ cH b_p b_row_p o10.1 o10.2 o11 o12 ho12) ggX1_writeTo_X0_addTwo rfl rfl rfl (by decide +kernel) (by decide +kernel) (by decide +kernel) (by decide +kernel) (by decide +kernel) ⟨Nat.le_of_ble_eq_true rfl, Nat.le_of_ble_eq_true rfl⟩ ⟨Nat.le_of_ble_eq_true rfl, Nat.le_of_ble_eq_true rfl⟩ hN 7 rfl rfl rfl (wHp cI a_p a_words_p a_roots_p a_heads_p a_marks_p a_order_p a_targets_p a_words a_roots a_base a_top a_heads a_objects o1.1 o1.2.1 o1.2.2 a_targets) ([]) rfl (fun _ => rfl) rfl (Nat.le_of_ble_eq_true rfl) rfl dX1_writeTo_82 (cells' := 0) (slots' := 0) rfl rfl (fun u hp => ?_)
  subst hp
  refine g_ws (ws' := wHp cI a_p a_words_p a_roots_p a_heads_p a_marks_p a_order_p a_targets_p a_words a_roots a_base a_top a_heads a_objects o1.1 o1.2.1 o1.2.2 a_targets ++ wBy cI b_p b_row_p o12.1 o12.2) rfl ?_
  subst hQ
  exact g_vret F hlocks hr (o1.1, o1.2.1, o1.2.2, o12.1, o12.2) rfl (Option.some.inj hf).symm dX1_writeTo_85

/-! HeapImages$Heap.hasSameObject(ILHeapImages$Heap;I)Z -/
def rm_X1_hasSameObject : Room := { frames := 2, cells := 0, slots := 0, locals := 46 }
theorem h_X1_hasSameObject_1 : ∀ w ∈ wsX10, w ∈ wsX1_hasSameObject := by decide +kernel
def f_X1_hasSameObject_L51_s (a_words : (Nat → Int32)) (a_base : Int32) (a_marks : (Nat → Int32)) (b_words : (Nat → Int32)) (b_base : Int32) (b_marks : (Nat → Int32)) (y1 : Int32) (y3 : Int32) (y4 : Int32) (y5 : Int32) (rc : Int32 → Option Nat) (z6 : Int32) : Option Nat :=
  if y5 < z6 then some 0 else ck (inR (y1 + z6) 256) (nm (a_words (y1 + z6).toNatClampNeg) fun v9 => ck (inR (y3 + z6) 256) (nm (b_words (y3 + z6).toNatClampNeg) fun v11 => if y4 = 0 then Option.bind (f_X1_countOf a_base a_marks v9) fun o12 => Option.bind (f_X1_countOf b_base b_marks v11) fun o13 => if (lg_cmp o12 o13) = 0 then nm (z6 + (1 : Int32)) fun v14 => rc v14 else some 2 else if v9 = v11 then nm (z6 + (1 : Int32)) fun v15 => rc v15 else some 1))
def f_X1_hasSameObject_L51 (a_words : (Nat → Int32)) (a_base : Int32) (a_marks : (Nat → Int32)) (b_words : (Nat → Int32)) (b_base : Int32) (b_marks : (Nat → Int32)) (y1 : Int32) (y3 : Int32) (y4 : Int32) (y5 : Int32) : Nat → Int32 → Option Nat
  | 0, _ => none
  | n + 1, z6 => f_X1_hasSameObject_L51_s a_words a_base a_marks b_words b_base b_marks y1 y3 y4 y5 (f_X1_hasSameObject_L51 a_words a_base a_marks b_words b_base b_marks y1 y3 y4 y5 n) z6
set_option maxHeartbeats 4000000 in
theorem w_X1_hasSameObject_L51 {p : Program} {l : Launch} {e : Env} {s : State} {m : MethodId} {args : Array Value} {below : List Frame} {meth : Method} {c : Code} {A : Nat → Prop} {Q : State → Prop} {dC : Nat → ClassId} {dI : Nat → Nat → Nat} {cI cJ cH : ClassId} {a_p a_words_p a_roots_p a_heads_p a_marks_p a_order_p a_targets_p b_p b_words_p b_roots_p b_heads_p b_marks_p b_order_p b_targets_p : Nat} {a_words : (Nat → Int32)} {a_roots : (Nat → Int32)} {a_base : Int32} {a_top : Int32} {a_heads : (Nat → Int32)} {a_objects : Int32} {a_marks : (Nat → Int32)} {a_order : (Nat → Int32)} {a_reached : Int32} {a_targets : (Nat → Int32)} {b_words : (Nat → Int32)} {b_roots : (Nat → Int32)} {b_base : Int32} {b_top : Int32} {b_heads : (Nat → Int32)} {b_objects : Int32} {b_marks : (Nat → Int32)} {b_order : (Nat → Int32)} {b_reached : Int32} {b_targets : (Nat → Int32)} {y1 : Int32} {y3 : Int32} {y4 : Int32} {y5 : Int32} (F : gF p m c cX1_hasSameObject 9 s args wsX1_hasSameObject yX1_hasSameObject.cls (dC, dI) vwCl (gT cI cJ cH) A) (hN : ∀ w ∈ gN, va_Nw w s) : ∀ (n : Nat) (z6 : Int32) (o : Nat), f_X1_hasSameObject_L51 a_words a_base a_marks b_words b_base b_marks y1 y3 y4 y5 n z6 = some o → (o = 0 → gW p l e rm_X1_hasSameObject s m args below meth c 0 0 Q (dC, dI) vwCl A 9 (wHp cI a_p a_words_p a_roots_p a_heads_p a_marks_p a_order_p a_targets_p a_words a_roots a_base a_top a_heads a_objects a_marks a_order a_reached a_targets ++ wHp cI b_p b_words_p b_roots_p b_heads_p b_marks_p b_order_p b_targets_p b_words b_roots b_base b_top b_heads b_objects b_marks b_order b_reached b_targets) [] 119 []) → (o = 1 → gW p l e rm_X1_hasSameObject s m args below meth c 0 0 Q (dC, dI) vwCl A 9 (wHp cI a_p a_words_p a_roots_p a_heads_p a_marks_p a_order_p a_targets_p a_words a_roots a_base a_top a_heads a_objects a_marks a_order a_reached a_targets ++ wHp cI b_p b_words_p b_roots_p b_heads_p b_marks_p b_order_p b_targets_p b_words b_roots b_base b_top b_heads b_objects b_marks b_order b_reached b_targets) [] 92 []) → (o = 2 → gW p l e rm_X1_hasSameObject s m args below meth c 0 0 Q (dC, dI) vwCl A 9 (wHp cI a_p a_words_p a_roots_p a_heads_p a_marks_p a_order_p a_targets_p a_words a_roots a_base a_top a_heads a_objects a_marks a_order a_reached a_targets ++ wHp cI b_p b_words_p b_roots_p b_heads_p b_marks_p b_order_p b_targets_p b_words b_roots b_base b_top b_heads b_objects b_marks b_order b_reached b_targets) [] 111 []) → gW p l e rm_X1_hasSameObject s m args below meth c 0 0 Q (dC, dI) vwCl A 9 (wHp cI a_p a_words_p a_roots_p a_heads_p a_marks_p a_order_p a_targets_p a_words a_roots a_base a_top a_heads a_objects a_marks a_order a_reached a_targets ++ wHp cI b_p b_words_p b_roots_p b_heads_p b_marks_p b_order_p b_targets_p b_words b_roots b_base b_top b_heads b_objects b_marks b_order b_reached b_targets) [(0, .ref a_p), (1, .int y1), (2, .ref b_p), (3, .int y3), (4, .int y4), (5, .int y5), (6, .int z6)] 51 [] := by
  intro n
  induction n with
  | zero =>
    intro z6 o hf E0 E1 E2
    change none = some o at hf
    cases hf
  | succ n ih =>
    intro z6 o hf E0 E1 E2
    change f_X1_hasSameObject_L51_s a_words a_base a_marks b_words b_base b_marks y1 y3 y4 y5 (f_X1_hasSameObject_L51 a_words a_base a_marks b_words b_base b_marks y1 y3 y4 y5 n) z6 = some o at hf
    unfold f_X1_hasSameObject_L51_s at hf
    refine g_iload F dX1_hasSameObject_51 6 rfl ?_
    refine g_iload F dX1_hasSameObject_53 5 rfl ?_
    refine g_icmp_gt (tgt := 119) F dX1_hasSameObject_55 (by decide) (fun c55 => ?_) (fun c55 => ?_)
    · have hf := iteT hf c55
      cases hf
      refine g_lv [] rfl ?_
      exact E0 rfl
    · have hf := iteF hf c55
      refine g_aload_n F dX1_hasSameObject_58 rfl 0 rfl ?_
      refine g_get F h_X1_hasSameObject_1 0 rfl rfl 0 (by decide) (by decide +kernel) rfl dX1_hasSameObject_59 ?_
      refine g_iload_n F dX1_hasSameObject_62 rfl 1 rfl ?_
      refine g_iload F dX1_hasSameObject_63 6 rfl ?_
      refine g_iadd F dX1_hasSameObject_65 ?_
      obtain ⟨h8, hf⟩ := ckE hf
      refine g_iald F 1 0 rfl rfl h8 dX1_hasSameObject_66 ?_
      obtain ⟨v9, ev9, hf⟩ := nmE hf
      refine g_nmi ev9 ?_
      refine g_istore (lv' := [(7, .int v9), (0, .ref a_p), (1, .int y1), (2, .ref b_p), (3, .int y3), (4, .int y4), (5, .int y5), (6, .int z6)]) F dX1_hasSameObject_67 (by decide) rfl ?_
      refine g_aload_n F dX1_hasSameObject_69 rfl 3 rfl ?_
      refine g_get F h_X1_hasSameObject_1 7 rfl rfl 0 (by decide) (by decide +kernel) rfl dX1_hasSameObject_70 ?_
      refine g_iload_n F dX1_hasSameObject_73 rfl 4 rfl ?_
      refine g_iload F dX1_hasSameObject_74 7 rfl ?_
      refine g_iadd F dX1_hasSameObject_76 ?_
      obtain ⟨h10, hf⟩ := ckE hf
      refine g_iald F 8 0 rfl rfl h10 dX1_hasSameObject_77 ?_
      obtain ⟨v11, ev11, hf⟩ := nmE hf
      refine g_nmi ev11 ?_
      refine g_istore (lv' := [(8, .int v11), (7, .int v9), (0, .ref a_p), (1, .int y1), (2, .ref b_p), (3, .int y3), (4, .int y4), (5, .int y5), (6, .int z6)]) F dX1_hasSameObject_78 (by decide) rfl ?_
      refine g_iload F dX1_hasSameObject_80 6 rfl ?_
      refine g_if_eq (tgt := 95) F dX1_hasSameObject_82 (by decide) (fun c82 => ?_) (fun c82 => ?_)
      · have hf := iteT hf c82
        refine g_aload_n F dX1_hasSameObject_95 rfl 2 rfl ?_
        refine g_iload F dX1_hasSameObject_96 1 rfl ?_
        obtain ⟨o12, ho12, hf⟩ := bnE hf
        refine g_callVl (n := 1) (As := [.int v9]) F (c_X1_countOf l dC dI cI cJ cH a_p a_words_p a_roots_p a_heads_p a_marks_p a_order_p a_targets_p a_words a_roots a_base a_top a_heads a_objects a_marks a_order a_reached a_targets v9 o12 ho12) ggX1_hasSameObject_X1_countOf rfl rfl rfl (by decide +kernel) (by decide +kernel) (by decide +kernel) (by decide +kernel) (by decide +kernel) ⟨Nat.le_of_ble_eq_true rfl, Nat.le_of_ble_eq_true rfl⟩ ⟨Nat.le_of_ble_eq_true rfl, Nat.le_of_ble_eq_true rfl⟩ hN 0 rfl rfl rfl [0, 1, 2, 3, 4, 5, 6] rfl rfl (fun _ => rfl) rfl (Nat.le_of_ble_eq_true rfl) rfl dX1_hasSameObject_98 (cells' := 0) (slots' := 0) rfl rfl (fun r u hp => ?_)
        subst hp
        refine g_ws (ws' := wHp cI a_p a_words_p a_roots_p a_heads_p a_marks_p a_order_p a_targets_p a_words a_roots a_base a_top a_heads a_objects a_marks a_order a_reached a_targets ++ wHp cI b_p b_words_p b_roots_p b_heads_p b_marks_p b_order_p b_targets_p b_words b_roots b_base b_top b_heads b_objects b_marks b_order b_reached b_targets) rfl ?_
        refine g_aload_n F dX1_hasSameObject_101 rfl 4 rfl ?_
        refine g_iload F dX1_hasSameObject_102 0 rfl ?_
        obtain ⟨o13, ho13, hf⟩ := bnE hf
        refine g_callVl (n := 1) (As := [.int v11]) F (c_X1_countOf l dC dI cI cJ cH b_p b_words_p b_roots_p b_heads_p b_marks_p b_order_p b_targets_p b_words b_roots b_base b_top b_heads b_objects b_marks b_order b_reached b_targets v11 o13 ho13) ggX1_hasSameObject_X1_countOf rfl rfl rfl (by decide +kernel) (by decide +kernel) (by decide +kernel) (by decide +kernel) (by decide +kernel) ⟨Nat.le_of_ble_eq_true rfl, Nat.le_of_ble_eq_true rfl⟩ ⟨Nat.le_of_ble_eq_true rfl, Nat.le_of_ble_eq_true rfl⟩ hN 7 rfl rfl rfl [7, 8, 9, 10, 11, 12, 13] rfl rfl (fun _ => rfl) rfl (Nat.le_of_ble_eq_true rfl) rfl dX1_hasSameObject_104 (cells' := 0) (slots' := 0) rfl rfl (fun r u hp => ?_)
        subst hp
        refine g_ws (ws' := wHp cI a_p a_words_p a_roots_p a_heads_p a_marks_p a_order_p a_targets_p a_words a_roots a_base a_top a_heads a_objects a_marks a_order a_reached a_targets ++ wHp cI b_p b_words_p b_roots_p b_heads_p b_marks_p b_order_p b_targets_p b_words b_roots b_base b_top b_heads b_objects b_marks b_order b_reached b_targets) rfl ?_
        refine g_lcmp F dX1_hasSameObject_107 ?_
        refine g_if_eq (tgt := 113) F dX1_hasSameObject_108 (by decide) (fun c108 => ?_) (fun c108 => ?_)
        · have hf := iteT hf c108
          obtain ⟨v14, ev14, hf⟩ := nmE hf
          refine g_iinc (j := 8) (lv' := [(6, .int v14), (8, .int v11), (7, .int v9), (0, .ref a_p), (1, .int y1), (2, .ref b_p), (3, .int y3), (4, .int y4), (5, .int y5)]) F dX1_hasSameObject_113 rfl ev14.symm (by decide) rfl ?_
          refine g_goto (tgt := 51) F dX1_hasSameObject_116 (by decide) ?_
          refine g_lv [3, 4, 5, 6, 7, 8, 0] rfl ?_
          exact ih _ o hf E0 E1 E2
        · have hf := iteF hf c108
          cases hf
          refine g_lv [] rfl ?_
          exact E2 rfl
      · have hf := iteF hf c82
        refine g_iload F dX1_hasSameObject_85 1 rfl ?_
        refine g_iload F dX1_hasSameObject_87 0 rfl ?_
        refine g_icmp_eq (tgt := 113) F dX1_hasSameObject_89 (by decide) (fun c89 => ?_) (fun c89 => ?_)
        · have hf := iteT hf c89
          obtain ⟨v15, ev15, hf⟩ := nmE hf
          refine g_iinc (j := 8) (lv' := [(6, .int v15), (8, .int v11), (7, .int v9), (0, .ref a_p), (1, .int y1), (2, .ref b_p), (3, .int y3), (4, .int y4), (5, .int y5)]) F dX1_hasSameObject_113 rfl ev15.symm (by decide) rfl ?_
          refine g_goto (tgt := 51) F dX1_hasSameObject_116 (by decide) ?_
          refine g_lv [3, 4, 5, 6, 7, 8, 0] rfl ?_
          exact ih _ o hf E0 E1 E2
        · have hf := iteF hf c89
          cases hf
          refine g_lv [] rfl ?_
          exact E1 rfl
def f_X1_hasSameObject (a_words : (Nat → Int32)) (a_base : Int32) (a_marks : (Nat → Int32)) (b_words : (Nat → Int32)) (b_base : Int32) (b_marks : (Nat → Int32)) (x1 : Int32) (x3 : Int32) : Option Int32 :=
  ck (inR x1 256) (ck (inR x3 256) (if (a_words x1.toNatClampNeg) = (b_words x3.toNatClampNeg) then ck (inR x1 256) (Option.bind (f_X3_kindOf (a_words x1.toNatClampNeg)) fun o4 => Option.bind (α := Int32) (if o4 = (2 : Int32) then some (1 : Int32) else some (0 : Int32)) fun j5 => ck (inR x1 256) (Option.bind (f_X3_slotsOf (a_words x1.toNatClampNeg)) fun o7 => Option.bind (f_X1_hasSameObject_L51 a_words a_base a_marks b_words b_base b_marks x1 x3 j5 o7 FU (1 : Int32)) fun o16 => if o16 = 0 then some (1 : Int32) else if o16 = 1 then some (0 : Int32) else some (0 : Int32))) else some (0 : Int32)))
set_option maxHeartbeats 4000000 in
set_option maxRecDepth 100000 in
theorem c_X1_hasSameObject (l : Launch) (dC : Nat → ClassId) (dI : Nat → Nat → Nat) (cI cJ cH : ClassId) (a_p a_words_p a_roots_p a_heads_p a_marks_p a_order_p a_targets_p b_p b_words_p b_roots_p b_heads_p b_marks_p b_order_p b_targets_p : Nat)  (a_words : (Nat → Int32)) (a_roots : (Nat → Int32)) (a_base : Int32) (a_top : Int32) (a_heads : (Nat → Int32)) (a_objects : Int32) (a_marks : (Nat → Int32)) (a_order : (Nat → Int32)) (a_reached : Int32) (a_targets : (Nat → Int32)) (b_words : (Nat → Int32)) (b_roots : (Nat → Int32)) (b_base : Int32) (b_top : Int32) (b_heads : (Nat → Int32)) (b_objects : Int32) (b_marks : (Nat → Int32)) (b_order : (Nat → Int32)) (b_reached : Int32) (b_targets : (Nat → Int32)) (x1 : Int32) (x3 : Int32) (o : Int32) (hf : f_X1_hasSameObject a_words a_base a_marks b_words b_base b_marks x1 x3 = some o) : ∀ sz : Nat, Met l yX1_hasSameObject wsX1_hasSameObject rm_X1_hasSameObject (gPre [.ref a_p, .int x1, .ref b_p, .int x3] (dC, dI) vwCl (gT cI cJ cH) (wHp cI a_p a_words_p a_roots_p a_heads_p a_marks_p a_order_p a_targets_p a_words a_roots a_base a_top a_heads a_objects a_marks a_order a_reached a_targets ++ wHp cI b_p b_words_p b_roots_p b_heads_p b_marks_p b_order_p b_targets_p b_words b_roots b_base b_top b_heads b_objects b_marks b_order b_reached b_targets) sz) (va_Qi (fun (r : Int32) (u : Unit) => o = r) (gB (dC, dI) vwCl (gT cI cJ cH) (fun (u : Unit) => wHp cI a_p a_words_p a_roots_p a_heads_p a_marks_p a_order_p a_targets_p a_words a_roots a_base a_top a_heads a_objects a_marks a_order a_reached a_targets ++ wHp cI b_p b_words_p b_roots_p b_heads_p b_marks_p b_order_p b_targets_p b_words b_roots b_base b_top b_heads b_objects b_marks b_order b_reached b_targets) (va_A (wHp cI a_p a_words_p a_roots_p a_heads_p a_marks_p a_order_p a_targets_p a_words a_roots a_base a_top a_heads a_objects a_marks a_order a_reached a_targets ++ wHp cI b_p b_words_p b_roots_p b_heads_p b_marks_p b_order_p b_targets_p b_words b_roots b_base b_top b_heads b_objects b_marks b_order b_reached b_targets) sz)) (va_A (wHp cI a_p a_words_p a_roots_p a_heads_p a_marks_p a_order_p a_targets_p a_words a_roots a_base a_top a_heads a_objects a_marks a_order a_reached a_targets ++ wHp cI b_p b_words_p b_roots_p b_heads_p b_marks_p b_order_p b_targets_p b_words b_roots b_base b_top b_heads b_objects b_marks b_order b_reached b_targets) sz)) 0 0 (va_A (wHp cI a_p a_words_p a_roots_p a_heads_p a_marks_p a_order_p a_targets_p a_words a_roots a_base a_top a_heads a_objects a_marks a_order a_reached a_targets ++ wHp cI b_p b_words_p b_roots_p b_heads_p b_marks_p b_order_p b_targets_p b_words b_roots b_base b_top b_heads b_objects b_marks b_order b_reached b_targets) sz) := by
  refine g_met (fun A => va_Qi (fun (r : Int32) (u : Unit) => o = r) (gB (dC, dI) vwCl (gT cI cJ cH) (fun (u : Unit) => wHp cI a_p a_words_p a_roots_p a_heads_p a_marks_p a_order_p a_targets_p a_words a_roots a_base a_top a_heads a_objects a_marks a_order a_reached a_targets ++ wHp cI b_p b_words_p b_roots_p b_heads_p b_marks_p b_order_p b_targets_p b_words b_roots b_base b_top b_heads b_objects b_marks b_order b_reached b_targets) A) A) (by decide) rfl (Nat.le_of_ble_eq_true rfl) ?_
  intro p e s m args below meth c A Q F hlocks hr hname hN hQ
  unfold f_X1_hasSameObject at hf
  refine g_lvE (lv' := [(0, .ref a_p), (1, .int x1), (2, .ref b_p), (3, .int x3)]) rfl ?_
  refine g_aload_n F dX1_hasSameObject_0 rfl 0 rfl ?_
  refine g_get F h_X1_hasSameObject_1 0 rfl rfl 0 (by decide) (by decide +kernel) rfl dX1_hasSameObject_1 ?_
  refine g_iload_n F dX1_hasSameObject_4 rfl 1 rfl ?_
  obtain ⟨h1, hf⟩ := ckE hf
  refine g_iald F 1 0 rfl rfl h1 dX1_hasSameObject_5 ?_
  refine g_aload_n F dX1_hasSameObject_6 rfl 2 rfl ?_
  refine g_get F h_X1_hasSameObject_1 7 rfl rfl 0 (by decide) (by decide +kernel) rfl dX1_hasSameObject_7 ?_
  refine g_iload_n F dX1_hasSameObject_10 rfl 3 rfl ?_
  obtain ⟨h2, hf⟩ := ckE hf
  refine g_iald F 8 0 rfl rfl h2 dX1_hasSameObject_11 ?_
  refine g_icmp_eq (tgt := 17) F dX1_hasSameObject_12 (by decide) (fun c12 => ?_) (fun c12 => ?_)
  · have hf := iteT hf c12
    refine g_aload_n F dX1_hasSameObject_17 rfl 0 rfl ?_
    refine g_get F h_X1_hasSameObject_1 0 rfl rfl 0 (by decide) (by decide +kernel) rfl dX1_hasSameObject_18 ?_
    refine g_iload_n F dX1_hasSameObject_21 rfl 1 rfl ?_
    obtain ⟨h3, hf⟩ := ckE hf
    refine g_iald F 1 0 rfl rfl h3 dX1_hasSameObject_22 ?_
    obtain ⟨o4, ho4, hf⟩ := bnE hf
    refine g_callNi (host := "HeapImages") (n := 1) (As := [.int (a_words x1.toNatClampNeg)]) F (c_X3_kindOf l dC dI cI cJ cH (a_words x1.toNatClampNeg) o4 ho4) ggX1_hasSameObject_X3_kindOf rfl rfl rfl (by decide +kernel) (hN _ (by decide +kernel)) (by decide +kernel) (by decide +kernel) ⟨Nat.le_of_ble_eq_true rfl, Nat.le_of_ble_eq_true rfl⟩ ⟨Nat.le_of_ble_eq_true rfl, Nat.le_of_ble_eq_true rfl⟩ hN [] rfl rfl (fun _ => rfl) rfl (Nat.le_of_ble_eq_true rfl) rfl dX1_hasSameObject_23 (cells' := 0) (slots' := 0) rfl rfl (fun r u hp => ?_)
    subst hp
    refine g_ws (ws' := wHp cI a_p a_words_p a_roots_p a_heads_p a_marks_p a_order_p a_targets_p a_words a_roots a_base a_top a_heads a_objects a_marks a_order a_reached a_targets ++ wHp cI b_p b_words_p b_roots_p b_heads_p b_marks_p b_order_p b_targets_p b_words b_roots b_base b_top b_heads b_objects b_marks b_order b_reached b_targets) rfl ?_
    refine g_iconst (v := 2) F dX1_hasSameObject_26 rfl ?_
    obtain ⟨j5, hj5, hf⟩ := bnE hf
    have Kj5 : gW p l e rm_X1_hasSameObject s m args below meth c 0 0 Q (dC, dI) vwCl A 9 (wHp cI a_p a_words_p a_roots_p a_heads_p a_marks_p a_order_p a_targets_p a_words a_roots a_base a_top a_heads a_objects a_marks a_order a_reached a_targets ++ wHp cI b_p b_words_p b_roots_p b_heads_p b_marks_p b_order_p b_targets_p b_words b_roots b_base b_top b_heads b_objects b_marks b_order b_reached b_targets) [(0, .ref a_p), (1, .int x1), (2, .ref b_p), (3, .int x3)] 35 [.int j5] := by
      refine g_istore (lv' := [(4, .int j5), (0, .ref a_p), (1, .int x1), (2, .ref b_p), (3, .int x3)]) F dX1_hasSameObject_35 (by decide) rfl ?_
      refine g_aload_n F dX1_hasSameObject_37 rfl 1 rfl ?_
      refine g_get F h_X1_hasSameObject_1 0 rfl rfl 0 (by decide) (by decide +kernel) rfl dX1_hasSameObject_38 ?_
      refine g_iload_n F dX1_hasSameObject_41 rfl 2 rfl ?_
      obtain ⟨h6, hf⟩ := ckE hf
      refine g_iald F 1 0 rfl rfl h6 dX1_hasSameObject_42 ?_
      obtain ⟨o7, ho7, hf⟩ := bnE hf
      refine g_callNi (host := "HeapImages") (n := 1) (As := [.int (a_words x1.toNatClampNeg)]) F (c_X3_slotsOf l dC dI cI cJ cH (a_words x1.toNatClampNeg) o7 ho7) ggX1_hasSameObject_X3_slotsOf rfl rfl rfl (by decide +kernel) (hN _ (by decide +kernel)) (by decide +kernel) (by decide +kernel) ⟨Nat.le_of_ble_eq_true rfl, Nat.le_of_ble_eq_true rfl⟩ ⟨Nat.le_of_ble_eq_true rfl, Nat.le_of_ble_eq_true rfl⟩ hN [] rfl rfl (fun _ => rfl) rfl (Nat.le_of_ble_eq_true rfl) rfl dX1_hasSameObject_43 (cells' := 0) (slots' := 0) rfl rfl (fun r u hp => ?_)
      subst hp
      refine g_ws (ws' := wHp cI a_p a_words_p a_roots_p a_heads_p a_marks_p a_order_p a_targets_p a_words a_roots a_base a_top a_heads a_objects a_marks a_order a_reached a_targets ++ wHp cI b_p b_words_p b_roots_p b_heads_p b_marks_p b_order_p b_targets_p b_words b_roots b_base b_top b_heads b_objects b_marks b_order b_reached b_targets) rfl ?_
      refine g_istore (lv' := [(5, .int o7), (4, .int j5), (0, .ref a_p), (1, .int x1), (2, .ref b_p), (3, .int x3)]) F dX1_hasSameObject_46 (by decide) rfl ?_
      refine g_iconst (v := 1) F dX1_hasSameObject_48 rfl ?_
      refine g_istore (lv' := [(6, .int (1 : Int32)), (5, .int o7), (4, .int j5), (0, .ref a_p), (1, .int x1), (2, .ref b_p), (3, .int x3)]) F dX1_hasSameObject_49 (by decide) rfl ?_
      obtain ⟨o16, ho16, hf⟩ := bnE hf
      refine g_lv [3, 4, 5, 6, 2, 1, 0] rfl ?_
      refine w_X1_hasSameObject_L51 F hN FU _ o16 ho16 ?_ ?_ ?_
      · intro hk
        have hf := iteT hf hk
        refine g_iconst (v := 1) F dX1_hasSameObject_119 rfl ?_
        subst hQ
        exact g_zret F hlocks hr rfl () rfl (Option.some.inj hf).symm dX1_hasSameObject_120
      · intro hk
        have hf := iteF hf (by rw [hk]; decide)
        have hf := iteT hf hk
        refine g_goto (tgt := 111) F dX1_hasSameObject_92 (by decide) ?_
        refine g_iconst (v := 0) F dX1_hasSameObject_111 rfl ?_
        subst hQ
        exact g_zret F hlocks hr rfl () rfl (Option.some.inj hf).symm dX1_hasSameObject_112
      · intro hk
        have hf := iteF hf (by rw [hk]; decide)
        have hf := iteF hf (by rw [hk]; decide)
        refine g_iconst (v := 0) F dX1_hasSameObject_111 rfl ?_
        subst hQ
        exact g_zret F hlocks hr rfl () rfl (Option.some.inj hf).symm dX1_hasSameObject_112
    clear hf
    have hf := hj5
    refine g_icmp_ne (tgt := 34) F dX1_hasSameObject_27 (by decide) (fun c27 => ?_) (fun c27 => ?_)
    · have hf := iteF hf c27
      refine g_iconst (v := 0) F dX1_hasSameObject_34 rfl ?_
      cases hf
      refine g_lv [0, 1, 2, 3] rfl ?_
      exact Kj5
    · have hf := iteT hf c27
      refine g_iconst (v := 1) F dX1_hasSameObject_30 rfl ?_
      refine g_goto (tgt := 35) F dX1_hasSameObject_31 (by decide) ?_
      cases hf
      refine g_lv [0, 1, 2, 3] rfl ?_
      exact Kj5
  · have hf := iteF hf c12
    refine g_iconst (v := 0) F dX1_hasSameObject_15 rfl ?_
    subst hQ
    exact g_zret F hlocks hr rfl () rfl (Option.some.inj hf).symm dX1_hasSameObject_16
