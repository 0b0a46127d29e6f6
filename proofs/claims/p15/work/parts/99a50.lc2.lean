set_option maxHeartbeats 4000000 in
set_option maxRecDepth 100000 in
theorem lc_6 {p : Program} {l : Launch} {e : Env} {st : State} {m : MethodId} {below : List Frame} {meth : Method} {c : Code} {cells slots bs L i : Nat} {xs : Nat → Int32} {x4 : Int32} {Q : State → Prop} {dC : Nat → ClassId} {dI : Nat → Nat → Nat} {cI cJ cH : ClassId} {A : Nat → Prop} {a : CA} {b : RA} {op : Nat} {s : CS} {r : RS} {oc : Nat → Int64} (hlt : l.stackTraces = false) (F : gF p m c code 7 st #[.ref bs] wsL_law RL (dC, dI) vwCl (gT cI cJ cH) A) (hN : ∀ w ∈ gN, va_Nw w st) (hXw : ∀ w ∈ gXw, va_Nw w st) (hZ : gZ A st) (hC0 : ∀ q ∈ gNc, va_Nc q.1 q.2 st) (hX : va_X bs L xs st st.heap) (hbl : bs < st.heap.size) (hbA : ¬ A bs) (hx4 : x4 = Int32.ofNat i) (hi : i + 5 ≤ L) (hL : L ≤ 2560) (hcl : cells + 4 ≤ room_1.cells) (hsl : slots + 24 ≤ room_1.slots) (o : CS × RS × (Nat → Int64)) (hf : sc_6 (xs (i + 1)) (xs (i + 2)) (xs (i + 3)) (xs (i + 4)) s r oc = some o) (k : ∀ a2 : CA, a2.1 = a.1 → gW p l e room_1 st m #[.ref bs] below meth c (cells + 4) (slots + 24) Q (dC, dI) vwCl A 7 (wCS cI cH a2 o.1 ++ wLo cJ op o.2.2 ++ wRS cI b o.2.1) [(4, .int x4), (3, .ref op), (2, .ref b.1), (1, .ref a.1), (0, .ref bs)] 787 []) : gW p l e room_1 st m #[.ref bs] below meth c cells slots Q (dC, dI) vwCl A 7 (wCS cI cH a s ++ wLo cJ op oc ++ wRS cI b r) [(4, .int x4), (3, .ref op), (2, .ref b.1), (1, .ref a.1), (0, .ref bs)] 432 [] := by
  unfold sc_6 at hf
  refine g_aload_n F dL_law_432 rfl 3 rfl ?_
  refine g_aload_n F dL_law_433 rfl 4 rfl ?_
  refine g_iload F dL_law_434 0 rfl ?_
  refine g_iconst (v := 1) F dL_law_436 rfl ?_
  refine g_iadd F dL_law_437 ?_
  refine g_sld (j := i + 1) F hX hbl hbA (by rw [hx4]; exact (Int32.ofNat_add i 1).symm) (by omega) (by omega) dL_law_438 ?_
  refine g_aload_n F dL_law_439 rfl 1 rfl ?_
  obtain ⟨o1, ho1, hf⟩ := bnE hf
  refine g_callSWP (n := 3) (As := [.ref a.1, .int (xs (i + 1)), .ref op]) F (c_L_check l hlt dC dI cI cJ cH a s op oc (xs (i + 1)) o1 ho1) ggL_law_L_check (by decide +kernel) (by decide +kernel) (by decide +kernel) rfl rfl rfl (by decide +kernel) ⟨Nat.le_of_ble_eq_true rfl, Nat.le_of_ble_eq_true rfl⟩ ⟨by omega, by omega⟩ hN hXw hZ hC0 [] (wRS cI b r) rfl (fun _ => rfl) rfl (Nat.le_of_ble_eq_true rfl) rfl dL_law_440 (cells' := cells + 1) (slots' := slots + 6) (by omega) (by omega) (fun r0 u hp => ?_)
  obtain ⟨hp1, hp2⟩ := hp
  subst hp1
  subst hp2
  refine g_sw (sw := o1.2.2.2) (s := o1.2.1) (a := a) (show _ = wCSw cI cH a o1.2.2.2 o1.2.1 ++ wLo cJ op o1.2.2.1 ++ wRS cI b r from rfl) ?_
  refine g_istore F dL_law_443 (by decide) (lv' := [(5, .int o1.1), (4, .int x4), (3, .ref op), (2, .ref b.1), (1, .ref a.1), (0, .ref bs)]) rfl ?_
  refine g_aload_n F dL_law_445 rfl 3 rfl ?_
  refine g_aload_n F dL_law_446 rfl 5 rfl ?_
  refine g_iload F dL_law_447 1 rfl ?_
  refine g_iconst (v := 1) F dL_law_449 rfl ?_
  refine g_iadd F dL_law_450 ?_
  refine g_sld (j := i + 1) F hX hbl hbA (by rw [hx4]; exact (Int32.ofNat_add i 1).symm) (by omega) (by omega) dL_law_451 ?_
  obtain ⟨o2, ho2, hf⟩ := bnE hf
  unfold p4_check at ho2
  obtain ⟨uo2, huo2, ho2⟩ := bnE ho2
  cases ho2
  refine g_callPi (n := 1) (As := [.int (xs (i + 1))]) (C := RX4) F (c_X4_check l dC dI cI cJ cH b.1 b.2.1 b.2.2.1 b.2.2.2.1 b.2.2.2.2.1 b.2.2.2.2.2.1 b.2.2.2.2.2.2.1 b.2.2.2.2.2.2.2.1 b.2.2.2.2.2.2.2.2.1 b.2.2.2.2.2.2.2.2.2.1 b.2.2.2.2.2.2.2.2.2.2.1 b.2.2.2.2.2.2.2.2.2.2.2.1 b.2.2.2.2.2.2.2.2.2.2.2.2.1 b.2.2.2.2.2.2.2.2.2.2.2.2.2 r.1 r.2.1 r.2.2.1 r.2.2.2.1 r.2.2.2.2.1 r.2.2.2.2.2.1 r.2.2.2.2.2.2.1 r.2.2.2.2.2.2.2.1 r.2.2.2.2.2.2.2.2.1 r.2.2.2.2.2.2.2.2.2.1 r.2.2.2.2.2.2.2.2.2.2.1 r.2.2.2.2.2.2.2.2.2.2.2.1 r.2.2.2.2.2.2.2.2.2.2.2.2.1 r.2.2.2.2.2.2.2.2.2.2.2.2.2.1 r.2.2.2.2.2.2.2.2.2.2.2.2.2.2.1 r.2.2.2.2.2.2.2.2.2.2.2.2.2.2.2.1 r.2.2.2.2.2.2.2.2.2.2.2.2.2.2.2.2.1 r.2.2.2.2.2.2.2.2.2.2.2.2.2.2.2.2.2.1 r.2.2.2.2.2.2.2.2.2.2.2.2.2.2.2.2.2.2.1 r.2.2.2.2.2.2.2.2.2.2.2.2.2.2.2.2.2.2.2.1 r.2.2.2.2.2.2.2.2.2.2.2.2.2.2.2.2.2.2.2.2.1 r.2.2.2.2.2.2.2.2.2.2.2.2.2.2.2.2.2.2.2.2.2.1 r.2.2.2.2.2.2.2.2.2.2.2.2.2.2.2.2.2.2.2.2.2.2 (xs (i + 1)) uo2 huo2) ggL_law_X4_check rfl rfl rfl (by decide +kernel) (by decide +kernel) (by decide +kernel) (by decide +kernel) (by decide +kernel) ⟨Nat.le_of_ble_eq_true rfl, Nat.le_of_ble_eq_true rfl⟩ ⟨by omega, by omega⟩ hN 29 rfl rfl rfl (wCS cI cH (swA o1.2.2.2 a) (swS o1.2.2.2 o1.2.1) ++ wLo cJ op o1.2.2.1) [] rfl (fun _ => rfl) rfl (Nat.le_of_ble_eq_true rfl) rfl dL_law_452 (cells' := cells + 1) (slots' := slots + 6) rfl rfl (fun r0 u hp => ?_)
  obtain ⟨hp1, hp2⟩ := hp
  subst hp1
  subst hp2
  refine g_ws (ws' := wCS cI cH (swA o1.2.2.2 a) (swS o1.2.2.2 o1.2.1) ++ wLo cJ op o1.2.2.1 ++ wRS cI b (uo2.2, r.2.1, r.2.2.1, r.2.2.2.1, r.2.2.2.2.1, r.2.2.2.2.2.1, r.2.2.2.2.2.2.1, r.2.2.2.2.2.2.2.1, r.2.2.2.2.2.2.2.2.1, r.2.2.2.2.2.2.2.2.2.1, r.2.2.2.2.2.2.2.2.2.2.1, r.2.2.2.2.2.2.2.2.2.2.2.1, r.2.2.2.2.2.2.2.2.2.2.2.2.1, r.2.2.2.2.2.2.2.2.2.2.2.2.2.1, r.2.2.2.2.2.2.2.2.2.2.2.2.2.2.1, r.2.2.2.2.2.2.2.2.2.2.2.2.2.2.2.1, r.2.2.2.2.2.2.2.2.2.2.2.2.2.2.2.2.1, r.2.2.2.2.2.2.2.2.2.2.2.2.2.2.2.2.2.1, r.2.2.2.2.2.2.2.2.2.2.2.2.2.2.2.2.2.2.1, r.2.2.2.2.2.2.2.2.2.2.2.2.2.2.2.2.2.2.2.1, r.2.2.2.2.2.2.2.2.2.2.2.2.2.2.2.2.2.2.2.2.1, r.2.2.2.2.2.2.2.2.2.2.2.2.2.2.2.2.2.2.2.2.2.1, r.2.2.2.2.2.2.2.2.2.2.2.2.2.2.2.2.2.2.2.2.2.2)) rfl ?_
  refine g_istore F dL_law_455 (by decide) (lv' := [(6, .int uo2.1), (5, .int o1.1), (4, .int x4), (3, .ref op), (2, .ref b.1), (1, .ref a.1), (0, .ref bs)]) rfl ?_
  refine g_goto (tgt := 787) F dL_law_457 rfl ?_
  cases hf
  refine g_lv [2, 3, 4, 5, 6] rfl ?_
  refine g_widen (k := cells + 4) (n := slots + 24) (by omega) (by omega) ?_
  exact k _ (swA_1 _ _)
set_option maxHeartbeats 4000000 in
set_option maxRecDepth 100000 in
theorem lc_7 {p : Program} {l : Launch} {e : Env} {st : State} {m : MethodId} {below : List Frame} {meth : Method} {c : Code} {cells slots bs L i : Nat} {xs : Nat → Int32} {x4 : Int32} {Q : State → Prop} {dC : Nat → ClassId} {dI : Nat → Nat → Nat} {cI cJ cH : ClassId} {A : Nat → Prop} {a : CA} {b : RA} {op : Nat} {s : CS} {r : RS} {oc : Nat → Int64} (hlt : l.stackTraces = false) (F : gF p m c code 7 st #[.ref bs] wsL_law RL (dC, dI) vwCl (gT cI cJ cH) A) (hN : ∀ w ∈ gN, va_Nw w st) (hXw : ∀ w ∈ gXw, va_Nw w st) (hZ : gZ A st) (hC0 : ∀ q ∈ gNc, va_Nc q.1 q.2 st) (hX : va_X bs L xs st st.heap) (hbl : bs < st.heap.size) (hbA : ¬ A bs) (hx4 : x4 = Int32.ofNat i) (hi : i + 5 ≤ L) (hL : L ≤ 2560) (hcl : cells + 4 ≤ room_1.cells) (hsl : slots + 24 ≤ room_1.slots) (o : CS × RS × (Nat → Int64)) (hf : sc_7 (xs (i + 1)) (xs (i + 2)) (xs (i + 3)) (xs (i + 4)) s r oc = some o) (k : ∀ a2 : CA, a2.1 = a.1 → gW p l e room_1 st m #[.ref bs] below meth c (cells + 4) (slots + 24) Q (dC, dI) vwCl A 7 (wCS cI cH a2 o.1 ++ wLo cJ op o.2.2 ++ wRS cI b o.2.1) [(4, .int x4), (3, .ref op), (2, .ref b.1), (1, .ref a.1), (0, .ref bs)] 787 []) : gW p l e room_1 st m #[.ref bs] below meth c cells slots Q (dC, dI) vwCl A 7 (wCS cI cH a s ++ wLo cJ op oc ++ wRS cI b r) [(4, .int x4), (3, .ref op), (2, .ref b.1), (1, .ref a.1), (0, .ref bs)] 460 [] := by
  unfold sc_7 at hf
  refine g_aload_n F dL_law_460 rfl 3 rfl ?_
  refine g_aload_n F dL_law_461 rfl 4 rfl ?_
  refine g_iload F dL_law_462 0 rfl ?_
  refine g_iconst (v := 1) F dL_law_464 rfl ?_
  refine g_iadd F dL_law_465 ?_
  refine g_sld (j := i + 1) F hX hbl hbA (by rw [hx4]; exact (Int32.ofNat_add i 1).symm) (by omega) (by omega) dL_law_466 ?_
  refine g_aload_n F dL_law_467 rfl 4 rfl ?_
  refine g_iload F dL_law_468 0 rfl ?_
  refine g_iconst (v := 2) F dL_law_470 rfl ?_
  refine g_iadd F dL_law_471 ?_
  refine g_sld (j := i + 2) F hX hbl hbA (by rw [hx4]; exact (Int32.ofNat_add i 2).symm) (by omega) (by omega) dL_law_472 ?_
  refine g_aload_n F dL_law_473 rfl 1 rfl ?_
  obtain ⟨o1, ho1, hf⟩ := bnE hf
  refine g_callSWP (n := 4) (As := [.ref a.1, .int (xs (i + 1)), .int (xs (i + 2)), .ref op]) F (c_L_move l hlt dC dI cI cJ cH a s op oc (xs (i + 1)) (xs (i + 2)) o1 ho1) ggL_law_L_move (by decide +kernel) (by decide +kernel) (by decide +kernel) rfl rfl rfl (by decide +kernel) ⟨Nat.le_of_ble_eq_true rfl, Nat.le_of_ble_eq_true rfl⟩ ⟨by omega, by omega⟩ hN hXw hZ hC0 [] (wRS cI b r) rfl (fun _ => rfl) rfl (Nat.le_of_ble_eq_true rfl) rfl dL_law_474 (cells' := cells + 3) (slots' := slots + 18) (by omega) (by omega) (fun r0 u hp => ?_)
  obtain ⟨hp1, hp2⟩ := hp
  subst hp1
  subst hp2
  refine g_sw (sw := o1.2.2.2) (s := o1.2.1) (a := a) (show _ = wCSw cI cH a o1.2.2.2 o1.2.1 ++ wLo cJ op o1.2.2.1 ++ wRS cI b r from rfl) ?_
  refine g_istore F dL_law_477 (by decide) (lv' := [(5, .int o1.1), (4, .int x4), (3, .ref op), (2, .ref b.1), (1, .ref a.1), (0, .ref bs)]) rfl ?_
  refine g_aload_n F dL_law_479 rfl 3 rfl ?_
  refine g_aload_n F dL_law_480 rfl 5 rfl ?_
  refine g_iload F dL_law_481 1 rfl ?_
  refine g_iconst (v := 1) F dL_law_483 rfl ?_
  refine g_iadd F dL_law_484 ?_
  refine g_sld (j := i + 1) F hX hbl hbA (by rw [hx4]; exact (Int32.ofNat_add i 1).symm) (by omega) (by omega) dL_law_485 ?_
  refine g_aload_n F dL_law_486 rfl 5 rfl ?_
  refine g_iload F dL_law_487 1 rfl ?_
  refine g_iconst (v := 2) F dL_law_489 rfl ?_
  refine g_iadd F dL_law_490 ?_
  refine g_sld (j := i + 2) F hX hbl hbA (by rw [hx4]; exact (Int32.ofNat_add i 2).symm) (by omega) (by omega) dL_law_491 ?_
  obtain ⟨o2, ho2, hf⟩ := bnE hf
  unfold p4_move at ho2
  obtain ⟨uo2, huo2, ho2⟩ := bnE ho2
  cases ho2
  refine g_callPi (n := 2) (As := [.int (xs (i + 1)), .int (xs (i + 2))]) (C := RX4) F (c_X4_move l dC dI cI cJ cH b.1 b.2.1 b.2.2.1 b.2.2.2.1 b.2.2.2.2.1 b.2.2.2.2.2.1 b.2.2.2.2.2.2.1 b.2.2.2.2.2.2.2.1 b.2.2.2.2.2.2.2.2.1 b.2.2.2.2.2.2.2.2.2.1 b.2.2.2.2.2.2.2.2.2.2.1 b.2.2.2.2.2.2.2.2.2.2.2.1 b.2.2.2.2.2.2.2.2.2.2.2.2.1 b.2.2.2.2.2.2.2.2.2.2.2.2.2 r.1 r.2.1 r.2.2.1 r.2.2.2.1 r.2.2.2.2.1 r.2.2.2.2.2.1 r.2.2.2.2.2.2.1 r.2.2.2.2.2.2.2.1 r.2.2.2.2.2.2.2.2.1 r.2.2.2.2.2.2.2.2.2.1 r.2.2.2.2.2.2.2.2.2.2.1 r.2.2.2.2.2.2.2.2.2.2.2.1 r.2.2.2.2.2.2.2.2.2.2.2.2.1 r.2.2.2.2.2.2.2.2.2.2.2.2.2.1 r.2.2.2.2.2.2.2.2.2.2.2.2.2.2.1 r.2.2.2.2.2.2.2.2.2.2.2.2.2.2.2.1 r.2.2.2.2.2.2.2.2.2.2.2.2.2.2.2.2.1 r.2.2.2.2.2.2.2.2.2.2.2.2.2.2.2.2.2.1 r.2.2.2.2.2.2.2.2.2.2.2.2.2.2.2.2.2.2.1 r.2.2.2.2.2.2.2.2.2.2.2.2.2.2.2.2.2.2.2.1 r.2.2.2.2.2.2.2.2.2.2.2.2.2.2.2.2.2.2.2.2.1 r.2.2.2.2.2.2.2.2.2.2.2.2.2.2.2.2.2.2.2.2.2.1 r.2.2.2.2.2.2.2.2.2.2.2.2.2.2.2.2.2.2.2.2.2.2 (xs (i + 1)) (xs (i + 2)) uo2 huo2) ggL_law_X4_move rfl rfl rfl (by decide +kernel) (by decide +kernel) (by decide +kernel) (by decide +kernel) (by decide +kernel) ⟨Nat.le_of_ble_eq_true rfl, Nat.le_of_ble_eq_true rfl⟩ ⟨by omega, by omega⟩ hN 29 rfl rfl rfl (wCS cI cH (swA o1.2.2.2 a) (swS o1.2.2.2 o1.2.1) ++ wLo cJ op o1.2.2.1) [] rfl (fun _ => rfl) rfl (Nat.le_of_ble_eq_true rfl) rfl dL_law_492 (cells' := cells + 3) (slots' := slots + 18) rfl rfl (fun r0 u hp => ?_)
  obtain ⟨hp1, hp2⟩ := hp
  subst hp1
  subst hp2
  refine g_ws (ws' := wCS cI cH (swA o1.2.2.2 a) (swS o1.2.2.2 o1.2.1) ++ wLo cJ op o1.2.2.1 ++ wRS cI b (uo2.2.1, uo2.2.2.1, r.2.2.1, uo2.2.2.2.1, uo2.2.2.2.2, r.2.2.2.2.2.1, r.2.2.2.2.2.2.1, r.2.2.2.2.2.2.2.1, r.2.2.2.2.2.2.2.2.1, r.2.2.2.2.2.2.2.2.2.1, r.2.2.2.2.2.2.2.2.2.2.1, r.2.2.2.2.2.2.2.2.2.2.2.1, r.2.2.2.2.2.2.2.2.2.2.2.2.1, r.2.2.2.2.2.2.2.2.2.2.2.2.2.1, r.2.2.2.2.2.2.2.2.2.2.2.2.2.2.1, r.2.2.2.2.2.2.2.2.2.2.2.2.2.2.2.1, r.2.2.2.2.2.2.2.2.2.2.2.2.2.2.2.2.1, r.2.2.2.2.2.2.2.2.2.2.2.2.2.2.2.2.2.1, r.2.2.2.2.2.2.2.2.2.2.2.2.2.2.2.2.2.2.1, r.2.2.2.2.2.2.2.2.2.2.2.2.2.2.2.2.2.2.2.1, r.2.2.2.2.2.2.2.2.2.2.2.2.2.2.2.2.2.2.2.2.1, r.2.2.2.2.2.2.2.2.2.2.2.2.2.2.2.2.2.2.2.2.2.1, r.2.2.2.2.2.2.2.2.2.2.2.2.2.2.2.2.2.2.2.2.2.2)) rfl ?_
  refine g_istore F dL_law_495 (by decide) (lv' := [(6, .int uo2.1), (5, .int o1.1), (4, .int x4), (3, .ref op), (2, .ref b.1), (1, .ref a.1), (0, .ref bs)]) rfl ?_
  refine g_goto (tgt := 787) F dL_law_497 rfl ?_
  cases hf
  refine g_lv [2, 3, 4, 5, 6] rfl ?_
  refine g_widen (k := cells + 4) (n := slots + 24) (by omega) (by omega) ?_
  exact k _ (swA_1 _ _)
set_option maxHeartbeats 4000000 in
set_option maxRecDepth 100000 in
theorem lc_8 {p : Program} {l : Launch} {e : Env} {st : State} {m : MethodId} {below : List Frame} {meth : Method} {c : Code} {cells slots bs L i : Nat} {xs : Nat → Int32} {x4 : Int32} {Q : State → Prop} {dC : Nat → ClassId} {dI : Nat → Nat → Nat} {cI cJ cH : ClassId} {A : Nat → Prop} {a : CA} {b : RA} {op : Nat} {s : CS} {r : RS} {oc : Nat → Int64} (hlt : l.stackTraces = false) (F : gF p m c code 7 st #[.ref bs] wsL_law RL (dC, dI) vwCl (gT cI cJ cH) A) (hN : ∀ w ∈ gN, va_Nw w st) (hXw : ∀ w ∈ gXw, va_Nw w st) (hZ : gZ A st) (hC0 : ∀ q ∈ gNc, va_Nc q.1 q.2 st) (hX : va_X bs L xs st st.heap) (hbl : bs < st.heap.size) (hbA : ¬ A bs) (hx4 : x4 = Int32.ofNat i) (hi : i + 5 ≤ L) (hL : L ≤ 2560) (hcl : cells + 4 ≤ room_1.cells) (hsl : slots + 24 ≤ room_1.slots) (o : CS × RS × (Nat → Int64)) (hf : sc_8 (xs (i + 1)) (xs (i + 2)) (xs (i + 3)) (xs (i + 4)) s r oc = some o) (k : ∀ a2 : CA, a2.1 = a.1 → gW p l e room_1 st m #[.ref bs] below meth c (cells + 4) (slots + 24) Q (dC, dI) vwCl A 7 (wCS cI cH a2 o.1 ++ wLo cJ op o.2.2 ++ wRS cI b o.2.1) [(4, .int x4), (3, .ref op), (2, .ref b.1), (1, .ref a.1), (0, .ref bs)] 787 []) : gW p l e room_1 st m #[.ref bs] below meth c cells slots Q (dC, dI) vwCl A 7 (wCS cI cH a s ++ wLo cJ op oc ++ wRS cI b r) [(4, .int x4), (3, .ref op), (2, .ref b.1), (1, .ref a.1), (0, .ref bs)] 500 [] := by
  unfold sc_8 at hf
  refine g_aload_n F dL_law_500 rfl 3 rfl ?_
  refine g_aload_n F dL_law_501 rfl 4 rfl ?_
  refine g_iload F dL_law_502 0 rfl ?_
  refine g_iconst (v := 1) F dL_law_504 rfl ?_
  refine g_iadd F dL_law_505 ?_
  refine g_sld (j := i + 1) F hX hbl hbA (by rw [hx4]; exact (Int32.ofNat_add i 1).symm) (by omega) (by omega) dL_law_506 ?_
  refine g_aload_n F dL_law_507 rfl 1 rfl ?_
  obtain ⟨o1, ho1, hf⟩ := bnE hf
  refine g_callSWP (n := 3) (As := [.ref a.1, .int (xs (i + 1)), .ref op]) F (c_L_sweep l hlt dC dI cI cJ cH a s op oc (xs (i + 1)) o1 ho1) ggL_law_L_sweep (by decide +kernel) (by decide +kernel) (by decide +kernel) rfl rfl rfl (by decide +kernel) ⟨Nat.le_of_ble_eq_true rfl, Nat.le_of_ble_eq_true rfl⟩ ⟨by omega, by omega⟩ hN hXw hZ hC0 [] (wRS cI b r) rfl (fun _ => rfl) rfl (Nat.le_of_ble_eq_true rfl) rfl dL_law_508 (cells' := cells + 2) (slots' := slots + 12) (by omega) (by omega) (fun r0 u hp => ?_)
  obtain ⟨hp1, hp2⟩ := hp
  subst hp1
  subst hp2
  refine g_sw (sw := o1.2.2.2) (s := o1.2.1) (a := a) (show _ = wCSw cI cH a o1.2.2.2 o1.2.1 ++ wLo cJ op o1.2.2.1 ++ wRS cI b r from rfl) ?_
  refine g_istore F dL_law_511 (by decide) (lv' := [(5, .int o1.1), (4, .int x4), (3, .ref op), (2, .ref b.1), (1, .ref a.1), (0, .ref bs)]) rfl ?_
  refine g_aload_n F dL_law_513 rfl 3 rfl ?_
  refine g_aload_n F dL_law_514 rfl 5 rfl ?_
  refine g_iload F dL_law_515 1 rfl ?_
  refine g_iconst (v := 1) F dL_law_517 rfl ?_
  refine g_iadd F dL_law_518 ?_
  refine g_sld (j := i + 1) F hX hbl hbA (by rw [hx4]; exact (Int32.ofNat_add i 1).symm) (by omega) (by omega) dL_law_519 ?_
  obtain ⟨o2, ho2, hf⟩ := bnE hf
  unfold p4_sweep at ho2
  obtain ⟨uo2, huo2, ho2⟩ := bnE ho2
  cases ho2
  refine g_callPi (n := 1) (As := [.int (xs (i + 1))]) (C := RX4) F (c_X4_sweep l dC dI cI cJ cH b.1 b.2.1 b.2.2.1 b.2.2.2.1 b.2.2.2.2.1 b.2.2.2.2.2.1 b.2.2.2.2.2.2.1 b.2.2.2.2.2.2.2.1 b.2.2.2.2.2.2.2.2.1 b.2.2.2.2.2.2.2.2.2.1 b.2.2.2.2.2.2.2.2.2.2.1 b.2.2.2.2.2.2.2.2.2.2.2.1 b.2.2.2.2.2.2.2.2.2.2.2.2.1 b.2.2.2.2.2.2.2.2.2.2.2.2.2 r.1 r.2.1 r.2.2.1 r.2.2.2.1 r.2.2.2.2.1 r.2.2.2.2.2.1 r.2.2.2.2.2.2.1 r.2.2.2.2.2.2.2.1 r.2.2.2.2.2.2.2.2.1 r.2.2.2.2.2.2.2.2.2.1 r.2.2.2.2.2.2.2.2.2.2.1 r.2.2.2.2.2.2.2.2.2.2.2.1 r.2.2.2.2.2.2.2.2.2.2.2.2.1 r.2.2.2.2.2.2.2.2.2.2.2.2.2.1 r.2.2.2.2.2.2.2.2.2.2.2.2.2.2.1 r.2.2.2.2.2.2.2.2.2.2.2.2.2.2.2.1 r.2.2.2.2.2.2.2.2.2.2.2.2.2.2.2.2.1 r.2.2.2.2.2.2.2.2.2.2.2.2.2.2.2.2.2.1 r.2.2.2.2.2.2.2.2.2.2.2.2.2.2.2.2.2.2.1 r.2.2.2.2.2.2.2.2.2.2.2.2.2.2.2.2.2.2.2.1 r.2.2.2.2.2.2.2.2.2.2.2.2.2.2.2.2.2.2.2.2.1 r.2.2.2.2.2.2.2.2.2.2.2.2.2.2.2.2.2.2.2.2.2.1 r.2.2.2.2.2.2.2.2.2.2.2.2.2.2.2.2.2.2.2.2.2.2 (xs (i + 1)) uo2 huo2) ggL_law_X4_sweep rfl rfl rfl (by decide +kernel) (by decide +kernel) (by decide +kernel) (by decide +kernel) (by decide +kernel) ⟨Nat.le_of_ble_eq_true rfl, Nat.le_of_ble_eq_true rfl⟩ ⟨by omega, by omega⟩ hN 29 rfl rfl rfl (wCS cI cH (swA o1.2.2.2 a) (swS o1.2.2.2 o1.2.1) ++ wLo cJ op o1.2.2.1) [] rfl (fun _ => rfl) rfl (Nat.le_of_ble_eq_true rfl) rfl dL_law_520 (cells' := cells + 2) (slots' := slots + 12) rfl rfl (fun r0 u hp => ?_)
  obtain ⟨hp1, hp2⟩ := hp
  subst hp1
  subst hp2
  refine g_ws (ws' := wCS cI cH (swA o1.2.2.2 a) (swS o1.2.2.2 o1.2.1) ++ wLo cJ op o1.2.2.1 ++ wRS cI b (uo2.2.1, r.2.1, uo2.2.2.1, uo2.2.2.2.1, uo2.2.2.2.2.1, uo2.2.2.2.2.2.1, uo2.2.2.2.2.2.2.1, uo2.2.2.2.2.2.2.2.1, r.2.2.2.2.2.2.2.2.1, r.2.2.2.2.2.2.2.2.2.1, r.2.2.2.2.2.2.2.2.2.2.1, r.2.2.2.2.2.2.2.2.2.2.2.1, r.2.2.2.2.2.2.2.2.2.2.2.2.1, r.2.2.2.2.2.2.2.2.2.2.2.2.2.1, r.2.2.2.2.2.2.2.2.2.2.2.2.2.2.1, r.2.2.2.2.2.2.2.2.2.2.2.2.2.2.2.1, r.2.2.2.2.2.2.2.2.2.2.2.2.2.2.2.2.1, r.2.2.2.2.2.2.2.2.2.2.2.2.2.2.2.2.2.1, uo2.2.2.2.2.2.2.2.2.1, r.2.2.2.2.2.2.2.2.2.2.2.2.2.2.2.2.2.2.2.1, uo2.2.2.2.2.2.2.2.2.2, r.2.2.2.2.2.2.2.2.2.2.2.2.2.2.2.2.2.2.2.2.2.1, r.2.2.2.2.2.2.2.2.2.2.2.2.2.2.2.2.2.2.2.2.2.2)) rfl ?_
  refine g_istore F dL_law_523 (by decide) (lv' := [(6, .int uo2.1), (5, .int o1.1), (4, .int x4), (3, .ref op), (2, .ref b.1), (1, .ref a.1), (0, .ref bs)]) rfl ?_
  refine g_goto (tgt := 787) F dL_law_525 rfl ?_
  cases hf
  refine g_lv [2, 3, 4, 5, 6] rfl ?_
  refine g_widen (k := cells + 4) (n := slots + 24) (by omega) (by omega) ?_
  exact k _ (swA_1 _ _)
