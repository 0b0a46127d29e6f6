set_option maxHeartbeats 4000000 in
set_option maxRecDepth 100000 in
theorem lc_9 {p : Program} {l : Launch} {e : Env} {st : State} {m : MethodId} {below : List Frame} {meth : Method} {c : Code} {cells slots bs L i : Nat} {xs : Nat → Int32} {x4 : Int32} {Q : State → Prop} {dC : Nat → ClassId} {dI : Nat → Nat → Nat} {cI cJ cH : ClassId} {A : Nat → Prop} {a : CA} {b : RA} {op : Nat} {s : CS} {r : RS} {oc : Nat → Int64} (hlt : l.stackTraces = false) (F : gF p m c code 7 st #[.ref bs] wsL_law RL (dC, dI) vwCl (gT cI cJ cH) A) (hN : ∀ w ∈ gN, va_Nw w st) (hXw : ∀ w ∈ gXw, va_Nw w st) (hZ : gZ A st) (hC0 : ∀ q ∈ gNc, va_Nc q.1 q.2 st) (hX : va_X bs L xs st st.heap) (hbl : bs < st.heap.size) (hbA : ¬ A bs) (hx4 : x4 = Int32.ofNat i) (hi : i + 5 ≤ L) (hL : L ≤ 2560) (hcl : cells + 4 ≤ room_1.cells) (hsl : slots + 24 ≤ room_1.slots) (o : CS × RS × (Nat → Int64)) (hf : sc_9 (xs (i + 1)) (xs (i + 2)) (xs (i + 3)) (xs (i + 4)) s r oc = some o) (k : ∀ a2 : CA, a2.1 = a.1 → gW p l e room_1 st m #[.ref bs] below meth c (cells + 4) (slots + 24) Q (dC, dI) vwCl A 7 (wCS cI cH a2 o.1 ++ wLo cJ op o.2.2 ++ wRS cI b o.2.1) [(4, .int x4), (3, .ref op), (2, .ref b.1), (1, .ref a.1), (0, .ref bs)] 787 []) : gW p l e room_1 st m #[.ref bs] below meth c cells slots Q (dC, dI) vwCl A 7 (wCS cI cH a s ++ wLo cJ op oc ++ wRS cI b r) [(4, .int x4), (3, .ref op), (2, .ref b.1), (1, .ref a.1), (0, .ref bs)] 528 [] := by
  unfold sc_9 at hf
  refine g_aload_n F dL_law_528 rfl 3 rfl ?_
  refine g_aload_n F dL_law_529 rfl 4 rfl ?_
  refine g_iload F dL_law_530 0 rfl ?_
  refine g_iconst (v := 1) F dL_law_532 rfl ?_
  refine g_iadd F dL_law_533 ?_
  refine g_sld (j := i + 1) F hX hbl hbA (by rw [hx4]; exact (Int32.ofNat_add i 1).symm) (by omega) (by omega) dL_law_534 ?_
  refine g_aload_n F dL_law_535 rfl 1 rfl ?_
  obtain ⟨o1, ho1, hf⟩ := bnE hf
  refine g_callSWP (n := 3) (As := [.ref a.1, .int (xs (i + 1)), .ref op]) F (c_L_dump l hlt dC dI cI cJ cH a s op oc (xs (i + 1)) o1 ho1) ggL_law_L_dump (by decide +kernel) (by decide +kernel) (by decide +kernel) rfl rfl rfl (by decide +kernel) ⟨Nat.le_of_ble_eq_true rfl, Nat.le_of_ble_eq_true rfl⟩ ⟨by omega, by omega⟩ hN hXw hZ hC0 [] (wRS cI b r) rfl (fun _ => rfl) rfl (Nat.le_of_ble_eq_true rfl) rfl dL_law_536 (cells' := cells + 2) (slots' := slots + 12) (by omega) (by omega) (fun r0 u hp => ?_)
  obtain ⟨hp1, hp2⟩ := hp
  subst hp1
  subst hp2
  refine g_sw (sw := o1.2.2.2) (s := o1.2.1) (a := a) (show _ = wCSw cI cH a o1.2.2.2 o1.2.1 ++ wLo cJ op o1.2.2.1 ++ wRS cI b r from rfl) ?_
  refine g_istore F dL_law_539 (by decide) (lv' := [(5, .int o1.1), (4, .int x4), (3, .ref op), (2, .ref b.1), (1, .ref a.1), (0, .ref bs)]) rfl ?_
  refine g_aload_n F dL_law_541 rfl 3 rfl ?_
  refine g_aload_n F dL_law_542 rfl 5 rfl ?_
  refine g_iload F dL_law_543 1 rfl ?_
  refine g_iconst (v := 1) F dL_law_545 rfl ?_
  refine g_iadd F dL_law_546 ?_
  refine g_sld (j := i + 1) F hX hbl hbA (by rw [hx4]; exact (Int32.ofNat_add i 1).symm) (by omega) (by omega) dL_law_547 ?_
  obtain ⟨o2, ho2, hf⟩ := bnE hf
  unfold p4_dump at ho2
  obtain ⟨uo2, huo2, ho2⟩ := bnE ho2
  cases ho2
  refine g_callPi (n := 1) (As := [.int (xs (i + 1))]) (C := RX4) F (c_X4_dump l dC dI cI cJ cH b.1 b.2.1 b.2.2.1 b.2.2.2.1 b.2.2.2.2.1 b.2.2.2.2.2.1 b.2.2.2.2.2.2.1 b.2.2.2.2.2.2.2.1 b.2.2.2.2.2.2.2.2.1 b.2.2.2.2.2.2.2.2.2.1 b.2.2.2.2.2.2.2.2.2.2.1 b.2.2.2.2.2.2.2.2.2.2.2.1 b.2.2.2.2.2.2.2.2.2.2.2.2.1 b.2.2.2.2.2.2.2.2.2.2.2.2.2 r.1 r.2.1 r.2.2.1 r.2.2.2.1 r.2.2.2.2.1 r.2.2.2.2.2.1 r.2.2.2.2.2.2.1 r.2.2.2.2.2.2.2.1 r.2.2.2.2.2.2.2.2.1 r.2.2.2.2.2.2.2.2.2.1 r.2.2.2.2.2.2.2.2.2.2.1 r.2.2.2.2.2.2.2.2.2.2.2.1 r.2.2.2.2.2.2.2.2.2.2.2.2.1 r.2.2.2.2.2.2.2.2.2.2.2.2.2.1 r.2.2.2.2.2.2.2.2.2.2.2.2.2.2.1 r.2.2.2.2.2.2.2.2.2.2.2.2.2.2.2.1 r.2.2.2.2.2.2.2.2.2.2.2.2.2.2.2.2.1 r.2.2.2.2.2.2.2.2.2.2.2.2.2.2.2.2.2.1 r.2.2.2.2.2.2.2.2.2.2.2.2.2.2.2.2.2.2.1 r.2.2.2.2.2.2.2.2.2.2.2.2.2.2.2.2.2.2.2.1 r.2.2.2.2.2.2.2.2.2.2.2.2.2.2.2.2.2.2.2.2.1 r.2.2.2.2.2.2.2.2.2.2.2.2.2.2.2.2.2.2.2.2.2.1 r.2.2.2.2.2.2.2.2.2.2.2.2.2.2.2.2.2.2.2.2.2.2 (xs (i + 1)) uo2 huo2) ggL_law_X4_dump rfl rfl rfl (by decide +kernel) (by decide +kernel) (by decide +kernel) (by decide +kernel) (by decide +kernel) ⟨Nat.le_of_ble_eq_true rfl, Nat.le_of_ble_eq_true rfl⟩ ⟨by omega, by omega⟩ hN 29 rfl rfl rfl (wCS cI cH (swA o1.2.2.2 a) (swS o1.2.2.2 o1.2.1) ++ wLo cJ op o1.2.2.1) [] rfl (fun _ => rfl) rfl (Nat.le_of_ble_eq_true rfl) rfl dL_law_548 (cells' := cells + 2) (slots' := slots + 12) rfl rfl (fun r0 u hp => ?_)
  obtain ⟨hp1, hp2⟩ := hp
  subst hp1
  subst hp2
  refine g_ws (ws' := wCS cI cH (swA o1.2.2.2 a) (swS o1.2.2.2 o1.2.1) ++ wLo cJ op o1.2.2.1 ++ wRS cI b (uo2.2.1, r.2.1, r.2.2.1, r.2.2.2.1, r.2.2.2.2.1, uo2.2.2.1, uo2.2.2.2.1, uo2.2.2.2.2.1, uo2.2.2.2.2.2.1, uo2.2.2.2.2.2.2, r.2.2.2.2.2.2.2.2.2.2.1, r.2.2.2.2.2.2.2.2.2.2.2.1, r.2.2.2.2.2.2.2.2.2.2.2.2.1, r.2.2.2.2.2.2.2.2.2.2.2.2.2.1, r.2.2.2.2.2.2.2.2.2.2.2.2.2.2.1, r.2.2.2.2.2.2.2.2.2.2.2.2.2.2.2.1, r.2.2.2.2.2.2.2.2.2.2.2.2.2.2.2.2.1, r.2.2.2.2.2.2.2.2.2.2.2.2.2.2.2.2.2.1, r.2.2.2.2.2.2.2.2.2.2.2.2.2.2.2.2.2.2.1, r.2.2.2.2.2.2.2.2.2.2.2.2.2.2.2.2.2.2.2.1, r.2.2.2.2.2.2.2.2.2.2.2.2.2.2.2.2.2.2.2.2.1, r.2.2.2.2.2.2.2.2.2.2.2.2.2.2.2.2.2.2.2.2.2.1, r.2.2.2.2.2.2.2.2.2.2.2.2.2.2.2.2.2.2.2.2.2.2)) rfl ?_
  refine g_istore F dL_law_551 (by decide) (lv' := [(6, .int uo2.1), (5, .int o1.1), (4, .int x4), (3, .ref op), (2, .ref b.1), (1, .ref a.1), (0, .ref bs)]) rfl ?_
  refine g_goto (tgt := 787) F dL_law_553 rfl ?_
  cases hf
  refine g_lv [2, 3, 4, 5, 6] rfl ?_
  refine g_widen (k := cells + 4) (n := slots + 24) (by omega) (by omega) ?_
  exact k _ (swA_1 _ _)
set_option maxHeartbeats 4000000 in
set_option maxRecDepth 100000 in
theorem lc_10 {p : Program} {l : Launch} {e : Env} {st : State} {m : MethodId} {below : List Frame} {meth : Method} {c : Code} {cells slots bs L i : Nat} {xs : Nat → Int32} {x4 : Int32} {Q : State → Prop} {dC : Nat → ClassId} {dI : Nat → Nat → Nat} {cI cJ cH : ClassId} {A : Nat → Prop} {a : CA} {b : RA} {op : Nat} {s : CS} {r : RS} {oc : Nat → Int64} (hlt : l.stackTraces = false) (F : gF p m c code 7 st #[.ref bs] wsL_law RL (dC, dI) vwCl (gT cI cJ cH) A) (hN : ∀ w ∈ gN, va_Nw w st) (hXw : ∀ w ∈ gXw, va_Nw w st) (hZ : gZ A st) (hC0 : ∀ q ∈ gNc, va_Nc q.1 q.2 st) (hX : va_X bs L xs st st.heap) (hbl : bs < st.heap.size) (hbA : ¬ A bs) (hx4 : x4 = Int32.ofNat i) (hi : i + 5 ≤ L) (hL : L ≤ 2560) (hcl : cells + 4 ≤ room_1.cells) (hsl : slots + 24 ≤ room_1.slots) (o : CS × RS × (Nat → Int64)) (hf : sc_10 (xs (i + 1)) (xs (i + 2)) (xs (i + 3)) (xs (i + 4)) s r oc = some o) (k : ∀ a2 : CA, a2.1 = a.1 → gW p l e room_1 st m #[.ref bs] below meth c (cells + 4) (slots + 24) Q (dC, dI) vwCl A 7 (wCS cI cH a2 o.1 ++ wLo cJ op o.2.2 ++ wRS cI b o.2.1) [(4, .int x4), (3, .ref op), (2, .ref b.1), (1, .ref a.1), (0, .ref bs)] 787 []) : gW p l e room_1 st m #[.ref bs] below meth c cells slots Q (dC, dI) vwCl A 7 (wCS cI cH a s ++ wLo cJ op oc ++ wRS cI b r) [(4, .int x4), (3, .ref op), (2, .ref b.1), (1, .ref a.1), (0, .ref bs)] 556 [] := by
  unfold sc_10 at hf
  refine g_aload_n F dL_law_556 rfl 3 rfl ?_
  refine g_aload_n F dL_law_557 rfl 4 rfl ?_
  refine g_iload F dL_law_558 0 rfl ?_
  refine g_iconst (v := 1) F dL_law_560 rfl ?_
  refine g_iadd F dL_law_561 ?_
  refine g_sld (j := i + 1) F hX hbl hbA (by rw [hx4]; exact (Int32.ofNat_add i 1).symm) (by omega) (by omega) dL_law_562 ?_
  refine g_aload_n F dL_law_563 rfl 1 rfl ?_
  obtain ⟨o1, ho1, hf⟩ := bnE hf
  refine g_callSWP (n := 3) (As := [.ref a.1, .int (xs (i + 1)), .ref op]) F (c_L_byteAt l hlt dC dI cI cJ cH a s op oc (xs (i + 1)) o1 ho1) ggL_law_L_byteAt (by decide +kernel) (by decide +kernel) (by decide +kernel) rfl rfl rfl (by decide +kernel) ⟨Nat.le_of_ble_eq_true rfl, Nat.le_of_ble_eq_true rfl⟩ ⟨by omega, by omega⟩ hN hXw hZ hC0 [] (wRS cI b r) rfl (fun _ => rfl) rfl (Nat.le_of_ble_eq_true rfl) rfl dL_law_564 (cells' := cells + 1) (slots' := slots + 6) (by omega) (by omega) (fun r0 u hp => ?_)
  obtain ⟨hp1, hp2⟩ := hp
  subst hp1
  subst hp2
  refine g_sw (sw := o1.2.2.2) (s := o1.2.1) (a := a) (show _ = wCSw cI cH a o1.2.2.2 o1.2.1 ++ wLo cJ op o1.2.2.1 ++ wRS cI b r from rfl) ?_
  refine g_istore F dL_law_567 (by decide) (lv' := [(5, .int o1.1), (4, .int x4), (3, .ref op), (2, .ref b.1), (1, .ref a.1), (0, .ref bs)]) rfl ?_
  refine g_aload_n F dL_law_569 rfl 3 rfl ?_
  refine g_aload_n F dL_law_570 rfl 5 rfl ?_
  refine g_iload F dL_law_571 1 rfl ?_
  refine g_iconst (v := 1) F dL_law_573 rfl ?_
  refine g_iadd F dL_law_574 ?_
  refine g_sld (j := i + 1) F hX hbl hbA (by rw [hx4]; exact (Int32.ofNat_add i 1).symm) (by omega) (by omega) dL_law_575 ?_
  obtain ⟨o2, ho2, hf⟩ := bnE hf
  unfold p4_byteAt at ho2
  obtain ⟨uo2, huo2, ho2⟩ := bnE ho2
  cases ho2
  refine g_callPi (n := 1) (As := [.int (xs (i + 1))]) (C := RX4) F (c_X4_byteAt l dC dI cI cJ cH b.1 b.2.1 b.2.2.1 b.2.2.2.1 b.2.2.2.2.1 b.2.2.2.2.2.1 b.2.2.2.2.2.2.1 b.2.2.2.2.2.2.2.1 b.2.2.2.2.2.2.2.2.1 b.2.2.2.2.2.2.2.2.2.1 b.2.2.2.2.2.2.2.2.2.2.1 b.2.2.2.2.2.2.2.2.2.2.2.1 b.2.2.2.2.2.2.2.2.2.2.2.2.1 b.2.2.2.2.2.2.2.2.2.2.2.2.2 r.1 r.2.1 r.2.2.1 r.2.2.2.1 r.2.2.2.2.1 r.2.2.2.2.2.1 r.2.2.2.2.2.2.1 r.2.2.2.2.2.2.2.1 r.2.2.2.2.2.2.2.2.1 r.2.2.2.2.2.2.2.2.2.1 r.2.2.2.2.2.2.2.2.2.2.1 r.2.2.2.2.2.2.2.2.2.2.2.1 r.2.2.2.2.2.2.2.2.2.2.2.2.1 r.2.2.2.2.2.2.2.2.2.2.2.2.2.1 r.2.2.2.2.2.2.2.2.2.2.2.2.2.2.1 r.2.2.2.2.2.2.2.2.2.2.2.2.2.2.2.1 r.2.2.2.2.2.2.2.2.2.2.2.2.2.2.2.2.1 r.2.2.2.2.2.2.2.2.2.2.2.2.2.2.2.2.2.1 r.2.2.2.2.2.2.2.2.2.2.2.2.2.2.2.2.2.2.1 r.2.2.2.2.2.2.2.2.2.2.2.2.2.2.2.2.2.2.2.1 r.2.2.2.2.2.2.2.2.2.2.2.2.2.2.2.2.2.2.2.2.1 r.2.2.2.2.2.2.2.2.2.2.2.2.2.2.2.2.2.2.2.2.2.1 r.2.2.2.2.2.2.2.2.2.2.2.2.2.2.2.2.2.2.2.2.2.2 (xs (i + 1)) uo2 huo2) ggL_law_X4_byteAt rfl rfl rfl (by decide +kernel) (by decide +kernel) (by decide +kernel) (by decide +kernel) (by decide +kernel) ⟨Nat.le_of_ble_eq_true rfl, Nat.le_of_ble_eq_true rfl⟩ ⟨by omega, by omega⟩ hN 29 rfl rfl rfl (wCS cI cH (swA o1.2.2.2 a) (swS o1.2.2.2 o1.2.1) ++ wLo cJ op o1.2.2.1) [] rfl (fun _ => rfl) rfl (Nat.le_of_ble_eq_true rfl) rfl dL_law_576 (cells' := cells + 1) (slots' := slots + 6) rfl rfl (fun r0 u hp => ?_)
  obtain ⟨hp1, hp2⟩ := hp
  subst hp1
  subst hp2
  refine g_ws (ws' := wCS cI cH (swA o1.2.2.2 a) (swS o1.2.2.2 o1.2.1) ++ wLo cJ op o1.2.2.1 ++ wRS cI b (uo2.2, r.2.1, r.2.2.1, r.2.2.2.1, r.2.2.2.2.1, r.2.2.2.2.2.1, r.2.2.2.2.2.2.1, r.2.2.2.2.2.2.2.1, r.2.2.2.2.2.2.2.2.1, r.2.2.2.2.2.2.2.2.2.1, r.2.2.2.2.2.2.2.2.2.2.1, r.2.2.2.2.2.2.2.2.2.2.2.1, r.2.2.2.2.2.2.2.2.2.2.2.2.1, r.2.2.2.2.2.2.2.2.2.2.2.2.2.1, r.2.2.2.2.2.2.2.2.2.2.2.2.2.2.1, r.2.2.2.2.2.2.2.2.2.2.2.2.2.2.2.1, r.2.2.2.2.2.2.2.2.2.2.2.2.2.2.2.2.1, r.2.2.2.2.2.2.2.2.2.2.2.2.2.2.2.2.2.1, r.2.2.2.2.2.2.2.2.2.2.2.2.2.2.2.2.2.2.1, r.2.2.2.2.2.2.2.2.2.2.2.2.2.2.2.2.2.2.2.1, r.2.2.2.2.2.2.2.2.2.2.2.2.2.2.2.2.2.2.2.2.1, r.2.2.2.2.2.2.2.2.2.2.2.2.2.2.2.2.2.2.2.2.2.1, r.2.2.2.2.2.2.2.2.2.2.2.2.2.2.2.2.2.2.2.2.2.2)) rfl ?_
  refine g_istore F dL_law_579 (by decide) (lv' := [(6, .int uo2.1), (5, .int o1.1), (4, .int x4), (3, .ref op), (2, .ref b.1), (1, .ref a.1), (0, .ref bs)]) rfl ?_
  refine g_goto (tgt := 787) F dL_law_581 rfl ?_
  cases hf
  refine g_lv [2, 3, 4, 5, 6] rfl ?_
  refine g_widen (k := cells + 4) (n := slots + 24) (by omega) (by omega) ?_
  exact k _ (swA_1 _ _)
set_option maxHeartbeats 4000000 in
set_option maxRecDepth 100000 in
theorem lc_11 {p : Program} {l : Launch} {e : Env} {st : State} {m : MethodId} {below : List Frame} {meth : Method} {c : Code} {cells slots bs L i : Nat} {xs : Nat → Int32} {x4 : Int32} {Q : State → Prop} {dC : Nat → ClassId} {dI : Nat → Nat → Nat} {cI cJ cH : ClassId} {A : Nat → Prop} {a : CA} {b : RA} {op : Nat} {s : CS} {r : RS} {oc : Nat → Int64} (hlt : l.stackTraces = false) (F : gF p m c code 7 st #[.ref bs] wsL_law RL (dC, dI) vwCl (gT cI cJ cH) A) (hN : ∀ w ∈ gN, va_Nw w st) (hXw : ∀ w ∈ gXw, va_Nw w st) (hZ : gZ A st) (hC0 : ∀ q ∈ gNc, va_Nc q.1 q.2 st) (hX : va_X bs L xs st st.heap) (hbl : bs < st.heap.size) (hbA : ¬ A bs) (hx4 : x4 = Int32.ofNat i) (hi : i + 5 ≤ L) (hL : L ≤ 2560) (hcl : cells + 4 ≤ room_1.cells) (hsl : slots + 24 ≤ room_1.slots) (o : CS × RS × (Nat → Int64)) (hf : sc_11 (xs (i + 1)) (xs (i + 2)) (xs (i + 3)) (xs (i + 4)) s r oc = some o) (k : ∀ a2 : CA, a2.1 = a.1 → gW p l e room_1 st m #[.ref bs] below meth c (cells + 4) (slots + 24) Q (dC, dI) vwCl A 7 (wCS cI cH a2 o.1 ++ wLo cJ op o.2.2 ++ wRS cI b o.2.1) [(4, .int x4), (3, .ref op), (2, .ref b.1), (1, .ref a.1), (0, .ref bs)] 787 []) : gW p l e room_1 st m #[.ref bs] below meth c cells slots Q (dC, dI) vwCl A 7 (wCS cI cH a s ++ wLo cJ op oc ++ wRS cI b r) [(4, .int x4), (3, .ref op), (2, .ref b.1), (1, .ref a.1), (0, .ref bs)] 584 [] := by
  unfold sc_11 at hf
  refine g_aload_n F dL_law_584 rfl 3 rfl ?_
  refine g_aload_n F dL_law_585 rfl 4 rfl ?_
  refine g_iload F dL_law_586 0 rfl ?_
  refine g_iconst (v := 1) F dL_law_588 rfl ?_
  refine g_iadd F dL_law_589 ?_
  refine g_sld (j := i + 1) F hX hbl hbA (by rw [hx4]; exact (Int32.ofNat_add i 1).symm) (by omega) (by omega) dL_law_590 ?_
  refine g_aload_n F dL_law_591 rfl 1 rfl ?_
  obtain ⟨o1, ho1, hf⟩ := bnE hf
  refine g_callSWP (n := 3) (As := [.ref a.1, .int (xs (i + 1)), .ref op]) F (c_L_feed l hlt dC dI cI cJ cH a s op oc (xs (i + 1)) o1 ho1) ggL_law_L_feed (by decide +kernel) (by decide +kernel) (by decide +kernel) rfl rfl rfl (by decide +kernel) ⟨Nat.le_of_ble_eq_true rfl, Nat.le_of_ble_eq_true rfl⟩ ⟨by omega, by omega⟩ hN hXw hZ hC0 [] (wRS cI b r) rfl (fun _ => rfl) rfl (Nat.le_of_ble_eq_true rfl) rfl dL_law_592 (cells' := cells + 1) (slots' := slots + 6) (by omega) (by omega) (fun r0 u hp => ?_)
  obtain ⟨hp1, hp2⟩ := hp
  subst hp1
  subst hp2
  refine g_sw (sw := o1.2.2.2) (s := o1.2.1) (a := a) (show _ = wCSw cI cH a o1.2.2.2 o1.2.1 ++ wLo cJ op o1.2.2.1 ++ wRS cI b r from rfl) ?_
  refine g_istore F dL_law_595 (by decide) (lv' := [(5, .int o1.1), (4, .int x4), (3, .ref op), (2, .ref b.1), (1, .ref a.1), (0, .ref bs)]) rfl ?_
  refine g_aload_n F dL_law_597 rfl 3 rfl ?_
  refine g_aload_n F dL_law_598 rfl 5 rfl ?_
  refine g_iload F dL_law_599 1 rfl ?_
  refine g_iconst (v := 1) F dL_law_601 rfl ?_
  refine g_iadd F dL_law_602 ?_
  refine g_sld (j := i + 1) F hX hbl hbA (by rw [hx4]; exact (Int32.ofNat_add i 1).symm) (by omega) (by omega) dL_law_603 ?_
  obtain ⟨o2, ho2, hf⟩ := bnE hf
  unfold p4_feed at ho2
  obtain ⟨uo2, huo2, ho2⟩ := bnE ho2
  cases ho2
  refine g_callPi (n := 1) (As := [.int (xs (i + 1))]) (C := RX4) F (c_X4_feed l dC dI cI cJ cH b.1 b.2.1 b.2.2.1 b.2.2.2.1 b.2.2.2.2.1 b.2.2.2.2.2.1 b.2.2.2.2.2.2.1 b.2.2.2.2.2.2.2.1 b.2.2.2.2.2.2.2.2.1 b.2.2.2.2.2.2.2.2.2.1 b.2.2.2.2.2.2.2.2.2.2.1 b.2.2.2.2.2.2.2.2.2.2.2.1 b.2.2.2.2.2.2.2.2.2.2.2.2.1 b.2.2.2.2.2.2.2.2.2.2.2.2.2 r.1 r.2.1 r.2.2.1 r.2.2.2.1 r.2.2.2.2.1 r.2.2.2.2.2.1 r.2.2.2.2.2.2.1 r.2.2.2.2.2.2.2.1 r.2.2.2.2.2.2.2.2.1 r.2.2.2.2.2.2.2.2.2.1 r.2.2.2.2.2.2.2.2.2.2.1 r.2.2.2.2.2.2.2.2.2.2.2.1 r.2.2.2.2.2.2.2.2.2.2.2.2.1 r.2.2.2.2.2.2.2.2.2.2.2.2.2.1 r.2.2.2.2.2.2.2.2.2.2.2.2.2.2.1 r.2.2.2.2.2.2.2.2.2.2.2.2.2.2.2.1 r.2.2.2.2.2.2.2.2.2.2.2.2.2.2.2.2.1 r.2.2.2.2.2.2.2.2.2.2.2.2.2.2.2.2.2.1 r.2.2.2.2.2.2.2.2.2.2.2.2.2.2.2.2.2.2.1 r.2.2.2.2.2.2.2.2.2.2.2.2.2.2.2.2.2.2.2.1 r.2.2.2.2.2.2.2.2.2.2.2.2.2.2.2.2.2.2.2.2.1 r.2.2.2.2.2.2.2.2.2.2.2.2.2.2.2.2.2.2.2.2.2.1 r.2.2.2.2.2.2.2.2.2.2.2.2.2.2.2.2.2.2.2.2.2.2 (xs (i + 1)) uo2 huo2) ggL_law_X4_feed rfl rfl rfl (by decide +kernel) (by decide +kernel) (by decide +kernel) (by decide +kernel) (by decide +kernel) ⟨Nat.le_of_ble_eq_true rfl, Nat.le_of_ble_eq_true rfl⟩ ⟨by omega, by omega⟩ hN 29 rfl rfl rfl (wCS cI cH (swA o1.2.2.2 a) (swS o1.2.2.2 o1.2.1) ++ wLo cJ op o1.2.2.1) [] rfl (fun _ => rfl) rfl (Nat.le_of_ble_eq_true rfl) rfl dL_law_604 (cells' := cells + 1) (slots' := slots + 6) rfl rfl (fun r0 u hp => ?_)
  obtain ⟨hp1, hp2⟩ := hp
  subst hp1
  subst hp2
  refine g_ws (ws' := wCS cI cH (swA o1.2.2.2 a) (swS o1.2.2.2 o1.2.1) ++ wLo cJ op o1.2.2.1 ++ wRS cI b (uo2.2.1, r.2.1, r.2.2.1, r.2.2.2.1, r.2.2.2.2.1, r.2.2.2.2.2.1, r.2.2.2.2.2.2.1, r.2.2.2.2.2.2.2.1, r.2.2.2.2.2.2.2.2.1, r.2.2.2.2.2.2.2.2.2.1, r.2.2.2.2.2.2.2.2.2.2.1, r.2.2.2.2.2.2.2.2.2.2.2.1, uo2.2.2.1, uo2.2.2.2, r.2.2.2.2.2.2.2.2.2.2.2.2.2.2.1, r.2.2.2.2.2.2.2.2.2.2.2.2.2.2.2.1, r.2.2.2.2.2.2.2.2.2.2.2.2.2.2.2.2.1, r.2.2.2.2.2.2.2.2.2.2.2.2.2.2.2.2.2.1, r.2.2.2.2.2.2.2.2.2.2.2.2.2.2.2.2.2.2.1, r.2.2.2.2.2.2.2.2.2.2.2.2.2.2.2.2.2.2.2.1, r.2.2.2.2.2.2.2.2.2.2.2.2.2.2.2.2.2.2.2.2.1, r.2.2.2.2.2.2.2.2.2.2.2.2.2.2.2.2.2.2.2.2.2.1, r.2.2.2.2.2.2.2.2.2.2.2.2.2.2.2.2.2.2.2.2.2.2)) rfl ?_
  refine g_istore F dL_law_607 (by decide) (lv' := [(6, .int uo2.1), (5, .int o1.1), (4, .int x4), (3, .ref op), (2, .ref b.1), (1, .ref a.1), (0, .ref bs)]) rfl ?_
  refine g_goto (tgt := 787) F dL_law_609 rfl ?_
  cases hf
  refine g_lv [2, 3, 4, 5, 6] rfl ?_
  refine g_widen (k := cells + 4) (n := slots + 24) (by omega) (by omega) ?_
  exact k _ (swA_1 _ _)
