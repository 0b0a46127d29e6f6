set_option maxHeartbeats 4000000 in
set_option maxRecDepth 100000 in
theorem lc_3 {p : Program} {l : Launch} {e : Env} {st : State} {m : MethodId} {below : List Frame} {meth : Method} {c : Code} {cells slots bs L i : Nat} {xs : Nat → Int32} {x4 : Int32} {Q : State → Prop} {dC : Nat → ClassId} {dI : Nat → Nat → Nat} {cI cJ cH : ClassId} {A : Nat → Prop} {a : CA} {b : RA} {op : Nat} {s : CS} {r : RS} {oc : Nat → Int64} (hlt : l.stackTraces = false) (F : gF p m c code 7 st #[.ref bs] wsL_law RL (dC, dI) vwCl (gT cI cJ cH) A) (hN : ∀ w ∈ gN, va_Nw w st) (hXw : ∀ w ∈ gXw, va_Nw w st) (hZ : gZ A st) (hC0 : ∀ q ∈ gNc, va_Nc q.1 q.2 st) (hX : va_X bs L xs st st.heap) (hbl : bs < st.heap.size) (hbA : ¬ A bs) (hx4 : x4 = Int32.ofNat i) (hi : i + 5 ≤ L) (hL : L ≤ 2560) (hcl : cells + 4 ≤ room_1.cells) (hsl : slots + 24 ≤ room_1.slots) (o : CS × RS × (Nat → Int64)) (hf : sc_3 (xs (i + 1)) (xs (i + 2)) (xs (i + 3)) (xs (i + 4)) s r oc = some o) (k : ∀ a2 : CA, a2.1 = a.1 → gW p l e room_1 st m #[.ref bs] below meth c (cells + 4) (slots + 24) Q (dC, dI) vwCl A 7 (wCS cI cH a2 o.1 ++ wLo cJ op o.2.2 ++ wRS cI b o.2.1) [(4, .int x4), (3, .ref op), (2, .ref b.1), (1, .ref a.1), (0, .ref bs)] 787 []) : gW p l e room_1 st m #[.ref bs] below meth c cells slots Q (dC, dI) vwCl A 7 (wCS cI cH a s ++ wLo cJ op oc ++ wRS cI b r) [(4, .int x4), (3, .ref op), (2, .ref b.1), (1, .ref a.1), (0, .ref bs)] 288 [] := by
  unfold sc_3 at hf
  refine g_aload_n F dL_law_288 rfl 3 rfl ?_
  refine g_aload_n F dL_law_289 rfl 4 rfl ?_
  refine g_iload F dL_law_290 0 rfl ?_
  refine g_iconst (v := 1) F dL_law_292 rfl ?_
  refine g_iadd F dL_law_293 ?_
  refine g_sld (j := i + 1) F hX hbl hbA (by rw [hx4]; exact (Int32.ofNat_add i 1).symm) (by omega) (by omega) dL_law_294 ?_
  refine g_aload_n F dL_law_295 rfl 4 rfl ?_
  refine g_iload F dL_law_296 0 rfl ?_
  refine g_iconst (v := 2) F dL_law_298 rfl ?_
  refine g_iadd F dL_law_299 ?_
  refine g_sld (j := i + 2) F hX hbl hbA (by rw [hx4]; exact (Int32.ofNat_add i 2).symm) (by omega) (by omega) dL_law_300 ?_
  refine g_aload_n F dL_law_301 rfl 4 rfl ?_
  refine g_iload F dL_law_302 0 rfl ?_
  refine g_iconst (v := 3) F dL_law_304 rfl ?_
  refine g_iadd F dL_law_305 ?_
  refine g_sld (j := i + 3) F hX hbl hbA (by rw [hx4]; exact (Int32.ofNat_add i 3).symm) (by omega) (by omega) dL_law_306 ?_
  refine g_aload_n F dL_law_307 rfl 1 rfl ?_
  obtain ⟨o1, ho1, hf⟩ := bnE hf
  refine g_callSWP (n := 5) (As := [.ref a.1, .int (xs (i + 1)), .int (xs (i + 2)), .int (xs (i + 3)), .ref op]) F (c_L_root l hlt dC dI cI cJ cH a s op oc (xs (i + 1)) (xs (i + 2)) (xs (i + 3)) o1 ho1) ggL_law_L_root (by decide +kernel) (by decide +kernel) (by decide +kernel) rfl rfl rfl (by decide +kernel) ⟨Nat.le_of_ble_eq_true rfl, Nat.le_of_ble_eq_true rfl⟩ ⟨by omega, by omega⟩ hN hXw hZ hC0 [] (wRS cI b r) rfl (fun _ => rfl) rfl (Nat.le_of_ble_eq_true rfl) rfl dL_law_308 (cells' := cells + 2) (slots' := slots + 12) (by omega) (by omega) (fun r0 u hp => ?_)
  obtain ⟨hp1, hp2⟩ := hp
  subst hp1
  subst hp2
  refine g_sw (sw := o1.2.2.2) (s := o1.2.1) (a := a) (show _ = wCSw cI cH a o1.2.2.2 o1.2.1 ++ wLo cJ op o1.2.2.1 ++ wRS cI b r from rfl) ?_
  refine g_istore F dL_law_311 (by decide) (lv' := [(5, .int o1.1), (4, .int x4), (3, .ref op), (2, .ref b.1), (1, .ref a.1), (0, .ref bs)]) rfl ?_
  refine g_aload_n F dL_law_313 rfl 3 rfl ?_
  refine g_aload_n F dL_law_314 rfl 5 rfl ?_
  refine g_iload F dL_law_315 1 rfl ?_
  refine g_iconst (v := 1) F dL_law_317 rfl ?_
  refine g_iadd F dL_law_318 ?_
  refine g_sld (j := i + 1) F hX hbl hbA (by rw [hx4]; exact (Int32.ofNat_add i 1).symm) (by omega) (by omega) dL_law_319 ?_
  refine g_aload_n F dL_law_320 rfl 5 rfl ?_
  refine g_iload F dL_law_321 1 rfl ?_
  refine g_iconst (v := 2) F dL_law_323 rfl ?_
  refine g_iadd F dL_law_324 ?_
  refine g_sld (j := i + 2) F hX hbl hbA (by rw [hx4]; exact (Int32.ofNat_add i 2).symm) (by omega) (by omega) dL_law_325 ?_
  refine g_aload_n F dL_law_326 rfl 5 rfl ?_
  refine g_iload F dL_law_327 1 rfl ?_
  refine g_iconst (v := 3) F dL_law_329 rfl ?_
  refine g_iadd F dL_law_330 ?_
  refine g_sld (j := i + 3) F hX hbl hbA (by rw [hx4]; exact (Int32.ofNat_add i 3).symm) (by omega) (by omega) dL_law_331 ?_
  obtain ⟨o2, ho2, hf⟩ := bnE hf
  unfold p4_root at ho2
  obtain ⟨uo2, huo2, ho2⟩ := bnE ho2
  cases ho2
  refine g_callPi (n := 3) (As := [.int (xs (i + 1)), .int (xs (i + 2)), .int (xs (i + 3))]) (C := RX4) F (c_X4_root l dC dI cI cJ cH b.1 b.2.1 b.2.2.1 b.2.2.2.1 b.2.2.2.2.1 b.2.2.2.2.2.1 b.2.2.2.2.2.2.1 b.2.2.2.2.2.2.2.1 b.2.2.2.2.2.2.2.2.1 b.2.2.2.2.2.2.2.2.2.1 b.2.2.2.2.2.2.2.2.2.2.1 b.2.2.2.2.2.2.2.2.2.2.2.1 b.2.2.2.2.2.2.2.2.2.2.2.2.1 b.2.2.2.2.2.2.2.2.2.2.2.2.2 r.1 r.2.1 r.2.2.1 r.2.2.2.1 r.2.2.2.2.1 r.2.2.2.2.2.1 r.2.2.2.2.2.2.1 r.2.2.2.2.2.2.2.1 r.2.2.2.2.2.2.2.2.1 r.2.2.2.2.2.2.2.2.2.1 r.2.2.2.2.2.2.2.2.2.2.1 r.2.2.2.2.2.2.2.2.2.2.2.1 r.2.2.2.2.2.2.2.2.2.2.2.2.1 r.2.2.2.2.2.2.2.2.2.2.2.2.2.1 r.2.2.2.2.2.2.2.2.2.2.2.2.2.2.1 r.2.2.2.2.2.2.2.2.2.2.2.2.2.2.2.1 r.2.2.2.2.2.2.2.2.2.2.2.2.2.2.2.2.1 r.2.2.2.2.2.2.2.2.2.2.2.2.2.2.2.2.2.1 r.2.2.2.2.2.2.2.2.2.2.2.2.2.2.2.2.2.2.1 r.2.2.2.2.2.2.2.2.2.2.2.2.2.2.2.2.2.2.2.1 r.2.2.2.2.2.2.2.2.2.2.2.2.2.2.2.2.2.2.2.2.1 r.2.2.2.2.2.2.2.2.2.2.2.2.2.2.2.2.2.2.2.2.2.1 r.2.2.2.2.2.2.2.2.2.2.2.2.2.2.2.2.2.2.2.2.2.2 (xs (i + 1)) (xs (i + 2)) (xs (i + 3)) uo2 huo2) ggL_law_X4_root rfl rfl rfl (by decide +kernel) (by decide +kernel) (by decide +kernel) (by decide +kernel) (by decide +kernel) ⟨Nat.le_of_ble_eq_true rfl, Nat.le_of_ble_eq_true rfl⟩ ⟨by omega, by omega⟩ hN 29 rfl rfl rfl (wCS cI cH (swA o1.2.2.2 a) (swS o1.2.2.2 o1.2.1) ++ wLo cJ op o1.2.2.1) [] rfl (fun _ => rfl) rfl (Nat.le_of_ble_eq_true rfl) rfl dL_law_332 (cells' := cells + 2) (slots' := slots + 12) rfl rfl (fun r0 u hp => ?_)
  obtain ⟨hp1, hp2⟩ := hp
  subst hp1
  subst hp2
  refine g_ws (ws' := wCS cI cH (swA o1.2.2.2 a) (swS o1.2.2.2 o1.2.1) ++ wLo cJ op o1.2.2.1 ++ wRS cI b (uo2.2.1, r.2.1, r.2.2.1, r.2.2.2.1, uo2.2.2, r.2.2.2.2.2.1, r.2.2.2.2.2.2.1, r.2.2.2.2.2.2.2.1, r.2.2.2.2.2.2.2.2.1, r.2.2.2.2.2.2.2.2.2.1, r.2.2.2.2.2.2.2.2.2.2.1, r.2.2.2.2.2.2.2.2.2.2.2.1, r.2.2.2.2.2.2.2.2.2.2.2.2.1, r.2.2.2.2.2.2.2.2.2.2.2.2.2.1, r.2.2.2.2.2.2.2.2.2.2.2.2.2.2.1, r.2.2.2.2.2.2.2.2.2.2.2.2.2.2.2.1, r.2.2.2.2.2.2.2.2.2.2.2.2.2.2.2.2.1, r.2.2.2.2.2.2.2.2.2.2.2.2.2.2.2.2.2.1, r.2.2.2.2.2.2.2.2.2.2.2.2.2.2.2.2.2.2.1, r.2.2.2.2.2.2.2.2.2.2.2.2.2.2.2.2.2.2.2.1, r.2.2.2.2.2.2.2.2.2.2.2.2.2.2.2.2.2.2.2.2.1, r.2.2.2.2.2.2.2.2.2.2.2.2.2.2.2.2.2.2.2.2.2.1, r.2.2.2.2.2.2.2.2.2.2.2.2.2.2.2.2.2.2.2.2.2.2)) rfl ?_
  refine g_istore F dL_law_335 (by decide) (lv' := [(6, .int uo2.1), (5, .int o1.1), (4, .int x4), (3, .ref op), (2, .ref b.1), (1, .ref a.1), (0, .ref bs)]) rfl ?_
  refine g_goto (tgt := 787) F dL_law_337 rfl ?_
  cases hf
  refine g_lv [2, 3, 4, 5, 6] rfl ?_
  refine g_widen (k := cells + 4) (n := slots + 24) (by omega) (by omega) ?_
  exact k _ (swA_1 _ _)
set_option maxHeartbeats 4000000 in
set_option maxRecDepth 100000 in
theorem lc_4 {p : Program} {l : Launch} {e : Env} {st : State} {m : MethodId} {below : List Frame} {meth : Method} {c : Code} {cells slots bs L i : Nat} {xs : Nat → Int32} {x4 : Int32} {Q : State → Prop} {dC : Nat → ClassId} {dI : Nat → Nat → Nat} {cI cJ cH : ClassId} {A : Nat → Prop} {a : CA} {b : RA} {op : Nat} {s : CS} {r : RS} {oc : Nat → Int64} (hlt : l.stackTraces = false) (F : gF p m c code 7 st #[.ref bs] wsL_law RL (dC, dI) vwCl (gT cI cJ cH) A) (hN : ∀ w ∈ gN, va_Nw w st) (hXw : ∀ w ∈ gXw, va_Nw w st) (hZ : gZ A st) (hC0 : ∀ q ∈ gNc, va_Nc q.1 q.2 st) (hX : va_X bs L xs st st.heap) (hbl : bs < st.heap.size) (hbA : ¬ A bs) (hx4 : x4 = Int32.ofNat i) (hi : i + 5 ≤ L) (hL : L ≤ 2560) (hcl : cells + 4 ≤ room_1.cells) (hsl : slots + 24 ≤ room_1.slots) (o : CS × RS × (Nat → Int64)) (hf : sc_4 (xs (i + 1)) (xs (i + 2)) (xs (i + 3)) (xs (i + 4)) s r oc = some o) (k : ∀ a2 : CA, a2.1 = a.1 → gW p l e room_1 st m #[.ref bs] below meth c (cells + 4) (slots + 24) Q (dC, dI) vwCl A 7 (wCS cI cH a2 o.1 ++ wLo cJ op o.2.2 ++ wRS cI b o.2.1) [(4, .int x4), (3, .ref op), (2, .ref b.1), (1, .ref a.1), (0, .ref bs)] 787 []) : gW p l e room_1 st m #[.ref bs] below meth c cells slots Q (dC, dI) vwCl A 7 (wCS cI cH a s ++ wLo cJ op oc ++ wRS cI b r) [(4, .int x4), (3, .ref op), (2, .ref b.1), (1, .ref a.1), (0, .ref bs)] 340 [] := by
  unfold sc_4 at hf
  refine g_aload_n F dL_law_340 rfl 3 rfl ?_
  refine g_aload_n F dL_law_341 rfl 4 rfl ?_
  refine g_iload F dL_law_342 0 rfl ?_
  refine g_iconst (v := 1) F dL_law_344 rfl ?_
  refine g_iadd F dL_law_345 ?_
  refine g_sld (j := i + 1) F hX hbl hbA (by rw [hx4]; exact (Int32.ofNat_add i 1).symm) (by omega) (by omega) dL_law_346 ?_
  refine g_aload_n F dL_law_347 rfl 4 rfl ?_
  refine g_iload F dL_law_348 0 rfl ?_
  refine g_iconst (v := 2) F dL_law_350 rfl ?_
  refine g_iadd F dL_law_351 ?_
  refine g_sld (j := i + 2) F hX hbl hbA (by rw [hx4]; exact (Int32.ofNat_add i 2).symm) (by omega) (by omega) dL_law_352 ?_
  refine g_aload_n F dL_law_353 rfl 4 rfl ?_
  refine g_iload F dL_law_354 0 rfl ?_
  refine g_iconst (v := 3) F dL_law_356 rfl ?_
  refine g_iadd F dL_law_357 ?_
  refine g_sld (j := i + 3) F hX hbl hbA (by rw [hx4]; exact (Int32.ofNat_add i 3).symm) (by omega) (by omega) dL_law_358 ?_
  refine g_aload_n F dL_law_359 rfl 1 rfl ?_
  obtain ⟨o1, ho1, hf⟩ := bnE hf
  refine g_callSWP (n := 5) (As := [.ref a.1, .int (xs (i + 1)), .int (xs (i + 2)), .int (xs (i + 3)), .ref op]) F (c_L_poke l hlt dC dI cI cJ cH a s op oc (xs (i + 1)) (xs (i + 2)) (xs (i + 3)) o1 ho1) ggL_law_L_poke (by decide +kernel) (by decide +kernel) (by decide +kernel) rfl rfl rfl (by decide +kernel) ⟨Nat.le_of_ble_eq_true rfl, Nat.le_of_ble_eq_true rfl⟩ ⟨by omega, by omega⟩ hN hXw hZ hC0 [] (wRS cI b r) rfl (fun _ => rfl) rfl (Nat.le_of_ble_eq_true rfl) rfl dL_law_360 (cells' := cells + 2) (slots' := slots + 12) (by omega) (by omega) (fun r0 u hp => ?_)
  obtain ⟨hp1, hp2⟩ := hp
  subst hp1
  subst hp2
  refine g_sw (sw := o1.2.2.2) (s := o1.2.1) (a := a) (show _ = wCSw cI cH a o1.2.2.2 o1.2.1 ++ wLo cJ op o1.2.2.1 ++ wRS cI b r from rfl) ?_
  refine g_istore F dL_law_363 (by decide) (lv' := [(5, .int o1.1), (4, .int x4), (3, .ref op), (2, .ref b.1), (1, .ref a.1), (0, .ref bs)]) rfl ?_
  refine g_aload_n F dL_law_365 rfl 3 rfl ?_
  refine g_aload_n F dL_law_366 rfl 5 rfl ?_
  refine g_iload F dL_law_367 1 rfl ?_
  refine g_iconst (v := 1) F dL_law_369 rfl ?_
  refine g_iadd F dL_law_370 ?_
  refine g_sld (j := i + 1) F hX hbl hbA (by rw [hx4]; exact (Int32.ofNat_add i 1).symm) (by omega) (by omega) dL_law_371 ?_
  refine g_aload_n F dL_law_372 rfl 5 rfl ?_
  refine g_iload F dL_law_373 1 rfl ?_
  refine g_iconst (v := 2) F dL_law_375 rfl ?_
  refine g_iadd F dL_law_376 ?_
  refine g_sld (j := i + 2) F hX hbl hbA (by rw [hx4]; exact (Int32.ofNat_add i 2).symm) (by omega) (by omega) dL_law_377 ?_
  refine g_aload_n F dL_law_378 rfl 5 rfl ?_
  refine g_iload F dL_law_379 1 rfl ?_
  refine g_iconst (v := 3) F dL_law_381 rfl ?_
  refine g_iadd F dL_law_382 ?_
  refine g_sld (j := i + 3) F hX hbl hbA (by rw [hx4]; exact (Int32.ofNat_add i 3).symm) (by omega) (by omega) dL_law_383 ?_
  obtain ⟨o2, ho2, hf⟩ := bnE hf
  unfold p4_poke at ho2
  obtain ⟨uo2, huo2, ho2⟩ := bnE ho2
  cases ho2
  refine g_callPi (n := 3) (As := [.int (xs (i + 1)), .int (xs (i + 2)), .int (xs (i + 3))]) (C := RX4) F (c_X4_poke l dC dI cI cJ cH b.1 b.2.1 b.2.2.1 b.2.2.2.1 b.2.2.2.2.1 b.2.2.2.2.2.1 b.2.2.2.2.2.2.1 b.2.2.2.2.2.2.2.1 b.2.2.2.2.2.2.2.2.1 b.2.2.2.2.2.2.2.2.2.1 b.2.2.2.2.2.2.2.2.2.2.1 b.2.2.2.2.2.2.2.2.2.2.2.1 b.2.2.2.2.2.2.2.2.2.2.2.2.1 b.2.2.2.2.2.2.2.2.2.2.2.2.2 r.1 r.2.1 r.2.2.1 r.2.2.2.1 r.2.2.2.2.1 r.2.2.2.2.2.1 r.2.2.2.2.2.2.1 r.2.2.2.2.2.2.2.1 r.2.2.2.2.2.2.2.2.1 r.2.2.2.2.2.2.2.2.2.1 r.2.2.2.2.2.2.2.2.2.2.1 r.2.2.2.2.2.2.2.2.2.2.2.1 r.2.2.2.2.2.2.2.2.2.2.2.2.1 r.2.2.2.2.2.2.2.2.2.2.2.2.2.1 r.2.2.2.2.2.2.2.2.2.2.2.2.2.2.1 r.2.2.2.2.2.2.2.2.2.2.2.2.2.2.2.1 r.2.2.2.2.2.2.2.2.2.2.2.2.2.2.2.2.1 r.2.2.2.2.2.2.2.2.2.2.2.2.2.2.2.2.2.1 r.2.2.2.2.2.2.2.2.2.2.2.2.2.2.2.2.2.2.1 r.2.2.2.2.2.2.2.2.2.2.2.2.2.2.2.2.2.2.2.1 r.2.2.2.2.2.2.2.2.2.2.2.2.2.2.2.2.2.2.2.2.1 r.2.2.2.2.2.2.2.2.2.2.2.2.2.2.2.2.2.2.2.2.2.1 r.2.2.2.2.2.2.2.2.2.2.2.2.2.2.2.2.2.2.2.2.2.2 (xs (i + 1)) (xs (i + 2)) (xs (i + 3)) uo2 huo2) ggL_law_X4_poke rfl rfl rfl (by decide +kernel) (by decide +kernel) (by decide +kernel) (by decide +kernel) (by decide +kernel) ⟨Nat.le_of_ble_eq_true rfl, Nat.le_of_ble_eq_true rfl⟩ ⟨by omega, by omega⟩ hN 29 rfl rfl rfl (wCS cI cH (swA o1.2.2.2 a) (swS o1.2.2.2 o1.2.1) ++ wLo cJ op o1.2.2.1) [] rfl (fun _ => rfl) rfl (Nat.le_of_ble_eq_true rfl) rfl dL_law_384 (cells' := cells + 2) (slots' := slots + 12) rfl rfl (fun r0 u hp => ?_)
  obtain ⟨hp1, hp2⟩ := hp
  subst hp1
  subst hp2
  refine g_ws (ws' := wCS cI cH (swA o1.2.2.2 a) (swS o1.2.2.2 o1.2.1) ++ wLo cJ op o1.2.2.1 ++ wRS cI b (uo2.2.1, r.2.1, r.2.2.1, uo2.2.2, r.2.2.2.2.1, r.2.2.2.2.2.1, r.2.2.2.2.2.2.1, r.2.2.2.2.2.2.2.1, r.2.2.2.2.2.2.2.2.1, r.2.2.2.2.2.2.2.2.2.1, r.2.2.2.2.2.2.2.2.2.2.1, r.2.2.2.2.2.2.2.2.2.2.2.1, r.2.2.2.2.2.2.2.2.2.2.2.2.1, r.2.2.2.2.2.2.2.2.2.2.2.2.2.1, r.2.2.2.2.2.2.2.2.2.2.2.2.2.2.1, r.2.2.2.2.2.2.2.2.2.2.2.2.2.2.2.1, r.2.2.2.2.2.2.2.2.2.2.2.2.2.2.2.2.1, r.2.2.2.2.2.2.2.2.2.2.2.2.2.2.2.2.2.1, r.2.2.2.2.2.2.2.2.2.2.2.2.2.2.2.2.2.2.1, r.2.2.2.2.2.2.2.2.2.2.2.2.2.2.2.2.2.2.2.1, r.2.2.2.2.2.2.2.2.2.2.2.2.2.2.2.2.2.2.2.2.1, r.2.2.2.2.2.2.2.2.2.2.2.2.2.2.2.2.2.2.2.2.2.1, r.2.2.2.2.2.2.2.2.2.2.2.2.2.2.2.2.2.2.2.2.2.2)) rfl ?_
  refine g_istore F dL_law_387 (by decide) (lv' := [(6, .int uo2.1), (5, .int o1.1), (4, .int x4), (3, .ref op), (2, .ref b.1), (1, .ref a.1), (0, .ref bs)]) rfl ?_
  refine g_goto (tgt := 787) F dL_law_389 rfl ?_
  cases hf
  refine g_lv [2, 3, 4, 5, 6] rfl ?_
  refine g_widen (k := cells + 4) (n := slots + 24) (by omega) (by omega) ?_
  exact k _ (swA_1 _ _)
set_option maxHeartbeats 4000000 in
set_option maxRecDepth 100000 in
theorem lc_5 {p : Program} {l : Launch} {e : Env} {st : State} {m : MethodId} {below : List Frame} {meth : Method} {c : Code} {cells slots bs L i : Nat} {xs : Nat → Int32} {x4 : Int32} {Q : State → Prop} {dC : Nat → ClassId} {dI : Nat → Nat → Nat} {cI cJ cH : ClassId} {A : Nat → Prop} {a : CA} {b : RA} {op : Nat} {s : CS} {r : RS} {oc : Nat → Int64} (hlt : l.stackTraces = false) (F : gF p m c code 7 st #[.ref bs] wsL_law RL (dC, dI) vwCl (gT cI cJ cH) A) (hN : ∀ w ∈ gN, va_Nw w st) (hXw : ∀ w ∈ gXw, va_Nw w st) (hZ : gZ A st) (hC0 : ∀ q ∈ gNc, va_Nc q.1 q.2 st) (hX : va_X bs L xs st st.heap) (hbl : bs < st.heap.size) (hbA : ¬ A bs) (hx4 : x4 = Int32.ofNat i) (hi : i + 5 ≤ L) (hL : L ≤ 2560) (hcl : cells + 4 ≤ room_1.cells) (hsl : slots + 24 ≤ room_1.slots) (o : CS × RS × (Nat → Int64)) (hf : sc_5 (xs (i + 1)) (xs (i + 2)) (xs (i + 3)) (xs (i + 4)) s r oc = some o) (k : ∀ a2 : CA, a2.1 = a.1 → gW p l e room_1 st m #[.ref bs] below meth c (cells + 4) (slots + 24) Q (dC, dI) vwCl A 7 (wCS cI cH a2 o.1 ++ wLo cJ op o.2.2 ++ wRS cI b o.2.1) [(4, .int x4), (3, .ref op), (2, .ref b.1), (1, .ref a.1), (0, .ref bs)] 787 []) : gW p l e room_1 st m #[.ref bs] below meth c cells slots Q (dC, dI) vwCl A 7 (wCS cI cH a s ++ wLo cJ op oc ++ wRS cI b r) [(4, .int x4), (3, .ref op), (2, .ref b.1), (1, .ref a.1), (0, .ref bs)] 392 [] := by
  unfold sc_5 at hf
  refine g_aload_n F dL_law_392 rfl 3 rfl ?_
  refine g_aload_n F dL_law_393 rfl 4 rfl ?_
  refine g_iload F dL_law_394 0 rfl ?_
  refine g_iconst (v := 1) F dL_law_396 rfl ?_
  refine g_iadd F dL_law_397 ?_
  refine g_sld (j := i + 1) F hX hbl hbA (by rw [hx4]; exact (Int32.ofNat_add i 1).symm) (by omega) (by omega) dL_law_398 ?_
  refine g_aload_n F dL_law_399 rfl 4 rfl ?_
  refine g_iload F dL_law_400 0 rfl ?_
  refine g_iconst (v := 2) F dL_law_402 rfl ?_
  refine g_iadd F dL_law_403 ?_
  refine g_sld (j := i + 2) F hX hbl hbA (by rw [hx4]; exact (Int32.ofNat_add i 2).symm) (by omega) (by omega) dL_law_404 ?_
  refine g_aload_n F dL_law_405 rfl 1 rfl ?_
  obtain ⟨o1, ho1, hf⟩ := bnE hf
  refine g_callSWP (n := 4) (As := [.ref a.1, .int (xs (i + 1)), .int (xs (i + 2)), .ref op]) F (c_L_word l hlt dC dI cI cJ cH a s op oc (xs (i + 1)) (xs (i + 2)) o1 ho1) ggL_law_L_word (by decide +kernel) (by decide +kernel) (by decide +kernel) rfl rfl rfl (by decide +kernel) ⟨Nat.le_of_ble_eq_true rfl, Nat.le_of_ble_eq_true rfl⟩ ⟨by omega, by omega⟩ hN hXw hZ hC0 [] (wRS cI b r) rfl (fun _ => rfl) rfl (Nat.le_of_ble_eq_true rfl) rfl dL_law_406 (cells' := cells + 2) (slots' := slots + 12) (by omega) (by omega) (fun r0 u hp => ?_)
  obtain ⟨hp1, hp2⟩ := hp
  subst hp1
  subst hp2
  refine g_sw (sw := o1.2.2.2) (s := o1.2.1) (a := a) (show _ = wCSw cI cH a o1.2.2.2 o1.2.1 ++ wLo cJ op o1.2.2.1 ++ wRS cI b r from rfl) ?_
  refine g_istore F dL_law_409 (by decide) (lv' := [(5, .int o1.1), (4, .int x4), (3, .ref op), (2, .ref b.1), (1, .ref a.1), (0, .ref bs)]) rfl ?_
  refine g_aload_n F dL_law_411 rfl 3 rfl ?_
  refine g_aload_n F dL_law_412 rfl 5 rfl ?_
  refine g_iload F dL_law_413 1 rfl ?_
  refine g_iconst (v := 1) F dL_law_415 rfl ?_
  refine g_iadd F dL_law_416 ?_
  refine g_sld (j := i + 1) F hX hbl hbA (by rw [hx4]; exact (Int32.ofNat_add i 1).symm) (by omega) (by omega) dL_law_417 ?_
  refine g_aload_n F dL_law_418 rfl 5 rfl ?_
  refine g_iload F dL_law_419 1 rfl ?_
  refine g_iconst (v := 2) F dL_law_421 rfl ?_
  refine g_iadd F dL_law_422 ?_
  refine g_sld (j := i + 2) F hX hbl hbA (by rw [hx4]; exact (Int32.ofNat_add i 2).symm) (by omega) (by omega) dL_law_423 ?_
  obtain ⟨o2, ho2, hf⟩ := bnE hf
  unfold p4_word at ho2
  obtain ⟨uo2, huo2, ho2⟩ := bnE ho2
  cases ho2
  refine g_callPi (n := 2) (As := [.int (xs (i + 1)), .int (xs (i + 2))]) (C := RX4) F (c_X4_word l dC dI cI cJ cH b.1 b.2.1 b.2.2.1 b.2.2.2.1 b.2.2.2.2.1 b.2.2.2.2.2.1 b.2.2.2.2.2.2.1 b.2.2.2.2.2.2.2.1 b.2.2.2.2.2.2.2.2.1 b.2.2.2.2.2.2.2.2.2.1 b.2.2.2.2.2.2.2.2.2.2.1 b.2.2.2.2.2.2.2.2.2.2.2.1 b.2.2.2.2.2.2.2.2.2.2.2.2.1 b.2.2.2.2.2.2.2.2.2.2.2.2.2 r.1 r.2.1 r.2.2.1 r.2.2.2.1 r.2.2.2.2.1 r.2.2.2.2.2.1 r.2.2.2.2.2.2.1 r.2.2.2.2.2.2.2.1 r.2.2.2.2.2.2.2.2.1 r.2.2.2.2.2.2.2.2.2.1 r.2.2.2.2.2.2.2.2.2.2.1 r.2.2.2.2.2.2.2.2.2.2.2.1 r.2.2.2.2.2.2.2.2.2.2.2.2.1 r.2.2.2.2.2.2.2.2.2.2.2.2.2.1 r.2.2.2.2.2.2.2.2.2.2.2.2.2.2.1 r.2.2.2.2.2.2.2.2.2.2.2.2.2.2.2.1 r.2.2.2.2.2.2.2.2.2.2.2.2.2.2.2.2.1 r.2.2.2.2.2.2.2.2.2.2.2.2.2.2.2.2.2.1 r.2.2.2.2.2.2.2.2.2.2.2.2.2.2.2.2.2.2.1 r.2.2.2.2.2.2.2.2.2.2.2.2.2.2.2.2.2.2.2.1 r.2.2.2.2.2.2.2.2.2.2.2.2.2.2.2.2.2.2.2.2.1 r.2.2.2.2.2.2.2.2.2.2.2.2.2.2.2.2.2.2.2.2.2.1 r.2.2.2.2.2.2.2.2.2.2.2.2.2.2.2.2.2.2.2.2.2.2 (xs (i + 1)) (xs (i + 2)) uo2 huo2) ggL_law_X4_word rfl rfl rfl (by decide +kernel) (by decide +kernel) (by decide +kernel) (by decide +kernel) (by decide +kernel) ⟨Nat.le_of_ble_eq_true rfl, Nat.le_of_ble_eq_true rfl⟩ ⟨by omega, by omega⟩ hN 29 rfl rfl rfl (wCS cI cH (swA o1.2.2.2 a) (swS o1.2.2.2 o1.2.1) ++ wLo cJ op o1.2.2.1) [] rfl (fun _ => rfl) rfl (Nat.le_of_ble_eq_true rfl) rfl dL_law_424 (cells' := cells + 2) (slots' := slots + 12) rfl rfl (fun r0 u hp => ?_)
  obtain ⟨hp1, hp2⟩ := hp
  subst hp1
  subst hp2
  refine g_ws (ws' := wCS cI cH (swA o1.2.2.2 a) (swS o1.2.2.2 o1.2.1) ++ wLo cJ op o1.2.2.1 ++ wRS cI b (uo2.2, r.2.1, r.2.2.1, r.2.2.2.1, r.2.2.2.2.1, r.2.2.2.2.2.1, r.2.2.2.2.2.2.1, r.2.2.2.2.2.2.2.1, r.2.2.2.2.2.2.2.2.1, r.2.2.2.2.2.2.2.2.2.1, r.2.2.2.2.2.2.2.2.2.2.1, r.2.2.2.2.2.2.2.2.2.2.2.1, r.2.2.2.2.2.2.2.2.2.2.2.2.1, r.2.2.2.2.2.2.2.2.2.2.2.2.2.1, r.2.2.2.2.2.2.2.2.2.2.2.2.2.2.1, r.2.2.2.2.2.2.2.2.2.2.2.2.2.2.2.1, r.2.2.2.2.2.2.2.2.2.2.2.2.2.2.2.2.1, r.2.2.2.2.2.2.2.2.2.2.2.2.2.2.2.2.2.1, r.2.2.2.2.2.2.2.2.2.2.2.2.2.2.2.2.2.2.1, r.2.2.2.2.2.2.2.2.2.2.2.2.2.2.2.2.2.2.2.1, r.2.2.2.2.2.2.2.2.2.2.2.2.2.2.2.2.2.2.2.2.1, r.2.2.2.2.2.2.2.2.2.2.2.2.2.2.2.2.2.2.2.2.2.1, r.2.2.2.2.2.2.2.2.2.2.2.2.2.2.2.2.2.2.2.2.2.2)) rfl ?_
  refine g_istore F dL_law_427 (by decide) (lv' := [(6, .int uo2.1), (5, .int o1.1), (4, .int x4), (3, .ref op), (2, .ref b.1), (1, .ref a.1), (0, .ref bs)]) rfl ?_
  refine g_goto (tgt := 787) F dL_law_429 rfl ?_
  cases hf
  refine g_lv [2, 3, 4, 5, 6] rfl ?_
  refine g_widen (k := cells + 4) (n := slots + 24) (by omega) (by omega) ?_
  exact k _ (swA_1 _ _)
