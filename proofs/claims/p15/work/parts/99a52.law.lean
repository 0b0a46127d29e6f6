theorem lt5 {L i : Nat} (hL : L ≤ 100000) (hi : i ≤ L) : (Int32.ofNat L - 5 < Int32.ofNat i) ↔ L < i + 5 := by
  rw [Int32.lt_iff_toInt_lt, Int32.toInt_sub, Int32.toInt_ofNat_of_lt (by omega), Int32.toInt_ofNat_of_lt (by omega)]
  rw [show (5 : Int32).toInt = 5 from by decide, Int.bmod_eq_of_le (by omega) (by omega)]
  omega
set_option maxHeartbeats 4000000 in
set_option maxRecDepth 100000 in
theorem law_loop {p : Program} {l : Launch} {e : Env} {st : State} {m : MethodId} {below : List Frame} {meth : Method} {c : Code} {bs L : Nat} {xs : Nat → Int32} {dC : Nat → ClassId} {dI : Nat → Nat → Nat} {cI cJ cH : ClassId} {b : RA} {op : Nat} (hlt : l.stackTraces = false) (F : gF p m c code 7 st #[.ref bs] wsL_law RL (dC, dI) vwCl (gT cI cJ cH) (fun q : Nat => st.heap.size ≤ q)) (hN : ∀ w ∈ gN, va_Nw w st) (hXw : ∀ w ∈ gXw, va_Nw w st) (hZ : gZ (fun q : Nat => st.heap.size ≤ q) st) (hC0 : ∀ q ∈ gNc, va_Nc q.1 q.2 st) (hX : va_X bs L xs st st.heap) (hbl : bs < st.heap.size) (hL : L ≤ 2560) (hr : meth.sig.returnType = ret) (hlocks : meth.locks = false) : ∀ (n j p1 : Nat) (a : CA) (s : CS) (r : RS) (oc : Nat → Int64) (x4 : Int32), a.1 = p1 → x4 = Int32.ofNat (5 * j) → 5 * (j + n) ≤ L → L < 5 * (j + n) + 5 → sl_run xs n j s r oc = some () → gW p l e room_1 st m #[.ref bs] below meth c (43 + 4 * j) (20474 + 24 * j) (lw_Z below #[.ref bs] st) (dC, dI) vwCl (fun q : Nat => st.heap.size ≤ q) 7 (wCS cI cH a s ++ wLo cJ op oc ++ wRS cI b r) [(4, .int x4), (3, .ref op), (2, .ref b.1), (1, .ref p1), (0, .ref bs)] 23 [] := by
  intro n
  have hbA : ¬ (fun q : Nat => st.heap.size ≤ q) bs := Nat.not_le.mpr hbl
  induction n with
  | zero =>
    intro j p1 a s r oc x4 ha hx h1 h2 hf
    subst ha
    have hj : j ≤ 512 := by omega
    refine g_iload F dL_law_23 0 rfl ?_
    refine g_aload_n F dL_law_25 rfl 4 rfl ?_
    refine g_slen F hX hbl hbA dL_law_26 ?_
    refine g_iconst (v := 5) F dL_law_27 rfl ?_
    refine g_isub F dL_law_28 ?_
    refine g_icmp_gt (tgt := 793) F dL_law_29 rfl (fun hz => ?_) (fun hz => ?_)
    · refine g_iconst (v := 1) F dL_law_793 rfl ?_
      exact fun H locs ls hP hD hS hl => va_forget hS.2.2 (W.widen (by omega) (by omega) (lw_ret F.1 F.2.1 hr hlocks dL_law_794))
    · exact absurd (by rw [hx]; exact (lt5 (by omega) (by omega)).mpr (by omega)) hz
  | succ n ih =>
    intro j p1 a s r oc x4 ha hx h1 h2 hf
    subst ha
    have hj : j ≤ 512 := by omega
    have hf : Option.bind (sl_step (xs (5 * j)) (xs (5 * j + 1)) (xs (5 * j + 2)) (xs (5 * j + 3)) (xs (5 * j + 4)) s r oc) (fun o => sl_run xs n (j + 1) o.1 o.2.1 o.2.2) = some () := hf
    obtain ⟨o, ho, hf⟩ := bnE hf
    refine g_iload F dL_law_23 0 rfl ?_
    refine g_aload_n F dL_law_25 rfl 4 rfl ?_
    refine g_slen F hX hbl hbA dL_law_26 ?_
    refine g_iconst (v := 5) F dL_law_27 rfl ?_
    refine g_isub F dL_law_28 ?_
    refine g_icmp_gt (tgt := 793) F dL_law_29 rfl (fun hz => ?_) (fun hz => ?_)
    · rw [hx] at hz; exact absurd ((lt5 (by omega) (by omega)).mp hz) (by omega)
    · have hcl : 43 + 4 * j + 4 ≤ room_1.cells := by show _ ≤ 601024; omega
      have hsl : 20474 + 24 * j + 24 ≤ room_1.slots := by show _ ≤ 7293034; omega
      have nx : ∀ a2 : CA, a2.1 = a.1 → gW p l e room_1 st m #[.ref bs] below meth c (43 + 4 * j + 4) (20474 + 24 * j + 24) (lw_Z below #[.ref bs] st) (dC, dI) vwCl (fun q : Nat => st.heap.size ≤ q) 7 (wCS cI cH a2 o.1 ++ wLo cJ op o.2.2 ++ wRS cI b o.2.1) [(4, .int x4), (3, .ref op), (2, .ref b.1), (1, .ref a.1), (0, .ref bs)] 787 [] := by
        intro a2 ha2
        refine g_iinc (j := 0) (v := x4 + 5) F dL_law_787 rfl rfl (by decide) (lv' := [(4, .int (x4 + 5)), (3, .ref op), (2, .ref b.1), (1, .ref a.1), (0, .ref bs)]) rfl ?_
        refine g_goto (tgt := 23) F dL_law_790 rfl ?_
        refine g_widen (k := 43 + 4 * (j + 1)) (n := 20474 + 24 * (j + 1)) (by omega) (by omega) ?_
        exact ih (j + 1) a.1 a2 o.1 o.2.1 o.2.2 (x4 + 5) ha2 (by rw [hx, show 5 * (j + 1) = 5 * j + 5 by omega]; exact (Int32.ofNat_add (5 * j) 5).symm) (by omega) (by omega) hf
      refine g_aload_n F dL_law_32 rfl 4 rfl ?_
      refine g_iload F dL_law_33 0 rfl ?_
      refine g_sld (j := 5 * j) F hX hbl hbA hx (by omega) (by omega) dL_law_35 ?_
      refine g_bipush (v := 31) F dL_law_36 rfl ?_
      refine g_iand F dL_law_38 ?_
      unfold sl_step at ho
      by_cases t0 : xs (5 * j) &&& 31 = 0
      · replace ho := iteT ho t0
        refine g_nmi (y := 0) t0.symm ?_
        refine g_tableIn (off := 81) (tgt := 120) F dL_law_39 (by decide) (by decide) (by decide) (by decide) ?_
        exact lc_0 hlt F hN hXw hZ hC0 hX hbl hbA hx (by omega) hL hcl hsl o ho nx
      replace ho := iteF ho t0
      by_cases t1 : xs (5 * j) &&& 31 = 1
      · replace ho := iteT ho t1
        refine g_nmi (y := 1) t1.symm ?_
        refine g_tableIn (off := 133) (tgt := 172) F dL_law_39 (by decide) (by decide) (by decide) (by decide) ?_
        exact lc_1 hlt F hN hXw hZ hC0 hX hbl hbA hx (by omega) hL hcl hsl o ho nx
      replace ho := iteF ho t1
      by_cases t2 : xs (5 * j) &&& 31 = 2
      · replace ho := iteT ho t2
        refine g_nmi (y := 2) t2.symm ?_
        refine g_tableIn (off := 197) (tgt := 236) F dL_law_39 (by decide) (by decide) (by decide) (by decide) ?_
        exact lc_2 hlt F hN hXw hZ hC0 hX hbl hbA hx (by omega) hL hcl hsl o ho nx
      replace ho := iteF ho t2
      by_cases t3 : xs (5 * j) &&& 31 = 3
      · replace ho := iteT ho t3
        refine g_nmi (y := 3) t3.symm ?_
        refine g_tableIn (off := 249) (tgt := 288) F dL_law_39 (by decide) (by decide) (by decide) (by decide) ?_
        exact lc_3 hlt F hN hXw hZ hC0 hX hbl hbA hx (by omega) hL hcl hsl o ho nx
      replace ho := iteF ho t3
      by_cases t4 : xs (5 * j) &&& 31 = 4
      · replace ho := iteT ho t4
        refine g_nmi (y := 4) t4.symm ?_
        refine g_tableIn (off := 301) (tgt := 340) F dL_law_39 (by decide) (by decide) (by decide) (by decide) ?_
        exact lc_4 hlt F hN hXw hZ hC0 hX hbl hbA hx (by omega) hL hcl hsl o ho nx
      replace ho := iteF ho t4
      by_cases t5 : xs (5 * j) &&& 31 = 5
      · replace ho := iteT ho t5
        refine g_nmi (y := 5) t5.symm ?_
        refine g_tableIn (off := 353) (tgt := 392) F dL_law_39 (by decide) (by decide) (by decide) (by decide) ?_
        exact lc_5 hlt F hN hXw hZ hC0 hX hbl hbA hx (by omega) hL hcl hsl o ho nx
      replace ho := iteF ho t5
      by_cases t6 : xs (5 * j) &&& 31 = 6
      · replace ho := iteT ho t6
        refine g_nmi (y := 6) t6.symm ?_
        refine g_tableIn (off := 393) (tgt := 432) F dL_law_39 (by decide) (by decide) (by decide) (by decide) ?_
        exact lc_6 hlt F hN hXw hZ hC0 hX hbl hbA hx (by omega) hL hcl hsl o ho nx
      replace ho := iteF ho t6
      by_cases t7 : xs (5 * j) &&& 31 = 7
      · replace ho := iteT ho t7
        refine g_nmi (y := 7) t7.symm ?_
        refine g_tableIn (off := 421) (tgt := 460) F dL_law_39 (by decide) (by decide) (by decide) (by decide) ?_
        exact lc_7 hlt F hN hXw hZ hC0 hX hbl hbA hx (by omega) hL hcl hsl o ho nx
      replace ho := iteF ho t7
      by_cases t8 : xs (5 * j) &&& 31 = 8
      · replace ho := iteT ho t8
        refine g_nmi (y := 8) t8.symm ?_
        refine g_tableIn (off := 461) (tgt := 500) F dL_law_39 (by decide) (by decide) (by decide) (by decide) ?_
        exact lc_8 hlt F hN hXw hZ hC0 hX hbl hbA hx (by omega) hL hcl hsl o ho nx
      replace ho := iteF ho t8
      by_cases t9 : xs (5 * j) &&& 31 = 9
      · replace ho := iteT ho t9
        refine g_nmi (y := 9) t9.symm ?_
        refine g_tableIn (off := 489) (tgt := 528) F dL_law_39 (by decide) (by decide) (by decide) (by decide) ?_
        exact lc_9 hlt F hN hXw hZ hC0 hX hbl hbA hx (by omega) hL hcl hsl o ho nx
      replace ho := iteF ho t9
      by_cases t10 : xs (5 * j) &&& 31 = 10
      · replace ho := iteT ho t10
        refine g_nmi (y := 10) t10.symm ?_
        refine g_tableIn (off := 517) (tgt := 556) F dL_law_39 (by decide) (by decide) (by decide) (by decide) ?_
        exact lc_10 hlt F hN hXw hZ hC0 hX hbl hbA hx (by omega) hL hcl hsl o ho nx
      replace ho := iteF ho t10
      by_cases t11 : xs (5 * j) &&& 31 = 11
      · replace ho := iteT ho t11
        refine g_nmi (y := 11) t11.symm ?_
        refine g_tableIn (off := 545) (tgt := 584) F dL_law_39 (by decide) (by decide) (by decide) (by decide) ?_
        exact lc_11 hlt F hN hXw hZ hC0 hX hbl hbA hx (by omega) hL hcl hsl o ho nx
      replace ho := iteF ho t11
      by_cases t12 : xs (5 * j) &&& 31 = 12
      · replace ho := iteT ho t12
        refine g_nmi (y := 12) t12.symm ?_
        refine g_tableIn (off := 573) (tgt := 612) F dL_law_39 (by decide) (by decide) (by decide) (by decide) ?_
        exact lc_12 hlt F hN hXw hZ hC0 hX hbl hbA hx (by omega) hL hcl hsl o ho nx
      replace ho := iteF ho t12
      by_cases t13 : xs (5 * j) &&& 31 = 13
      · replace ho := iteT ho t13
        refine g_nmi (y := 13) t13.symm ?_
        refine g_tableIn (off := 613) (tgt := 652) F dL_law_39 (by decide) (by decide) (by decide) (by decide) ?_
        exact lc_13 hlt F hN hXw hZ hC0 hX hbl hbA hx (by omega) hL hcl hsl o ho nx
      replace ho := iteF ho t13
      by_cases t14 : xs (5 * j) &&& 31 = 14
      · replace ho := iteT ho t14
        refine g_nmi (y := 14) t14.symm ?_
        refine g_tableIn (off := 681) (tgt := 720) F dL_law_39 (by decide) (by decide) (by decide) (by decide) ?_
        exact lc_14 hlt F hN hXw hZ hC0 hX hbl hbA hx (by omega) hL hcl hsl o ho nx
      replace ho := iteF ho t14
      by_cases t15 : xs (5 * j) &&& 31 = 15
      · replace ho := iteT ho t15
        refine g_nmi (y := 15) t15.symm ?_
        refine g_tableIn (off := 697) (tgt := 736) F dL_law_39 (by decide) (by decide) (by decide) (by decide) ?_
        exact lc_15 hlt F hN hXw hZ hC0 hX hbl hbA hx (by omega) hL hcl hsl o ho nx
      replace ho := iteF ho t15
      by_cases t16 : xs (5 * j) &&& 31 = 16
      · replace ho := iteT ho t16
        refine g_nmi (y := 16) t16.symm ?_
        refine g_tableIn (off := 737) (tgt := 776) F dL_law_39 (by decide) (by decide) (by decide) (by decide) ?_
        exact lc_16 hlt F hN hXw hZ hC0 hX hbl hbA hx (by omega) hL hcl hsl o ho nx
      replace ho := iteF ho t16
      cases ho
      refine g_tableOut (tgt := 787) F dL_law_39 (by have q0 := lv_neT t0 (show (0 : Int32).toInt = 0 by decide); have q1 := lv_neT t1 (show (1 : Int32).toInt = 1 by decide); have q2 := lv_neT t2 (show (2 : Int32).toInt = 2 by decide); have q3 := lv_neT t3 (show (3 : Int32).toInt = 3 by decide); have q4 := lv_neT t4 (show (4 : Int32).toInt = 4 by decide); have q5 := lv_neT t5 (show (5 : Int32).toInt = 5 by decide); have q6 := lv_neT t6 (show (6 : Int32).toInt = 6 by decide); have q7 := lv_neT t7 (show (7 : Int32).toInt = 7 by decide); have q8 := lv_neT t8 (show (8 : Int32).toInt = 8 by decide); have q9 := lv_neT t9 (show (9 : Int32).toInt = 9 by decide); have q10 := lv_neT t10 (show (10 : Int32).toInt = 10 by decide); have q11 := lv_neT t11 (show (11 : Int32).toInt = 11 by decide); have q12 := lv_neT t12 (show (12 : Int32).toInt = 12 by decide); have q13 := lv_neT t13 (show (13 : Int32).toInt = 13 by decide); have q14 := lv_neT t14 (show (14 : Int32).toInt = 14 by decide); have q15 := lv_neT t15 (show (15 : Int32).toInt = 15 by decide); have q16 := lv_neT t16 (show (16 : Int32).toInt = 16 by decide); omega) (by decide) ?_
      refine g_widen (k := 43 + 4 * j + 4) (n := 20474 + 24 * j + 24) (by omega) (by omega) ?_
      exact nx a rfl
theorem wsL_law_good : ∀ w ∈ gN ++ gXw, w ∈ lw_tbl := by decide +kernel
theorem gNX_tab : ∀ w ∈ gN ++ gXw, w.onTables = true := by decide +kernel
theorem gNc_in : ∀ q ∈ gNc, Cond.not (.castable q.1 q.2) ∈ flatC (Jvm.Cond.and given_1 narrow_1) := by decide +kernel
set_option maxHeartbeats 8000000 in
set_option maxRecDepth 100000 in
theorem law_start {p : Program} {e : Env} {s : State} {m : MethodId} {below : List Frame} {meth : Method} {c : Code} (l : Launch) (hlt : l.stackTraces = false) {b L : Nat} {xs : Nat → Int32} (hL : L ≤ 2560) (C0 : lw_At p s m meth c b L xs) (hrun : sl_run xs (L / 5) 0 cs0 rs0 (fun _ => 0) = some ()) : W p l e room_1 s m #[Value.ref b] below meth c s.heap [] 0 0 (lw_Z below #[Value.ref b] s) (entryFrame m ([Value.ref b] : List Value).toArray 7) := by
  obtain ⟨hx, hb, hr, hml, hown, hts0, hX, hbl, hlocks, hgv⟩ := id C0
  have hts : ∀ w ∈ wsL_law, w.before #[Value.ref b] s = true := fun w h => hts0 w (wsL_law_in w h)
  have hA : ∀ q : Nat, s.heap.size ≤ q → (fun q : Nat => s.heap.size ≤ q) q := fun _ h => h
  obtain ⟨c0, i0, hk0⟩ := u_known (C := RX0) (T := TX0) (N := 2) (n := 2) hts inlX0 (hts (.instantiable RX0 2) (by decide +kernel))
  obtain ⟨c1, i1, hk1⟩ := u_known (C := RX1) (T := TX1) (N := 10) (n := 10) hts inlX1 (hts (.instantiable RX1 10) (by decide +kernel))
  obtain ⟨c2, i2, hk2⟩ := u_known (C := RX2) (T := TX2) (N := 5) (n := 5) hts inlX2 (hts (.instantiable RX2 5) (by decide +kernel))
  obtain ⟨c3, i3, hk3⟩ := u_known (C := RX3) (T := TX3) (N := 5) (n := 5) hts inlX3 (hts (.instantiable RX3 5) (by decide +kernel))
  obtain ⟨c4, i4, hk4⟩ := u_known (C := RX4) (T := TX4) (N := 23) (n := 23) hts inlX4 (hts (.instantiable RX4 23) (by decide +kernel))
  obtain ⟨dC, dI, hKc⟩ : ∃ (dC : Nat → ClassId) (dI : Nat → Nat → Nat), ∀ (k : Nat) (q : vw_C), vwCl[k]? = some q → u_Kn s q.1 q.2.1 q.2.2 (dC k) (dI k) := by
    refine ⟨fun k => if k = 0 then c0 else if k = 1 then c1 else if k = 2 then c2 else if k = 3 then c3 else c4, fun k => if k = 0 then i0 else if k = 1 then i1 else if k = 2 then i2 else if k = 3 then i3 else i4, ?_⟩
    intro k q hq
    match k, hq with
    | 0, hq => cases hq; exact hk0
    | 1, hq => cases hq; exact hk1
    | 2, hq => cases hq; exact hk2
    | 3, hq => cases hq; exact hk3
    | 4, hq => cases hq; exact hk4
    | k + 5, hq => simp [vwCl] at hq
  obtain ⟨cI, kI, compI, hcI, hkI, hdI⟩ := Cond.arrayClass_spec (hts (.arrayClass .int) (by decide +kernel))
  obtain ⟨cJ, kJ, compJ, hcJ, hkJ, hdJ⟩ := Cond.arrayClass_spec (hts (.arrayClass .long) (by decide +kernel))
  have hO : va_AO "HeapImages$Heap" s := va_AO.of (hts0 (.arrayOver (.object "HeapImages$Heap")) (by decide +kernel))
  obtain ⟨compH, cH, kH, hH1, hH2, hH3, hH4, hH5⟩ := Cond.arrayOver_spec hO
  have hK : va_K (dC, dI) vwCl (gT cI cJ cH) s := by
    refine ⟨hKc, fun k q h => ?_⟩
    match k, h with
    | 0, h => cases h; exact ⟨fun N z => ⟨(fun k h => by cases h), kI, hkI, compI, hdI⟩, hcI⟩
    | 1, h => cases h; exact ⟨fun N z => ⟨(fun k h => by cases h), kJ, hkJ, compJ, hdJ⟩, hcJ⟩
    | 2, h => cases h; exact ⟨fun N z => ⟨(fun k h => by cases h), kH, hH3, compH, hH4⟩, kH, compH, hH3, hH4, hH1, hH5⟩
    | k + 3, h => simp [gT] at h
  have hN : ∀ w ∈ gN, va_Nw w s := fun w h => va_Nw.of (gNX_tab w (List.mem_append_left _ h)) (hts0 w (wsL_law_good w (List.mem_append_left _ h)))
  have hXw : ∀ w ∈ gXw, va_Nw w s := fun w h => va_Nw.of (gNX_tab w (List.mem_append_right _ h)) (hts0 w (wsL_law_good w (List.mem_append_right _ h)))
  have hfl := flat_of_before _ hgv
  have hAn : ∀ a : Nat, a < s.heap.size → ¬ (fun q : Nat => s.heap.size ≤ q) a := fun a h => Nat.not_le.mpr h
  have hZ : gZ (fun q : Nat => s.heap.size ≤ q) s := ⟨vx_Zqof (hts0 (.laysStatic Bundle.tN "UNASSIGNED_STACK" Bundle.steD) (by decide +kernel)) (hts0 (.initialized Bundle.tN) (by decide +kernel)) (hfl (.isRef (.static Bundle.tN "UNASSIGNED_STACK" Bundle.steD)) (by decide +kernel)) hAn, vx_Zqof (hts0 (.laysStatic Bundle.tN "SUPPRESSED_SENTINEL" Bundle.listD) (by decide +kernel)) (hts0 (.initialized Bundle.tN) (by decide +kernel)) (hfl (.isRef (.static Bundle.tN "SUPPRESSED_SENTINEL" Bundle.listD)) (by decide +kernel)) hAn⟩
  have hC0 : ∀ q ∈ gNc, va_Nc q.1 q.2 s := fun q hq => va_Nc.of (hfl _ (gNc_in q hq))
  have F : gF p m c code 7 s #[.ref b] wsL_law RL (dC, dI) vwCl (gT cI cJ cH) (fun q : Nat => s.heap.size ≤ q) := ⟨hx, hb, hml, hown, hts, hK, hA⟩
  have hl := lv_entry ([.ref b]) (n := 7) (Nat.le_of_ble_eq_true rfl)
  rw [lg_entry_eq]
  generalize (lg_sl ([.ref b]) ++ List.replicate (7 - (lg_sl ([.ref b])).length) Slot.unset).toArray = ls at hl ⊢
  have hP0 : va_P (dC, dI) vwCl [] s.heap := fun k q h => by simp at h
  have hD0 : va_D (fun q : Nat => s.heap.size ≤ q) [] := ⟨fun i j p q h => by simp at h, fun k q h => by simp at h⟩
  refine g_use (D := (dC, dI)) (cl := vwCl) (A := fun q : Nat => s.heap.size ≤ q) (nL := 7) (ws := []) (lv := [(0, .ref b)]) ?_ hP0 hD0 va_S.rf hl
  refine g_newo (C := RX3) (T := TX3) (N := 5) (ci := 3) (fs := [.null, .null, .null, .null, .null]) F inlX3 tyX3 tyX3_ok (by decide +kernel) (by decide +kernel) (by decide +kernel) rfl (fun j hj => match j, hj with | 0, _ => rfl | 1, _ => rfl | 2, _ => rfl | 3, _ => rfl | 4, _ => rfl | z + 5, h => absurd h (by omega)) (Nat.le_of_ble_eq_true rfl) (Nat.le_of_ble_eq_true rfl) dL_law_0 (cells' := 1) (slots' := 5) rfl rfl (fun q1 => ?_)
  refine g_ws (ws' := [(q1, .inr (3, [.null, .null, .null, .null, .null]))]) rfl ?_
  refine g_dup F dL_law_3 rfl ?_
  refine g_callIO (host := "") (n := 0) (As := []) (b := q1) (wc := [(q1, .inr (3, [.null, .null, .null, .null, .null]))]) (wr := []) (B := (fun A1 t => ∃ heaps_p im_p im_row_p ip_p ip_row_p rd_p h0_p h0_words_p h0_roots_p h0_heads_p h0_marks_p h0_order_p h0_targets_p h1_p h1_words_p h1_roots_p h1_heads_p h1_marks_p h1_order_p h1_targets_p sp_p sp_words_p sp_roots_p sp_heads_p sp_marks_p sp_order_p sp_targets_p : Nat, va_P (dC, dI) vwCl (wHI0 cI cH q1 heaps_p im_p im_row_p ip_p ip_row_p rd_p h0_p h0_words_p h0_roots_p h0_heads_p h0_marks_p h0_order_p h0_targets_p h1_p h1_words_p h1_roots_p h1_heads_p h1_marks_p h1_order_p h1_targets_p sp_p sp_words_p sp_roots_p sp_heads_p sp_marks_p sp_order_p sp_targets_p) t.heap ∧ va_K (dC, dI) vwCl (gT cI cJ cH) t ∧ va_D A1 (wHI0 cI cH q1 heaps_p im_p im_row_p ip_p ip_row_p rd_p h0_p h0_words_p h0_roots_p h0_heads_p h0_marks_p h0_order_p h0_targets_p h1_p h1_words_p h1_roots_p h1_heads_p h1_marks_p h1_order_p h1_targets_p sp_p sp_words_p sp_roots_p sp_heads_p sp_marks_p sp_order_p sp_targets_p))) (BB := fun w1 => ∃ heaps_p im_p im_row_p ip_p ip_row_p rd_p h0_p h0_words_p h0_roots_p h0_heads_p h0_marks_p h0_order_p h0_targets_p h1_p h1_words_p h1_roots_p h1_heads_p h1_marks_p h1_order_p h1_targets_p sp_p sp_words_p sp_roots_p sp_heads_p sp_marks_p sp_order_p sp_targets_p : Nat, w1 = wHI0 cI cH q1 heaps_p im_p im_row_p ip_p ip_row_p rd_p h0_p h0_words_p h0_roots_p h0_heads_p h0_marks_p h0_order_p h0_targets_p h1_p h1_words_p h1_roots_p h1_heads_p h1_marks_p h1_order_p h1_targets_p sp_p sp_words_p sp_roots_p sp_heads_p sp_marks_p sp_order_p sp_targets_p) F (c_X3_init l dC dI cI cJ cH q1) (fun A1 t h => ?_) ggL_law_X3_init rfl rfl rfl (by decide +kernel) (by decide +kernel) rfl (by decide +kernel) (by decide +kernel) ⟨Nat.le_of_ble_eq_true rfl, Nat.le_of_ble_eq_true rfl⟩ ⟨Nat.le_of_ble_eq_true rfl, Nat.le_of_ble_eq_true rfl⟩ hN hO [0] [] rfl rfl rfl (by decide) (by decide) rfl (Nat.le_of_ble_eq_true rfl) rfl dL_law_4 (cells' := 28) (slots' := 7898) rfl rfl (fun w1 h => ?_)
  · obtain ⟨heaps_p, im_p, im_row_p, ip_p, ip_row_p, rd_p, h0_p, h0_words_p, h0_roots_p, h0_heads_p, h0_marks_p, h0_order_p, h0_targets_p, h1_p, h1_words_p, h1_roots_p, h1_heads_p, h1_marks_p, h1_order_p, h1_targets_p, sp_p, sp_words_p, sp_roots_p, sp_heads_p, sp_marks_p, sp_order_p, sp_targets_p, h1, _, h2⟩ := h
    exact ⟨_, ⟨heaps_p, im_p, im_row_p, ip_p, ip_row_p, rd_p, h0_p, h0_words_p, h0_roots_p, h0_heads_p, h0_marks_p, h0_order_p, h0_targets_p, h1_p, h1_words_p, h1_roots_p, h1_heads_p, h1_marks_p, h1_order_p, h1_targets_p, sp_p, sp_words_p, sp_roots_p, sp_heads_p, sp_marks_p, sp_order_p, sp_targets_p, rfl⟩, h1, h2⟩
  obtain ⟨heaps_p, im_p, im_row_p, ip_p, ip_row_p, rd_p, h0_p, h0_words_p, h0_roots_p, h0_heads_p, h0_marks_p, h0_order_p, h0_targets_p, h1_p, h1_words_p, h1_roots_p, h1_heads_p, h1_marks_p, h1_order_p, h1_targets_p, sp_p, sp_words_p, sp_roots_p, sp_heads_p, sp_marks_p, sp_order_p, sp_targets_p, rfl⟩ := h
  obtain ⟨a, ha⟩ : ∃ a : CA, a = (q1, heaps_p, im_p, im_row_p, ip_p, ip_row_p, rd_p, (h0_p, h0_words_p, h0_roots_p, h0_heads_p, h0_marks_p, h0_order_p, h0_targets_p), (h1_p, h1_words_p, h1_roots_p, h1_heads_p, h1_marks_p, h1_order_p, h1_targets_p), (sp_p, sp_words_p, sp_roots_p, sp_heads_p, sp_marks_p, sp_order_p, sp_targets_p)) := ⟨_, rfl⟩
  refine g_ws (ws' := wCS cI cH a cs0) (by subst ha; rfl) ?_
  have ha1 : a.1 = q1 := by subst ha; rfl
  clear ha
  subst ha1
  refine g_astore_n F dL_law_7 rfl (by decide) (lv' := [(1, .ref a.1), (0, .ref b)]) rfl ?_
  refine g_newo (C := RX4) (T := TX4) (N := 23) (ci := 4) (fs := [.int 0, .null, .null, .null, .null, .int 0, .null, .null, .int 0, .null, .int 0, .null, .int 0, .null, .int 0, .int 0, .int 0, .int 0, .null, .null, .null, .long 0, .null]) F inlX4 tyX4 tyX4_ok (by decide +kernel) (by decide +kernel) (by decide +kernel) rfl (fun j hj => match j, hj with | 0, _ => rfl | 1, _ => rfl | 2, _ => rfl | 3, _ => rfl | 4, _ => rfl | 5, _ => rfl | 6, _ => rfl | 7, _ => rfl | 8, _ => rfl | 9, _ => rfl | 10, _ => rfl | 11, _ => rfl | 12, _ => rfl | 13, _ => rfl | 14, _ => rfl | 15, _ => rfl | 16, _ => rfl | 17, _ => rfl | 18, _ => rfl | 19, _ => rfl | 20, _ => rfl | 21, _ => rfl | 22, _ => rfl | z + 23, h => absurd h (by omega)) (Nat.le_of_ble_eq_true rfl) (Nat.le_of_ble_eq_true rfl) dL_law_8 (cells' := 29) (slots' := 7921) rfl rfl (fun q2 => ?_)
  refine g_ws (ws' := wCS cI cH a cs0 ++ [(q2, .inr (4, [.int 0, .null, .null, .null, .null, .int 0, .null, .null, .int 0, .null, .int 0, .null, .int 0, .null, .int 0, .int 0, .int 0, .int 0, .null, .null, .null, .long 0, .null]))]) rfl ?_
  refine g_dup F dL_law_11 rfl ?_
  refine g_callI (host := "") (n := 0) (As := []) (b := q2) (wc := [(q2, .inr (4, [.int 0, .null, .null, .null, .null, .int 0, .null, .null, .int 0, .null, .int 0, .null, .int 0, .null, .int 0, .int 0, .int 0, .int 0, .null, .null, .null, .long 0, .null]))]) (wr := wCS cI cH a cs0) (B := fun A1 t => ∃ bases_p tops_p words_p roots_p order_p numbers_p image_p other_p input_p fresh_p freshRoots_p heads_p kept_p : Nat, va_P (dC, dI) vwCl (wMd cI q2 bases_p tops_p words_p roots_p order_p numbers_p image_p other_p input_p fresh_p freshRoots_p heads_p kept_p 0 (upd (upd (fun _ => 0) 0 4096) 1 4096) (fun _ => 0) (fun _ => 0) (fun _ => 0) 0 (fun _ => 0) (fun _ => 0) 0 (fun _ => 0) 0 (fun _ => 0) 0 (fun _ => 0) 0 0 0 0 (fun _ => 0) (fun _ => 0) (fun _ => 0) 0 (fun _ => 0)) t.heap ∧ va_K (dC, dI) vwCl (gT cI cJ cH) t ∧ va_D A1 (wMd cI q2 bases_p tops_p words_p roots_p order_p numbers_p image_p other_p input_p fresh_p freshRoots_p heads_p kept_p 0 (upd (upd (fun _ => 0) 0 4096) 1 4096) (fun _ => 0) (fun _ => 0) (fun _ => 0) 0 (fun _ => 0) (fun _ => 0) 0 (fun _ => 0) 0 (fun _ => 0) 0 (fun _ => 0) 0 0 0 0 (fun _ => 0) (fun _ => 0) (fun _ => 0) 0 (fun _ => 0))) (BB := fun w1 => ∃ bases_p tops_p words_p roots_p order_p numbers_p image_p other_p input_p fresh_p freshRoots_p heads_p kept_p : Nat, w1 = wMd cI q2 bases_p tops_p words_p roots_p order_p numbers_p image_p other_p input_p fresh_p freshRoots_p heads_p kept_p 0 (upd (upd (fun _ => 0) 0 4096) 1 4096) (fun _ => 0) (fun _ => 0) (fun _ => 0) 0 (fun _ => 0) (fun _ => 0) 0 (fun _ => 0) 0 (fun _ => 0) 0 (fun _ => 0) 0 0 0 0 (fun _ => 0) (fun _ => 0) (fun _ => 0) 0 (fun _ => 0)) F (c_X4_init l dC dI cI cJ cH q2) (fun A1 t h => ?_) ggL_law_X4_init rfl rfl rfl (by decide +kernel) (by decide +kernel) rfl (by decide +kernel) (by decide +kernel) ⟨Nat.le_of_ble_eq_true rfl, Nat.le_of_ble_eq_true rfl⟩ ⟨Nat.le_of_ble_eq_true rfl, Nat.le_of_ble_eq_true rfl⟩ hN [28] [0, 1, 2, 3, 4, 5, 6, 7, 8, 9, 10, 11, 12, 13, 14, 15, 16, 17, 18, 19, 20, 21, 22, 23, 24, 25, 26, 27] rfl rfl rfl (by decide) (by decide) rfl (Nat.le_of_ble_eq_true rfl) rfl dL_law_12 (cells' := 42) (slots' := 20473) rfl rfl (fun w1 h => ?_)
  · obtain ⟨bases_p, tops_p, words_p, roots_p, order_p, numbers_p, image_p, other_p, input_p, fresh_p, freshRoots_p, heads_p, kept_p, h1, _, h2⟩ := h
    exact ⟨_, ⟨bases_p, tops_p, words_p, roots_p, order_p, numbers_p, image_p, other_p, input_p, fresh_p, freshRoots_p, heads_p, kept_p, rfl⟩, h1, h2⟩
  obtain ⟨bases_p, tops_p, words_p, roots_p, order_p, numbers_p, image_p, other_p, input_p, fresh_p, freshRoots_p, heads_p, kept_p, rfl⟩ := h
  obtain ⟨b2, hb2⟩ : ∃ b2 : RA, b2 = (q2, bases_p, tops_p, words_p, roots_p, order_p, numbers_p, image_p, other_p, input_p, fresh_p, freshRoots_p, heads_p, kept_p) := ⟨_, rfl⟩
  refine g_ws (ws' := wCS cI cH a cs0 ++ wRS cI b2 rs0) (by subst hb2; rfl) ?_
  have hb1 : b2.1 = q2 := by subst hb2; rfl
  clear hb2
  subst hb1
  refine g_astore_n F dL_law_15 rfl (by decide) (lv' := [(2, .ref b2.1), (1, .ref a.1), (0, .ref b)]) rfl ?_
  refine g_iconst (v := 1) F dL_law_16 rfl ?_
  refine g_newl (n := 1) (N' := 1) F 1 rfl (by decide +kernel) (by decide) (by decide) (by decide) (Nat.le_of_ble_eq_true rfl) (Nat.le_of_ble_eq_true rfl) dL_law_17 (cells' := 43) (slots' := 20474) rfl rfl (fun op => ?_)
  refine g_sub (ws' := wCS cI cH a cs0 ++ wLo cJ op (fun _ => 0) ++ wRS cI b2 rs0) [0, 1, 2, 3, 4, 5, 6, 7, 8, 9, 10, 11, 12, 13, 14, 15, 16, 17, 18, 19, 20, 21, 22, 23, 24, 25, 26, 27, 42, 28, 29, 30, 31, 32, 33, 34, 35, 36, 37, 38, 39, 40, 41] rfl rfl ?_
  refine g_astore_n F dL_law_19 rfl (by decide) (lv' := [(3, .ref op), (2, .ref b2.1), (1, .ref a.1), (0, .ref b)]) rfl ?_
  refine g_iconst (v := 0) F dL_law_20 rfl ?_
  refine g_istore F dL_law_21 (by decide) (lv' := [(4, .int 0), (3, .ref op), (2, .ref b2.1), (1, .ref a.1), (0, .ref b)]) rfl ?_
  exact law_loop hlt F hN hXw hZ hC0 hX hbl hL hr hlocks (L / 5) 0 a.1 a cs0 rs0 (fun _ => 0) 0 rfl rfl (by omega) (by omega) hrun
