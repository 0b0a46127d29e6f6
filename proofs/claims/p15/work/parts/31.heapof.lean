abbrev wHI (cH : ClassId) (p heaps_p image_r input_r reader_r : Nat) (heaps_c : Nat → Option Nat) (spare_c : Nat) : va_W := [(p, .inr (3, [.ref heaps_p, .ref image_r, .ref input_r, .ref reader_r, .ref spare_c])), (heaps_p, .inl (cH, 2, .inr (.inr (.inr (.inr heaps_c)))))]
def hsf (a b : Nat) : Nat → Option Nat := fun k => if k = 0 then some a else if k = 1 then some b else none
/-- which of the three heaps stand in the row: as at first, or the spare one in the place of the first, or of the second -/
def hsw : Nat → Nat → Nat → Nat → (Nat → Option Nat)
  | 1, a, b, c => va_up (hsf a b) 0 (some c)
  | 2, a, b, c => va_up (hsf a b) 1 (some c)
  | _, a, b, _ => hsf a b
def ssw : Nat → Nat → Nat → Nat → Nat
  | 1, a, _, _ => a
  | 2, _, b, _ => b
  | _, _, _, c => c
theorem in01 {x : Int32} (h : inR x 2) : x = 0 ∨ x = 1 := by
  obtain ⟨j, hj, rfl⟩ := vp_in_of (x := x) (n := 2) h (by decide)
  match j, hj with
  | 0, _ => exact Or.inl (by decide)
  | 1, _ => exact Or.inr (by decide)
theorem in2 {x : Int32} (h1 : ¬ x < 0) (h2 : x < 2) : inR x 2 := by
  have a : 0 ≤ x.toInt := by
    have := Int32.not_lt.mp h1
    simpa using Int32.le_iff_toInt_le.mp this
  have b : x.toInt < 2 := by
    have := Int32.lt_iff_toInt_lt.mp h2
    simpa using this
  exact (vp_in_iff (x := x) (n := 2)).mpr ⟨a, by simpa using b⟩
theorem gmix_id : ∀ (is : List Nat) (ws wc : va_W), is.map (fun i => ws[i]?) = wc.map some → gmix ws is wc = ws
  | [], ws, wc, _ => by cases wc <;> rfl
  | i :: is, ws, wc, h => by
    cases wc with
    | nil => simp at h
    | cons c wc =>
      simp only [List.map_cons, List.cons.injEq] at h
      have hs : ws.set i c = ws := by
        obtain ⟨hl, he⟩ := List.getElem?_eq_some_iff.mp h.1
        rw [← he, List.set_getElem_self]
      show gmix (ws.set i c) is wc = ws
      rw [hs]
      exact gmix_id is ws wc h.2
def rm_X3_heapOf : Room := { frames := 6, cells := 1, slots := 6, locals := 90 }
theorem h_X3_heapOf_3 : ∀ w ∈ wsX30, w ∈ wsX3_heapOf := by decide +kernel
set_option maxHeartbeats 4000000 in
theorem c_X3_heapOf (l : Launch) (hlt : l.stackTraces = false) (dC : Nat → ClassId) (dI : Nat → Nat → Nat) (cI cJ cH : ClassId) (a_p a_heaps_p im_p ip_p rd_p : Nat) (hh : Nat → Option Nat) (sp h0 h1 : Nat) (x1 : Int32) (e0 : hh 0 = some h0) (e1 : hh 1 = some h1) : ∀ sz : Nat, vx_Met l yX3_heapOf wsX3_heapOf rm_X3_heapOf (gPreX [.ref a_p, .int x1] (dC, dI) vwCl (gT cI cJ cH) (wHI cH a_p a_heaps_p im_p ip_p rd_p hh sp) sz) (va_Qr (fun _ : Unit => inR x1 2) (fun (_ : Unit) (ra : Nat) (t : State) => ((x1 = 0 → ra = h0) ∧ (x1 = 1 → ra = h1)) ∧ gB (dC, dI) vwCl (gT cI cJ cH) (fun _ : Unit => wHI cH a_p a_heaps_p im_p ip_p rd_p hh sp) (va_A (wHI cH a_p a_heaps_p im_p ip_p rd_p hh sp) sz) () t) (va_A (wHI cH a_p a_heaps_p im_p ip_p rd_p hh sp) sz)) (vx_X (fun _ : Unit => x1 < 0 ∨ 2 ≤ x1) (gBX (dC, dI) vwCl (gT cI cJ cH) (fun _ : Unit => wHI cH a_p a_heaps_p im_p ip_p rd_p hh sp) (exn 1) (va_A (wHI cH a_p a_heaps_p im_p ip_p rd_p hh sp) sz)) (va_A (wHI cH a_p a_heaps_p im_p ip_p rd_p hh sp) sz)) 1 6 (va_A (wHI cH a_p a_heaps_p im_p ip_p rd_p hh sp) sz) := by
  refine g_metX (fun A => va_Qr (fun _ : Unit => inR x1 2) (fun (_ : Unit) (ra : Nat) (t : State) => ((x1 = 0 → ra = h0) ∧ (x1 = 1 → ra = h1)) ∧ gB (dC, dI) vwCl (gT cI cJ cH) (fun _ : Unit => wHI cH a_p a_heaps_p im_p ip_p rd_p hh sp) A () t) A) (fun A => vx_X (fun _ : Unit => x1 < 0 ∨ 2 ≤ x1) (gBX (dC, dI) vwCl (gT cI cJ cH) (fun _ : Unit => wHI cH a_p a_heaps_p im_p ip_p rd_p hh sp) (exn 1) A) A) (by decide) rfl (Nat.le_of_ble_eq_true rfl) ?_
  intro p e s m args below meth c A Q F hlocks hr hname hN hX hZ hne hQ
  subst hQ
  refine g_lvE (lv' := [(0, .ref a_p), (1, .int x1)]) rfl ?_
  refine g_iload_n F dX3_heapOf_0 rfl 1 rfl ?_
  refine g_if_lt (tgt := 9) F dX3_heapOf_1 (by decide) (fun c1 => ?_) (fun c1 => ?_)
  · exact g_throw (cls := "java/lang/IndexOutOfBoundsException") (names := ["java/lang/RuntimeException", "java/lang/Exception"]) F rfl hlt hlocks hne hX hZ (by decide +kernel) (by decide +kernel) (by decide +kernel) (by decide +kernel) (by decide +kernel) (by decide +kernel) (by decide +kernel) dX3_heapOf_9 dX3_heapOf_12 dX3_heapOf_13 dX3_heapOf_16 (Nat.le_of_ble_eq_true rfl) (Nat.le_of_ble_eq_true rfl) (Nat.le_of_ble_eq_true rfl) (Nat.le_of_ble_eq_true rfl) (Nat.le_of_ble_eq_true rfl) (Nat.le_of_ble_eq_true rfl) rfl () rfl (Or.inl c1)
  · refine g_iload_n F dX3_heapOf_4 rfl 1 rfl ?_
    refine g_iconst (v := 2) F dX3_heapOf_5 rfl ?_
    refine g_icmp_lt (tgt := 17) F dX3_heapOf_6 (by decide) (fun c2 => ?_) (fun c2 => ?_)
    · have hi : inR x1 2 := in2 c1 c2
      refine g_aload_n F dX3_heapOf_17 rfl 0 rfl ?_
      refine g_get F h_X3_heapOf_3 0 rfl rfl 0 (by decide) (by decide +kernel) rfl dX3_heapOf_18 ?_
      refine g_iload_n F dX3_heapOf_21 rfl 1 rfl ?_
      rcases in01 hi with rfl | rfl
      · refine g_aldq (v := .ref h0) F 1 2 rfl rfl hi (by show va_rf (hh 0) = _; rw [e0]; rfl) dX3_heapOf_22 ?_
        exact g_aretX F hlocks hr (Nat.le_of_ble_eq_true rfl) (Nat.le_of_ble_eq_true rfl) () hi (fun t hP hK hD => ⟨⟨fun _ => rfl, fun h => absurd h (by decide)⟩, hP, hK, hD⟩) dX3_heapOf_23 rfl
      · refine g_aldq (v := .ref h1) F 1 2 rfl rfl hi (by show va_rf (hh 1) = _; rw [e1]; rfl) dX3_heapOf_22 ?_
        exact g_aretX F hlocks hr (Nat.le_of_ble_eq_true rfl) (Nat.le_of_ble_eq_true rfl) () hi (fun t hP hK hD => ⟨⟨fun h => absurd h (by decide), fun _ => rfl⟩, hP, hK, hD⟩) dX3_heapOf_23 rfl
    · exact g_throw (cls := "java/lang/IndexOutOfBoundsException") (names := ["java/lang/RuntimeException", "java/lang/Exception"]) F rfl hlt hlocks hne hX hZ (by decide +kernel) (by decide +kernel) (by decide +kernel) (by decide +kernel) (by decide +kernel) (by decide +kernel) (by decide +kernel) dX3_heapOf_9 dX3_heapOf_12 dX3_heapOf_13 dX3_heapOf_16 (Nat.le_of_ble_eq_true rfl) (Nat.le_of_ble_eq_true rfl) (Nat.le_of_ble_eq_true rfl) (Nat.le_of_ble_eq_true rfl) (Nat.le_of_ble_eq_true rfl) (Nat.le_of_ble_eq_true rfl) rfl () rfl (Or.inr (Int32.not_lt.mp c2))
set_option maxHeartbeats 4000000 in
theorem g_heapOf {p : Program} {l : Launch} {e : Env} {R : Room} {s : State} {m : MethodId} {args : Array Value} {below : List Frame} {meth : Method} {c : Code} {cells slots : Nat} {Q : State → Prop} {dC : Nat → ClassId} {dI : Nat → Nat → Nat} {cI cJ cH : ClassId} {A : Nat → Prop} {nL : Nat} {ws : va_W} {lv : List (Nat × Value)} {pc : Nat} {rest : List Value} {cc : ByteArray} {Ts : List Cond} {own : String} (F : gF p m c cc nL s args Ts own (dC, dI) vwCl (gT cI cJ cH) A) (hlt : l.stackTraces = false) {mc ms index : Nat} {S : Type} {ex : String} {px : S → Prop} {wf : S → va_W} {Qc : Array Value → State → Outcome → State → Prop} {a_p a_heaps_p im_p ip_p rd_p sp h0 h1 : Nat} {hh : Nat → Option Nat} {x1 : Int32} (e0 : hh 0 = some h0) (e1 : hh 1 = some h1)
    (hG : GoodIn Ts wsX3_heapOf) (hini : Cond.initialized yX3_heapOf.cls ∈ Ts) (hlk : Cond.methodLink own index yX3_heapOf ∈ Ts) (hin : Cond.instanceMethod yX3_heapOf ∈ Ts) (hsel : Cond.selects RX3 yX3_heapOf yX3_heapOf ∈ Ts) (hR : rm_X3_heapOf.frames + 1 ≤ R.frames ∧ 8 + (2 + 11) + rm_X3_heapOf.locals ≤ R.locals) (hf : cells + 1 ≤ R.cells ∧ slots + 6 ≤ R.slots) (hN : ∀ w ∈ gN, va_Nw w s) (hX : ∀ w ∈ gXw, va_Nw w s) (hZ : gZ A s) (hne : ∀ x ∈ c.exceptionTable.toList, False) (hlocks : meth.locks = false)
    (is : List Nat) (hC : is.map (fun i => ws[i]?) = (wHI cH a_p a_heaps_p im_p ip_p rd_p hh sp).map some) (hnd : va_nd is = true) (hst : (rest.map fun v => v.category).sum ≤ 8) (hdg : decode cc pc = .ok (.invokevirtual index, 3)) {cells' slots' : Nat} (hcc : cells + 1 = cells') (hss : slots + 6 = slots') (hc : cells' ≤ mc) (hs : slots' ≤ ms)
    (hQ : Q = vx_MQ below Qc (vx_X px (gBX (dC, dI) vwCl (gT cI cJ cH) wf ex A) A) args s mc ms A) (kx : x1 < 0 ∨ 2 ≤ x1 → exn 1 = ex ∧ ∃ u2 : S, px u2 ∧ wf u2 = ws)
    (k0 : x1 = 0 → gW p l e R s m args below meth c cells' slots' Q (dC, dI) vwCl A nL ws lv (pc + 3) (.ref h0 :: rest))
    (k1 : x1 = 1 → gW p l e R s m args below meth c cells' slots' Q (dC, dI) vwCl A nL ws lv (pc + 3) (.ref h1 :: rest)) :
    gW p l e R s m args below meth c cells slots Q (dC, dI) vwCl A nL ws lv pc (.int x1 :: .ref a_p :: rest) := by
  subst hQ
  intro H locs ls hP hD hS hl
  subst hcc
  subst hss
  have hFc := va_free (wc := wHI cH a_p a_heaps_p im_p ip_p rd_p hh sp) hD hS F.2.2.2.2.2.2 is hC
  have hts := F.2.2.2.2.1
  have hPc := hP.sub is (gfm hC)
  refine vx_callr9 (vx_runV (As := [.int x1]) (rest := rest) (n := 1) (C := RX3) ⟨F.1, F.2.1, F.2.2.1, F.2.2.2.1, hts⟩ (c_X3_heapOf l hlt dC dI cI cJ cH a_p a_heaps_p im_p ip_p rd_p hh sp h0 h1 x1 e0 e1 H.size) ⟨callB_of 1 hts hG rfl rfl rfl (hts _ hini) (hts _ hlk) (by decide +kernel) hR, hts _ hin, hts _ hsel⟩ ⟨gPreX_blind, va_recv (ci := 3) (q0 := 0) F.2.2.2.2.2.1 hPc rfl rfl, gPreX_at F hN hX hZ hP hD hS is hC hnd⟩ rfl rfl hl.1 rfl (lv_room hst) hdg hf) hS (fun q _ h => hFc q h) hFc (fun q _ h => hFc q h) (fun E ce q9 u t H1 locs1 ht hvm hpo hB hz1 hk1 hS1 hce hcv hcl => ?_) (fun u ra t H1 locs1 ht hvm hpo hB hz1 hk1 hS1 => ?_)
  · obtain ⟨hE, hP1, hK1, hD1⟩ := hB
    rw [ht] at hP1
    have h1 := gmix_ok hP hD is hC hnd rfl hk1 hP1
    rw [gmix_id is ws _ hC] at h1
    obtain ⟨he, u2, hp2, hw2⟩ := kx hpo
    refine vx_out (fun x h => absurd (hne x h) id) hlocks hce hcv hcl (fun t2 ht2 hal2 => ⟨u2, hp2, ⟨hE.trans he, ?_, va_K.moved hal2 F.2.2.2.2.2.1, ?_⟩, hS1.F ht2⟩) hS1.2.2 hc hs
    · rw [ht2, hw2]; exact h1.1
    · rw [hw2]; exact h1.2
  · obtain ⟨⟨r0, r1⟩, hP1, hK1, hD1⟩ := hB
    rw [ht] at hP1
    have h2 := gmix_ok hP hD is hC hnd rfl hk1 hP1
    rw [gmix_id is ws _ hC] at h2
    rcases in01 hpo with hz | hz
    · rw [r0 hz]
      exact k0 hz H1 locs1 ls h2.1 h2.2 hS1 hl
    · rw [r1 hz]
      exact k1 hz H1 locs1 ls h2.1 h2.2 hS1 hl
