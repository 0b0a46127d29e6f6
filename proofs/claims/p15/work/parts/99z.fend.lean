set_option maxHeartbeats 4000000 in
theorem lw_walk0 (l : Launch) (hlt : l.stackTraces = false) (b : Addr) (xs : List Int32) (h50 : 50 ≤ xs.length) (hrun : sz_run (fun j => xs.getD j 0) 9 0 cs0 rs0 (fun _ => 0) = some ()) : MetFree l x (headSpec (Jvm.Cond.code x code maxLocals ret :: tables_1) room_1) (lw_P b xs) (fun _ _ _ _ _ => True) lw_Q0 := by
  refine MetFree.of_bodyS (code := code) (maxLocals := maxLocals) (ret := ret) (by decide) ?_ ?_
  · intro args s m h hn
    obtain ⟨meth, c, h1, h2, h3, h4, h5, h6, -, -⟩ := Cond.code_spec hn (atoms_spec (ws := Jvm.Cond.code x code maxLocals ret :: tables_1) h _ List.mem_cons_self)
    exact ⟨meth, c, h1, h2, h3, h4, h5, h6⟩
  · intro p e s m args below meth c s₁ B hml0 hP _
    obtain ⟨rfl, hx, hbd, hgv⟩ := hP
    obtain ⟨scr, harrAt, hlist, hof, hsmall⟩ := hx
    obtain ⟨hcb, hkn, -, -⟩ := State.arrayAt?_spec harrAt
    have hown : s.vm.findClass R_law = some m.cls := findClass_of_methodNamed B.named
    have hts0 : ∀ c ∈ (Jvm.Cond.code x code maxLocals ret :: tables_1), c.before #[Value.ref b] s = true := atoms_spec (ws := Jvm.Cond.code x code maxLocals ret :: tables_1) B.pre
    have hts : ∀ w ∈ lw_tbl, w.before #[Value.ref b] s = true := k2_hts_sels lw_privs (fun w hw => hts0 w (List.mem_cons_of_mem _ hw)) lw_privs_ok
    have hml : c.maxLocals = 7 := B.maxLocals_eq (hts0 _ List.mem_cons_self)
    have X₀ : Stand p l e room_1 s m #[Value.ref b] below meth c s₁ [] 0 0 := Stand.of_body B
    have hh0 : s₁.heap = s.heap := by rw [B.state]; rfl
    have hsz : scr.slots.size = xs.length := by rw [← Array.length_toList, hlist, List.length_map]
    have hval : ∀ j : Nat, j < xs.length → scr.slots[j]? = some (.int (xs.getD j 0)) := fun j hj => by
      rw [← Array.getElem?_toList, hlist]
      simp [hj]
    have hbl : b < s.heap.size := (Array.getElem?_eq_some_iff.mp hcb).1
    have hX : va_X b xs.length (fun j => xs.getD j 0) s s.heap := ⟨scr, hcb, hof, hkn, hsz, hval⟩
    have K : W p l e room_1 s m #[Value.ref b] below meth c s₁.heap [] 0 0 (lw_Z0 below #[Value.ref b] s) (entryFrame m ([Value.ref b] : List Value).toArray 7) := by
      rw [hh0]
      exact law_start0 l hlt hbd ⟨B.exec, B.bytes, B.returns, hml, hown, hts, hX, hbl, B.notSynchronized, hgv⟩ h50 hrun
    obtain ⟨t, a1, o, b1, b2, b3⟩ := K s₁ rfl X₀
    exact ⟨t, o, a1, b1, b2, b3⟩
def rf_about : State := start1.aboutOf #[.int 11, .int 72, .int 0, .int 0, .int 0, .int 11, .int 73, .int 0, .int 0, .int 0, .int 11, .int 1, .int 0, .int 0, .int 0, .int 11, .int 2, .int 0, .int 0, .int 0, .int 11, .int 2, .int 0, .int 0, .int 0, .int 11, .int 0, .int 0, .int 0, .int 0, .int 11, .int 0, .int 0, .int 0, .int 0, .int 11, .int 0, .int 0, .int 0, .int 0, .int 11, .int 223, .int 0, .int 0, .int 0, .int 13, .int 0, .int 8, .int 0, .int 0]
theorem rf_vm (c : Cond) (hc : c.onTables = true) (h : c.before start1.args0 start1.about = true) : c.before start1.args0 rf_about = true := by
  have e : c.before start1.args0 (rf_about.setVm start1.about.vm) = c.before start1.args0 (start1.about.setVm start1.about.vm) := Cond.onTables_vm _ c hc
  have e1 : rf_about.setVm start1.about.vm = rf_about := rfl
  have e2 : start1.about.setVm start1.about.vm = start1.about := rfl
  rw [e1, e2] at e
  rw [e]; exact h
set_option maxRecDepth 100000 in
theorem rf_tab : (Cond.code x code maxLocals ret :: tables_1).all (fun c => c.onTables || c.before start1.args0 rf_about) = true := by decide +kernel
theorem rf_words : ∀ c ∈ (Cond.code x code maxLocals ret :: tables_1), c.before start1.args0 rf_about = true :=
  fun c hc => (Bool.or_eq_true_iff.mp (List.all_eq_true.mp rf_tab c hc)).elim (fun h => rf_vm c h (start1.words c hc)) (fun h => h)
set_option maxRecDepth 16384 in
theorem rf_atStart : AtStart classFile x code maxLocals ret World_1 tables_1 room_1 Calls_1 rest_1 Pre_1 launch0 start1.p0 start1.e0 rf_about ⟨0, 0⟩ start1.args0 Lib.HandBits.below0 :=
  ⟨lists_1, trivial, launch0.admits_env _ _ _, launch0.least_env, fairChoices_fair.cas, fairChoices_fair.clock, rfl, by decide +kernel, by decide +kernel,
    (Spec.applies_iff rfl).mpr ⟨rfl, rfl, rfl, by decide +kernel, by decide +kernel, by decide +kernel, launch0.hasRoom_least _ room_1 (by decide +kernel) (by decide +kernel) (by decide +kernel) (by decide +kernel) (by decide +kernel) (by decide +kernel), atoms_intro rf_words⟩,
    trivial, (show rest_1_c.before start1.args0 rf_about = true by decide +kernel), (show (Cond.and given_1 narrow_1).before start1.args0 rf_about = true by decide +kernel)⟩
theorem rf_ints : rf_about.IntsAt 0 rf_xs := ⟨_, rfl, rfl, ⟨(fun k h => by have h' : (VmData.none : VmData) = .statics k := h; cases h'), _, rfl, _, rfl⟩, by decide⟩
/-- THE CLAIM IS FALSE: at the script rf_xs the law returns, and answers 0 -/
theorem rf_answers : ∃ (n : Nat), (∀ k, k < n → Within (stepsAlone start1.p0.tables start1.e0 k rf_about) Lib.HandBits.below0) ∧ (stepsAlone start1.p0.tables start1.e0 n rf_about).status = Status.running ∧ Ended (stepsAlone start1.p0.tables start1.e0 n rf_about) Lib.HandBits.below0 (.returned (some (.int 0))) := by
  obtain ⟨-, -, ha, -, hc, hk, hf, hfit, hheap, happ, hcalls, hrest, hpre⟩ := rf_atStart
  have hP : lw_P 0 rf_xs start1.args0 rf_about := ⟨rfl, rf_ints, by decide, hpre⟩
  obtain ⟨k, o, h1, h2, h3, rfl, -⟩ := lw_walk0 launch0 (by decide) 0 rf_xs (by decide) rf_run start1.p0 start1.e0 ha hc hk rf_about ⟨0, 0⟩ start1.args0 Lib.HandBits.below0 hf ((Spec.applies_iff_loose hf).mp happ).1 hP trivial
  exact ⟨k, h1, h2, h3⟩
theorem rf_false : ¬ Claimed_1_2 := by
  intro h
  obtain ⟨-, -, ha, -, hc, hk, hf, hfit, hheap, happ, hcalls, hrest, hpre⟩ := rf_atStart
  obtain ⟨n, g1, g2, g3⟩ := rf_answers
  obtain ⟨k, o, h1, h2, h3, hP, -⟩ := h launch0 rfl lists_1 trivial start1.p0 start1.e0 ha hc hk rf_about ⟨0, 0⟩ start1.args0 Lib.HandBits.below0 hf hfit hheap happ ⟨hcalls, hrest, hpre⟩
  obtain ⟨rfl, rfl⟩ := the_end_unique (f := fun k => stepsAlone start1.p0.tables start1.e0 k rf_about) g1 g3 h1 h3
  have hq : limb_1_2.after start1.args0 rf_about (.returned (some (.int 0))) (stepsAlone start1.p0.tables start1.e0 n rf_about) = true := hP
  rw [Cond.after_iff, show limb_1_2 = Cond.eq .result (.int 1) from rfl, Cond.eq_ints (x := 0) (y := 1) rfl rfl] at hq
  revert hq
  decide
theorem rf_all : ¬ (Claimed_1_1 ∧ Claimed_1_2) := fun h => rf_false h.2
