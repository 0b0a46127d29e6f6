set_option maxHeartbeats 4000000 in
set_option maxRecDepth 100000 in
theorem lc_0 {p : Program} {l : Launch} {e : Env} {st : State} {m : MethodId} {below : List Frame} {meth : Method} {c : Code} {cells slots bs L i : Nat} {xs : Nat → Int32} {x4 : Int32} {Q : State → Prop} {dC : Nat → ClassId} {dI : Nat → Nat → Nat} {cI cJ cH : ClassId} {A : Nat → Prop} {a : CA} {b : RA} {op : Nat} {s : CS} {r : RS} {oc : Nat → Int64} (hlt : l.stackTraces = false) (F : gF p m c code 7 st #[.ref bs] wsL_law RL (dC, dI) vwCl (gT cI cJ cH) A) (hN : ∀ w ∈ gN, va_Nw w st) (hXw : ∀ w ∈ gXw, va_Nw w st) (hZ : gZ A st) (hC0 : ∀ q ∈ gNc, va_Nc q.1 q.2 st) (hX : va_X bs L xs st st.heap) (hbl : bs < st.heap.size) (hbA : ¬ A bs) (hx4 : x4 = Int32.ofNat i) (hi : i + 5 ≤ L) (hL : L ≤ 2560) (hcl : cells + 4 ≤ room_1.cells) (hsl : slots + 24 ≤ room_1.slots) (o : CS × RS × (Nat → Int64)) (hf : sc_0 (xs (i + 1)) (xs (i + 2)) (xs (i + 3)) (xs (i + 4)) s r oc = some o) (k : ∀ a2 : CA, a2.1 = a.1 → gW p l e room_1 st m #[.ref bs] below meth c (cells + 4) (slots + 24) Q (dC, dI) vwCl A 7 (wCS cI cH a2 o.1 ++ wLo cJ op o.2.2 ++ wRS cI b o.2.1) [(4, .int x4), (3, .ref op), (2, .ref b.1), (1, .ref a.1), (0, .ref bs)] 787 []) : gW p l e room_1 st m #[.ref bs] below meth c cells slots Q (dC, dI) vwCl A 7 (wCS cI cH a s ++ wLo cJ op oc ++ wRS cI b r) [(4, .int x4), (3, .ref op), (2, .ref b.1), (1, .ref a.1), (0, .ref bs)] 120 [] := by
  unfold sc_0 at hf
  refine g_aload_n F dL_law_120 rfl 3 rfl ?_
  refine g_aload_n F dL_law_121 rfl 4 rfl ?_
  refine g_iload F dL_law_122 0 rfl ?_
  refine g_iconst (v := 1) F dL_law_124 rfl ?_
  refine g_iadd F dL_law_125 ?_
  refine g_sld (j := i + 1) F hX hbl hbA (by rw [hx4]; exact (Int32.ofNat_add i 1).symm) (by omega) (by omega) dL_law_126 ?_
  refine g_aload_n F dL_law_127 rfl 4 rfl ?_
  refine g_iload F dL_law_128 0 rfl ?_
  refine g_iconst (v := 2) F dL_law_130 rfl ?_
  refine g_iadd F dL_law_131 ?_
  refine g_sld (j := i + 2) F hX hbl hbA (by rw [hx4]; exact (Int32.ofNat_add i 2).symm) (by omega) (by omega) dL_law_132 ?_
  refine g_aload_n F dL_law_133 rfl 4 rfl ?_
  refine g_iload F dL_law_134 0 rfl ?_
  refine g_iconst (v := 3) F dL_law_136 rfl ?_
  refine g_iadd F dL_law_137 ?_
  refine g_sld (j := i + 3) F hX hbl hbA (by rw [hx4]; exact (Int32.ofNat_add i 3).symm) (by omega) (by omega) dL_law_138 ?_
  refine g_aload_n F dL_law_139 rfl 1 rfl ?_
  obtain ⟨o1, ho1, hf⟩ := bnE hf
  refine g_callSWP (n := 5) (As := [.ref a.1, .int (xs (i + 1)), .int (xs (i + 2)), .int (xs (i + 3)), .ref op]) F (c_L_make l hlt dC dI cI cJ cH a s op oc (xs (i + 1)) (xs (i + 2)) (xs (i + 3)) o1 ho1) ggL_law_L_make (by decide +kernel) (by decide +kernel) (by decide +kernel) rfl rfl rfl (by decide +kernel) ⟨Nat.le_of_ble_eq_true rfl, Nat.le_of_ble_eq_true rfl⟩ ⟨by omega, by omega⟩ hN hXw hZ hC0 [] (wRS cI b r) rfl (fun _ => rfl) rfl (Nat.le_of_ble_eq_true rfl) rfl dL_law_140 (cells' := cells + 2) (slots' := slots + 12) (by omega) (by omega) (fun r0 u hp => ?_)
  obtain ⟨hp1, hp2⟩ := hp
  subst hp1
  subst hp2
  refine g_sw (sw := o1.2.2.2) (s := o1.2.1) (a := a) (show _ = wCSw cI cH a o1.2.2.2 o1.2.1 ++ wLo cJ op o1.2.2.1 ++ wRS cI b r from rfl) ?_
  refine g_istore F dL_law_143 (by decide) (lv' := [(5, .int o1.1), (4, .int x4), (3, .ref op), (2, .ref b.1), (1, .ref a.1), (0, .ref bs)]) rfl ?_
  refine g_aload_n F dL_law_145 rfl 3 rfl ?_
  refine g_aload_n F dL_law_146 rfl 5 rfl ?_
  refine g_iload F dL_law_147 1 rfl ?_
  refine g_iconst (v := 1) F dL_law_149 rfl ?_
  refine g_iadd F dL_law_150 ?_
  refine g_sld (j := i + 1) F hX hbl hbA (by rw [hx4]; exact (Int32.ofNat_add i 1).symm) (by omega) (by omega) dL_law_151 ?_
  refine g_aload_n F dL_law_152 rfl 5 rfl ?_
  refine g_iload F dL_law_153 1 rfl ?_
  refine g_iconst (v := 2) F dL_law_155 rfl ?_
  refine g_iadd F dL_law_156 ?_
  refine g_sld (j := i + 2) F hX hbl hbA (by rw [hx4]; exact (Int32.ofNat_add i 2).symm) (by omega) (by omega) dL_law_157 ?_
  refine g_aload_n F dL_law_158 rfl 5 rfl ?_
  refine g_iload F dL_law_159 1 rfl ?_
  refine g_iconst (v := 3) F dL_law_161 rfl ?_
  refine g_iadd F dL_law_162 ?_
  refine g_sld (j := i + 3) F hX hbl hbA (by rw [hx4]; exact (Int32.ofNat_add i 3).symm) (by omega) (by omega) dL_law_163 ?_
  obtain ⟨o2, ho2, hf⟩ := bnE hf
  unfold p4_make at ho2
  obtain ⟨uo2, huo2, ho2⟩ := bnE ho2
  cases ho2
  refine g_callPi (n := 3) (As := [.int (xs (i + 1)), .int (xs (i + 2)), .int (xs (i + 3))]) (C := RX4) F (c_X4_make l dC dI cI cJ cH b.1 b.2.1 b.2.2.1 b.2.2.2.1 b.2.2.2.2.1 b.2.2.2.2.2.1 b.2.2.2.2.2.2.1 b.2.2.2.2.2.2.2.1 b.2.2.2.2.2.2.2.2.1 b.2.2.2.2.2.2.2.2.2.1 b.2.2.2.2.2.2.2.2.2.2.1 b.2.2.2.2.2.2.2.2.2.2.2.1 b.2.2.2.2.2.2.2.2.2.2.2.2.1 b.2.2.2.2.2.2.2.2.2.2.2.2.2 r.1 r.2.1 r.2.2.1 r.2.2.2.1 r.2.2.2.2.1 r.2.2.2.2.2.1 r.2.2.2.2.2.2.1 r.2.2.2.2.2.2.2.1 r.2.2.2.2.2.2.2.2.1 r.2.2.2.2.2.2.2.2.2.1 r.2.2.2.2.2.2.2.2.2.2.1 r.2.2.2.2.2.2.2.2.2.2.2.1 r.2.2.2.2.2.2.2.2.2.2.2.2.1 r.2.2.2.2.2.2.2.2.2.2.2.2.2.1 r.2.2.2.2.2.2.2.2.2.2.2.2.2.2.1 r.2.2.2.2.2.2.2.2.2.2.2.2.2.2.2.1 r.2.2.2.2.2.2.2.2.2.2.2.2.2.2.2.2.1 r.2.2.2.2.2.2.2.2.2.2.2.2.2.2.2.2.2.1 r.2.2.2.2.2.2.2.2.2.2.2.2.2.2.2.2.2.2.1 r.2.2.2.2.2.2.2.2.2.2.2.2.2.2.2.2.2.2.2.1 r.2.2.2.2.2.2.2.2.2.2.2.2.2.2.2.2.2.2.2.2.1 r.2.2.2.2.2.2.2.2.2.2.2.2.2.2.2.2.2.2.2.2.2.1 r.2.2.2.2.2.2.2.2.2.2.2.2.2.2.2.2.2.2.2.2.2.2 (xs (i + 1)) (xs (i + 2)) (xs (i + 3)) uo2 huo2) ggL_law_X4_make rfl rfl rfl (by decide +kernel) (by decide +kernel) (by decide +kernel) (by decide +kernel) (by decide +kernel) ⟨Nat.le_of_ble_eq_true rfl, Nat.le_of_ble_eq_true rfl⟩ ⟨by omega, by omega⟩ hN 29 rfl rfl rfl (wCS cI cH (swA o1.2.2.2 a) (swS o1.2.2.2 o1.2.1) ++ wLo cJ op o1.2.2.1) [] rfl (fun _ => rfl) rfl (Nat.le_of_ble_eq_true rfl) rfl dL_law_164 (cells' := cells + 2) (slots' := slots + 12) rfl rfl (fun r0 u hp => ?_)
  obtain ⟨hp1, hp2⟩ := hp
  subst hp1
  subst hp2
  refine g_ws (ws' := wCS cI cH (swA o1.2.2.2 a) (swS o1.2.2.2 o1.2.1) ++ wLo cJ op o1.2.2.1 ++ wRS cI b (uo2.2.1, r.2.1, uo2.2.2.1, uo2.2.2.2, r.2.2.2.2.1, r.2.2.2.2.2.1, r.2.2.2.2.2.2.1, r.2.2.2.2.2.2.2.1, r.2.2.2.2.2.2.2.2.1, r.2.2.2.2.2.2.2.2.2.1, r.2.2.2.2.2.2.2.2.2.2.1, r.2.2.2.2.2.2.2.2.2.2.2.1, r.2.2.2.2.2.2.2.2.2.2.2.2.1, r.2.2.2.2.2.2.2.2.2.2.2.2.2.1, r.2.2.2.2.2.2.2.2.2.2.2.2.2.2.1, r.2.2.2.2.2.2.2.2.2.2.2.2.2.2.2.1, r.2.2.2.2.2.2.2.2.2.2.2.2.2.2.2.2.1, r.2.2.2.2.2.2.2.2.2.2.2.2.2.2.2.2.2.1, r.2.2.2.2.2.2.2.2.2.2.2.2.2.2.2.2.2.2.1, r.2.2.2.2.2.2.2.2.2.2.2.2.2.2.2.2.2.2.2.1, r.2.2.2.2.2.2.2.2.2.2.2.2.2.2.2.2.2.2.2.2.1, r.2.2.2.2.2.2.2.2.2.2.2.2.2.2.2.2.2.2.2.2.2.1, r.2.2.2.2.2.2.2.2.2.2.2.2.2.2.2.2.2.2.2.2.2.2)) rfl ?_
  refine g_istore F dL_law_167 (by decide) (lv' := [(6, .int uo2.1), (5, .int o1.1), (4, .int x4), (3, .ref op), (2, .ref b.1), (1, .ref a.1), (0, .ref bs)]) rfl ?_
  refine g_goto (tgt := 787) F dL_law_169 rfl ?_
  cases hf
  refine g_lv [2, 3, 4, 5, 6] rfl ?_
  refine g_widen (k := cells + 4) (n := slots + 24) (by omega) (by omega) ?_
  exact k _ (swA_1 _ _)
set_option maxHeartbeats 4000000 in
set_option maxRecDepth 100000 in
theorem lc_1 {p : Program} {l : Launch} {e : Env} {st : State} {m : MethodId} {below : List Frame} {meth : Method} {c : Code} {cells slots bs L i : Nat} {xs : Nat → Int32} {x4 : Int32} {Q : State → Prop} {dC : Nat → ClassId} {dI : Nat → Nat → Nat} {cI cJ cH : ClassId} {A : Nat → Prop} {a : CA} {b : RA} {op : Nat} {s : CS} {r : RS} {oc : Nat → Int64} (hlt : l.stackTraces = false) (F : gF p m c code 7 st #[.ref bs] wsL_law RL (dC, dI) vwCl (gT cI cJ cH) A) (hN : ∀ w ∈ gN, va_Nw w st) (hXw : ∀ w ∈ gXw, va_Nw w st) (hZ : gZ A st) (hC0 : ∀ q ∈ gNc, va_Nc q.1 q.2 st) (hX : va_X bs L xs st st.heap) (hbl : bs < st.heap.size) (hbA : ¬ A bs) (hx4 : x4 = Int32.ofNat i) (hi : i + 5 ≤ L) (hL : L ≤ 2560) (hcl : cells + 4 ≤ room_1.cells) (hsl : slots + 24 ≤ room_1.slots) (o : CS × RS × (Nat → Int64)) (hf : sc_1 (xs (i + 1)) (xs (i + 2)) (xs (i + 3)) (xs (i + 4)) s r oc = some o) (k : ∀ a2 : CA, a2.1 = a.1 → gW p l e room_1 st m #[.ref bs] below meth c (cells + 4) (slots + 24) Q (dC, dI) vwCl A 7 (wCS cI cH a2 o.1 ++ wLo cJ op o.2.2 ++ wRS cI b o.2.1) [(4, .int x4), (3, .ref op), (2, .ref b.1), (1, .ref a.1), (0, .ref bs)] 787 []) : gW p l e room_1 st m #[.ref bs] below meth c cells slots Q (dC, dI) vwCl A 7 (wCS cI cH a s ++ wLo cJ op oc ++ wRS cI b r) [(4, .int x4), (3, .ref op), (2, .ref b.1), (1, .ref a.1), (0, .ref bs)] 172 [] := by
  unfold sc_1 at hf
  refine g_aload_n F dL_law_172 rfl 3 rfl ?_
  refine g_aload_n F dL_law_173 rfl 4 rfl ?_
  refine g_iload F dL_law_174 0 rfl ?_
  refine g_iconst (v := 1) F dL_law_176 rfl ?_
  refine g_iadd F dL_law_177 ?_
  refine g_sld (j := i + 1) F hX hbl hbA (by rw [hx4]; exact (Int32.ofNat_add i 1).symm) (by omega) (by omega) dL_law_178 ?_
  refine g_aload_n F dL_law_179 rfl 4 rfl ?_
  refine g_iload F dL_law_180 0 rfl ?_
  refine g_iconst (v := 2) F dL_law_182 rfl ?_
  refine g_iadd F dL_law_183 ?_
  refine g_sld (j := i + 2) F hX hbl hbA (by rw [hx4]; exact (Int32.ofNat_add i 2).symm) (by omega) (by omega) dL_law_184 ?_
  refine g_aload_n F dL_law_185 rfl 4 rfl ?_
  refine g_iload F dL_law_186 0 rfl ?_
  refine g_iconst (v := 3) F dL_law_188 rfl ?_
  refine g_iadd F dL_law_189 ?_
  refine g_sld (j := i + 3) F hX hbl hbA (by rw [hx4]; exact (Int32.ofNat_add i 3).symm) (by omega) (by omega) dL_law_190 ?_
  refine g_aload_n F dL_law_191 rfl 4 rfl ?_
  refine g_iload F dL_law_192 0 rfl ?_
  refine g_iconst (v := 4) F dL_law_194 rfl ?_
  refine g_iadd F dL_law_195 ?_
  refine g_sld (j := i + 4) F hX hbl hbA (by rw [hx4]; exact (Int32.ofNat_add i 4).symm) (by omega) (by omega) dL_law_196 ?_
  refine g_aload_n F dL_law_197 rfl 1 rfl ?_
  obtain ⟨o1, ho1, hf⟩ := bnE hf
  refine g_callSWP (n := 6) (As := [.ref a.1, .int (xs (i + 1)), .int (xs (i + 2)), .int (xs (i + 3)), .int (xs (i + 4)), .ref op]) F (c_L_set l hlt dC dI cI cJ cH a s op oc (xs (i + 1)) (xs (i + 2)) (xs (i + 3)) (xs (i + 4)) o1 ho1) ggL_law_L_set (by decide +kernel) (by decide +kernel) (by decide +kernel) rfl rfl rfl (by decide +kernel) ⟨Nat.le_of_ble_eq_true rfl, Nat.le_of_ble_eq_true rfl⟩ ⟨by omega, by omega⟩ hN hXw hZ hC0 [] (wRS cI b r) rfl (fun _ => rfl) rfl (Nat.le_of_ble_eq_true rfl) rfl dL_law_198 (cells' := cells + 2) (slots' := slots + 12) (by omega) (by omega) (fun r0 u hp => ?_)
  obtain ⟨hp1, hp2⟩ := hp
  subst hp1
  subst hp2
  refine g_sw (sw := o1.2.2.2) (s := o1.2.1) (a := a) (show _ = wCSw cI cH a o1.2.2.2 o1.2.1 ++ wLo cJ op o1.2.2.1 ++ wRS cI b r from rfl) ?_
  refine g_istore F dL_law_201 (by decide) (lv' := [(5, .int o1.1), (4, .int x4), (3, .ref op), (2, .ref b.1), (1, .ref a.1), (0, .ref bs)]) rfl ?_
  refine g_aload_n F dL_law_203 rfl 3 rfl ?_
  refine g_aload_n F dL_law_204 rfl 5 rfl ?_
  refine g_iload F dL_law_205 1 rfl ?_
  refine g_iconst (v := 1) F dL_law_207 rfl ?_
  refine g_iadd F dL_law_208 ?_
  refine g_sld (j := i + 1) F hX hbl hbA (by rw [hx4]; exact (Int32.ofNat_add i 1).symm) (by omega) (by omega) dL_law_209 ?_
  refine g_aload_n F dL_law_210 rfl 5 rfl ?_
  refine g_iload F dL_law_211 1 rfl ?_
  refine g_iconst (v := 2) F dL_law_213 rfl ?_
  refine g_iadd F dL_law_214 ?_
  refine g_sld (j := i + 2) F hX hbl hbA (by rw [hx4]; exact (Int32.ofNat_add i 2).symm) (by omega) (by omega) dL_law_215 ?_
  refine g_aload_n F dL_law_216 rfl 5 rfl ?_
  refine g_iload F dL_law_217 1 rfl ?_
  refine g_iconst (v := 3) F dL_law_219 rfl ?_
  refine g_iadd F dL_law_220 ?_
  refine g_sld (j := i + 3) F hX hbl hbA (by rw [hx4]; exact (Int32.ofNat_add i 3).symm) (by omega) (by omega) dL_law_221 ?_
  refine g_aload_n F dL_law_222 rfl 5 rfl ?_
  refine g_iload F dL_law_223 1 rfl ?_
  refine g_iconst (v := 4) F dL_law_225 rfl ?_
  refine g_iadd F dL_law_226 ?_
  refine g_sld (j := i + 4) F hX hbl hbA (by rw [hx4]; exact (Int32.ofNat_add i 4).symm) (by omega) (by omega) dL_law_227 ?_
  obtain ⟨o2, ho2, hf⟩ := bnE hf
  unfold p4_set at ho2
  obtain ⟨uo2, huo2, ho2⟩ := bnE ho2
  cases ho2
  refine g_callPi (n := 4) (As := [.int (xs (i + 1)), .int (xs (i + 2)), .int (xs (i + 3)), .int (xs (i + 4))]) (C := RX4) F (c_X4_set l dC dI cI cJ cH b.1 b.2.1 b.2.2.1 b.2.2.2.1 b.2.2.2.2.1 b.2.2.2.2.2.1 b.2.2.2.2.2.2.1 b.2.2.2.2.2.2.2.1 b.2.2.2.2.2.2.2.2.1 b.2.2.2.2.2.2.2.2.2.1 b.2.2.2.2.2.2.2.2.2.2.1 b.2.2.2.2.2.2.2.2.2.2.2.1 b.2.2.2.2.2.2.2.2.2.2.2.2.1 b.2.2.2.2.2.2.2.2.2.2.2.2.2 r.1 r.2.1 r.2.2.1 r.2.2.2.1 r.2.2.2.2.1 r.2.2.2.2.2.1 r.2.2.2.2.2.2.1 r.2.2.2.2.2.2.2.1 r.2.2.2.2.2.2.2.2.1 r.2.2.2.2.2.2.2.2.2.1 r.2.2.2.2.2.2.2.2.2.2.1 r.2.2.2.2.2.2.2.2.2.2.2.1 r.2.2.2.2.2.2.2.2.2.2.2.2.1 r.2.2.2.2.2.2.2.2.2.2.2.2.2.1 r.2.2.2.2.2.2.2.2.2.2.2.2.2.2.1 r.2.2.2.2.2.2.2.2.2.2.2.2.2.2.2.1 r.2.2.2.2.2.2.2.2.2.2.2.2.2.2.2.2.1 r.2.2.2.2.2.2.2.2.2.2.2.2.2.2.2.2.2.1 r.2.2.2.2.2.2.2.2.2.2.2.2.2.2.2.2.2.2.1 r.2.2.2.2.2.2.2.2.2.2.2.2.2.2.2.2.2.2.2.1 r.2.2.2.2.2.2.2.2.2.2.2.2.2.2.2.2.2.2.2.2.1 r.2.2.2.2.2.2.2.2.2.2.2.2.2.2.2.2.2.2.2.2.2.1 r.2.2.2.2.2.2.2.2.2.2.2.2.2.2.2.2.2.2.2.2.2.2 (xs (i + 1)) (xs (i + 2)) (xs (i + 3)) (xs (i + 4)) uo2 huo2) ggL_law_X4_set rfl rfl rfl (by decide +kernel) (by decide +kernel) (by decide +kernel) (by decide +kernel) (by decide +kernel) ⟨Nat.le_of_ble_eq_true rfl, Nat.le_of_ble_eq_true rfl⟩ ⟨by omega, by omega⟩ hN 29 rfl rfl rfl (wCS cI cH (swA o1.2.2.2 a) (swS o1.2.2.2 o1.2.1) ++ wLo cJ op o1.2.2.1) [] rfl (fun _ => rfl) rfl (Nat.le_of_ble_eq_true rfl) rfl dL_law_228 (cells' := cells + 2) (slots' := slots + 12) rfl rfl (fun r0 u hp => ?_)
  obtain ⟨hp1, hp2⟩ := hp
  subst hp1
  subst hp2
  refine g_ws (ws' := wCS cI cH (swA o1.2.2.2 a) (swS o1.2.2.2 o1.2.1) ++ wLo cJ op o1.2.2.1 ++ wRS cI b (uo2.2.1, r.2.1, r.2.2.1, uo2.2.2, r.2.2.2.2.1, r.2.2.2.2.2.1, r.2.2.2.2.2.2.1, r.2.2.2.2.2.2.2.1, r.2.2.2.2.2.2.2.2.1, r.2.2.2.2.2.2.2.2.2.1, r.2.2.2.2.2.2.2.2.2.2.1, r.2.2.2.2.2.2.2.2.2.2.2.1, r.2.2.2.2.2.2.2.2.2.2.2.2.1, r.2.2.2.2.2.2.2.2.2.2.2.2.2.1, r.2.2.2.2.2.2.2.2.2.2.2.2.2.2.1, r.2.2.2.2.2.2.2.2.2.2.2.2.2.2.2.1, r.2.2.2.2.2.2.2.2.2.2.2.2.2.2.2.2.1, r.2.2.2.2.2.2.2.2.2.2.2.2.2.2.2.2.2.1, r.2.2.2.2.2.2.2.2.2.2.2.2.2.2.2.2.2.2.1, r.2.2.2.2.2.2.2.2.2.2.2.2.2.2.2.2.2.2.2.1, r.2.2.2.2.2.2.2.2.2.2.2.2.2.2.2.2.2.2.2.2.1, r.2.2.2.2.2.2.2.2.2.2.2.2.2.2.2.2.2.2.2.2.2.1, r.2.2.2.2.2.2.2.2.2.2.2.2.2.2.2.2.2.2.2.2.2.2)) rfl ?_
  refine g_istore F dL_law_231 (by decide) (lv' := [(6, .int uo2.1), (5, .int o1.1), (4, .int x4), (3, .ref op), (2, .ref b.1), (1, .ref a.1), (0, .ref bs)]) rfl ?_
  refine g_goto (tgt := 787) F dL_law_233 rfl ?_
  cases hf
  refine g_lv [2, 3, 4, 5, 6] rfl ?_
  refine g_widen (k := cells + 4) (n := slots + 24) (by omega) (by omega) ?_
  exact k _ (swA_1 _ _)
set_option maxHeartbeats 4000000 in
set_option maxRecDepth 100000 in
theorem lc_2 {p : Program} {l : Launch} {e : Env} {st : State} {m : MethodId} {below : List Frame} {meth : Method} {c : Code} {cells slots bs L i : Nat} {xs : Nat → Int32} {x4 : Int32} {Q : State → Prop} {dC : Nat → ClassId} {dI : Nat → Nat → Nat} {cI cJ cH : ClassId} {A : Nat → Prop} {a : CA} {b : RA} {op : Nat} {s : CS} {r : RS} {oc : Nat → Int64} (hlt : l.stackTraces = false) (F : gF p m c code 7 st #[.ref bs] wsL_law RL (dC, dI) vwCl (gT cI cJ cH) A) (hN : ∀ w ∈ gN, va_Nw w st) (hXw : ∀ w ∈ gXw, va_Nw w st) (hZ : gZ A st) (hC0 : ∀ q ∈ gNc, va_Nc q.1 q.2 st) (hX : va_X bs L xs st st.heap) (hbl : bs < st.heap.size) (hbA : ¬ A bs) (hx4 : x4 = Int32.ofNat i) (hi : i + 5 ≤ L) (hL : L ≤ 2560) (hcl : cells + 4 ≤ room_1.cells) (hsl : slots + 24 ≤ room_1.slots) (o : CS × RS × (Nat → Int64)) (hf : sc_2 (xs (i + 1)) (xs (i + 2)) (xs (i + 3)) (xs (i + 4)) s r oc = some o) (k : ∀ a2 : CA, a2.1 = a.1 → gW p l e room_1 st m #[.ref bs] below meth c (cells + 4) (slots + 24) Q (dC, dI) vwCl A 7 (wCS cI cH a2 o.1 ++ wLo cJ op o.2.2 ++ wRS cI b o.2.1) [(4, .int x4), (3, .ref op), (2, .ref b.1), (1, .ref a.1), (0, .ref bs)] 787 []) : gW p l e room_1 st m #[.ref bs] below meth c cells slots Q (dC, dI) vwCl A 7 (wCS cI cH a s ++ wLo cJ op oc ++ wRS cI b r) [(4, .int x4), (3, .ref op), (2, .ref b.1), (1, .ref a.1), (0, .ref bs)] 236 [] := by
  unfold sc_2 at hf
  refine g_aload_n F dL_law_236 rfl 3 rfl ?_
  refine g_aload_n F dL_law_237 rfl 4 rfl ?_
  refine g_iload F dL_law_238 0 rfl ?_
  refine g_iconst (v := 1) F dL_law_240 rfl ?_
  refine g_iadd F dL_law_241 ?_
  refine g_sld (j := i + 1) F hX hbl hbA (by rw [hx4]; exact (Int32.ofNat_add i 1).symm) (by omega) (by omega) dL_law_242 ?_
  refine g_aload_n F dL_law_243 rfl 4 rfl ?_
  refine g_iload F dL_law_244 0 rfl ?_
  refine g_iconst (v := 2) F dL_law_246 rfl ?_
  refine g_iadd F dL_law_247 ?_
  refine g_sld (j := i + 2) F hX hbl hbA (by rw [hx4]; exact (Int32.ofNat_add i 2).symm) (by omega) (by omega) dL_law_248 ?_
  refine g_aload_n F dL_law_249 rfl 4 rfl ?_
  refine g_iload F dL_law_250 0 rfl ?_
  refine g_iconst (v := 3) F dL_law_252 rfl ?_
  refine g_iadd F dL_law_253 ?_
  refine g_sld (j := i + 3) F hX hbl hbA (by rw [hx4]; exact (Int32.ofNat_add i 3).symm) (by omega) (by omega) dL_law_254 ?_
  refine g_aload_n F dL_law_255 rfl 1 rfl ?_
  obtain ⟨o1, ho1, hf⟩ := bnE hf
  refine g_callSWP (n := 5) (As := [.ref a.1, .int (xs (i + 1)), .int (xs (i + 2)), .int (xs (i + 3)), .ref op]) F (c_L_at l hlt dC dI cI cJ cH a s op oc (xs (i + 1)) (xs (i + 2)) (xs (i + 3)) o1 ho1) ggL_law_L_at (by decide +kernel) (by decide +kernel) (by decide +kernel) rfl rfl rfl (by decide +kernel) ⟨Nat.le_of_ble_eq_true rfl, Nat.le_of_ble_eq_true rfl⟩ ⟨by omega, by omega⟩ hN hXw hZ hC0 [] (wRS cI b r) rfl (fun _ => rfl) rfl (Nat.le_of_ble_eq_true rfl) rfl dL_law_256 (cells' := cells + 2) (slots' := slots + 12) (by omega) (by omega) (fun r0 u hp => ?_)
  obtain ⟨hp1, hp2⟩ := hp
  subst hp1
  subst hp2
  refine g_sw (sw := o1.2.2.2) (s := o1.2.1) (a := a) (show _ = wCSw cI cH a o1.2.2.2 o1.2.1 ++ wLo cJ op o1.2.2.1 ++ wRS cI b r from rfl) ?_
  refine g_istore F dL_law_259 (by decide) (lv' := [(5, .int o1.1), (4, .int x4), (3, .ref op), (2, .ref b.1), (1, .ref a.1), (0, .ref bs)]) rfl ?_
  refine g_aload_n F dL_law_261 rfl 3 rfl ?_
  refine g_aload_n F dL_law_262 rfl 5 rfl ?_
  refine g_iload F dL_law_263 1 rfl ?_
  refine g_iconst (v := 1) F dL_law_265 rfl ?_
  refine g_iadd F dL_law_266 ?_
  refine g_sld (j := i + 1) F hX hbl hbA (by rw [hx4]; exact (Int32.ofNat_add i 1).symm) (by omega) (by omega) dL_law_267 ?_
  refine g_aload_n F dL_law_268 rfl 5 rfl ?_
  refine g_iload F dL_law_269 1 rfl ?_
  refine g_iconst (v := 2) F dL_law_271 rfl ?_
  refine g_iadd F dL_law_272 ?_
  refine g_sld (j := i + 2) F hX hbl hbA (by rw [hx4]; exact (Int32.ofNat_add i 2).symm) (by omega) (by omega) dL_law_273 ?_
  refine g_aload_n F dL_law_274 rfl 5 rfl ?_
  refine g_iload F dL_law_275 1 rfl ?_
  refine g_iconst (v := 3) F dL_law_277 rfl ?_
  refine g_iadd F dL_law_278 ?_
  refine g_sld (j := i + 3) F hX hbl hbA (by rw [hx4]; exact (Int32.ofNat_add i 3).symm) (by omega) (by omega) dL_law_279 ?_
  obtain ⟨o2, ho2, hf⟩ := bnE hf
  unfold p4_at at ho2
  obtain ⟨uo2, huo2, ho2⟩ := bnE ho2
  cases ho2
  refine g_callPi (n := 3) (As := [.int (xs (i + 1)), .int (xs (i + 2)), .int (xs (i + 3))]) (C := RX4) F (c_X4_at l dC dI cI cJ cH b.1 b.2.1 b.2.2.1 b.2.2.2.1 b.2.2.2.2.1 b.2.2.2.2.2.1 b.2.2.2.2.2.2.1 b.2.2.2.2.2.2.2.1 b.2.2.2.2.2.2.2.2.1 b.2.2.2.2.2.2.2.2.2.1 b.2.2.2.2.2.2.2.2.2.2.1 b.2.2.2.2.2.2.2.2.2.2.2.1 b.2.2.2.2.2.2.2.2.2.2.2.2.1 b.2.2.2.2.2.2.2.2.2.2.2.2.2 r.1 r.2.1 r.2.2.1 r.2.2.2.1 r.2.2.2.2.1 r.2.2.2.2.2.1 r.2.2.2.2.2.2.1 r.2.2.2.2.2.2.2.1 r.2.2.2.2.2.2.2.2.1 r.2.2.2.2.2.2.2.2.2.1 r.2.2.2.2.2.2.2.2.2.2.1 r.2.2.2.2.2.2.2.2.2.2.2.1 r.2.2.2.2.2.2.2.2.2.2.2.2.1 r.2.2.2.2.2.2.2.2.2.2.2.2.2.1 r.2.2.2.2.2.2.2.2.2.2.2.2.2.2.1 r.2.2.2.2.2.2.2.2.2.2.2.2.2.2.2.1 r.2.2.2.2.2.2.2.2.2.2.2.2.2.2.2.2.1 r.2.2.2.2.2.2.2.2.2.2.2.2.2.2.2.2.2.1 r.2.2.2.2.2.2.2.2.2.2.2.2.2.2.2.2.2.2.1 r.2.2.2.2.2.2.2.2.2.2.2.2.2.2.2.2.2.2.2.1 r.2.2.2.2.2.2.2.2.2.2.2.2.2.2.2.2.2.2.2.2.1 r.2.2.2.2.2.2.2.2.2.2.2.2.2.2.2.2.2.2.2.2.2.1 r.2.2.2.2.2.2.2.2.2.2.2.2.2.2.2.2.2.2.2.2.2.2 (xs (i + 1)) (xs (i + 2)) (xs (i + 3)) uo2 huo2) ggL_law_X4_at rfl rfl rfl (by decide +kernel) (by decide +kernel) (by decide +kernel) (by decide +kernel) (by decide +kernel) ⟨Nat.le_of_ble_eq_true rfl, Nat.le_of_ble_eq_true rfl⟩ ⟨by omega, by omega⟩ hN 29 rfl rfl rfl (wCS cI cH (swA o1.2.2.2 a) (swS o1.2.2.2 o1.2.1) ++ wLo cJ op o1.2.2.1) [] rfl (fun _ => rfl) rfl (Nat.le_of_ble_eq_true rfl) rfl dL_law_280 (cells' := cells + 2) (slots' := slots + 12) rfl rfl (fun r0 u hp => ?_)
  obtain ⟨hp1, hp2⟩ := hp
  subst hp1
  subst hp2
  refine g_ws (ws' := wCS cI cH (swA o1.2.2.2 a) (swS o1.2.2.2 o1.2.1) ++ wLo cJ op o1.2.2.1 ++ wRS cI b (uo2.2, r.2.1, r.2.2.1, r.2.2.2.1, r.2.2.2.2.1, r.2.2.2.2.2.1, r.2.2.2.2.2.2.1, r.2.2.2.2.2.2.2.1, r.2.2.2.2.2.2.2.2.1, r.2.2.2.2.2.2.2.2.2.1, r.2.2.2.2.2.2.2.2.2.2.1, r.2.2.2.2.2.2.2.2.2.2.2.1, r.2.2.2.2.2.2.2.2.2.2.2.2.1, r.2.2.2.2.2.2.2.2.2.2.2.2.2.1, r.2.2.2.2.2.2.2.2.2.2.2.2.2.2.1, r.2.2.2.2.2.2.2.2.2.2.2.2.2.2.2.1, r.2.2.2.2.2.2.2.2.2.2.2.2.2.2.2.2.1, r.2.2.2.2.2.2.2.2.2.2.2.2.2.2.2.2.2.1, r.2.2.2.2.2.2.2.2.2.2.2.2.2.2.2.2.2.2.1, r.2.2.2.2.2.2.2.2.2.2.2.2.2.2.2.2.2.2.2.1, r.2.2.2.2.2.2.2.2.2.2.2.2.2.2.2.2.2.2.2.2.1, r.2.2.2.2.2.2.2.2.2.2.2.2.2.2.2.2.2.2.2.2.2.1, r.2.2.2.2.2.2.2.2.2.2.2.2.2.2.2.2.2.2.2.2.2.2)) rfl ?_
  refine g_istore F dL_law_283 (by decide) (lv' := [(6, .int uo2.1), (5, .int o1.1), (4, .int x4), (3, .ref op), (2, .ref b.1), (1, .ref a.1), (0, .ref bs)]) rfl ?_
  refine g_goto (tgt := 787) F dL_law_285 rfl ?_
  cases hf
  refine g_lv [2, 3, 4, 5, 6] rfl ?_
  refine g_widen (k := cells + 4) (n := slots + 24) (by omega) (by omega) ?_
  exact k _ (swA_1 _ _)
