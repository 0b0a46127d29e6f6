/-! HeapImages$Reader.endAt(I)V -/
def rm_X2_endAt : Room := { frames := 0, cells := 0, slots := 0, locals := 0 }
theorem h_X2_endAt_2 : ∀ w ∈ wsX20, w ∈ wsX2_endAt := by decide +kernel
def f_X2_endAt (a_end : Int32) (x1 : Int32) : Option Int32 :=
  if a_end = (-1 : Int32) then some x1 else some a_end
set_option maxHeartbeats 4000000 in
set_option maxRecDepth 100000 in
theorem c_X2_endAt (l : Launch) (dC : Nat → ClassId) (dI : Nat → Nat → Nat) (cI cJ cH : ClassId) (a_p ai_p ai_row_p : Nat)  (a_place : Int32) (a_end : Int32) (a_objects : Int32) (a_toldObjects : Int32) (ai_row : (Nat → Int32)) (ai_size : Int32) (x1 : Int32) (o : Int32) (hf : f_X2_endAt a_end x1 = some o) : ∀ sz : Nat, Met l yX2_endAt wsX2_endAt rm_X2_endAt (gPre [.ref a_p, .int x1] (dC, dI) vwCl (gT cI cJ cH) (wRd cI a_p ai_p a_place a_end a_objects a_toldObjects ++ wBy cI ai_p ai_row_p ai_row ai_size) sz) (va_Qv (fun (u : Int32) => o = u) (gB (dC, dI) vwCl (gT cI cJ cH) (fun (u : Int32) => wRd cI a_p ai_p a_place u a_objects a_toldObjects ++ wBy cI ai_p ai_row_p ai_row ai_size) (va_A (wRd cI a_p ai_p a_place a_end a_objects a_toldObjects ++ wBy cI ai_p ai_row_p ai_row ai_size) sz)) (va_A (wRd cI a_p ai_p a_place a_end a_objects a_toldObjects ++ wBy cI ai_p ai_row_p ai_row ai_size) sz)) 0 0 (va_A (wRd cI a_p ai_p a_place a_end a_objects a_toldObjects ++ wBy cI ai_p ai_row_p ai_row ai_size) sz) := by
  refine g_met (fun A => va_Qv (fun (u : Int32) => o = u) (gB (dC, dI) vwCl (gT cI cJ cH) (fun (u : Int32) => wRd cI a_p ai_p a_place u a_objects a_toldObjects ++ wBy cI ai_p ai_row_p ai_row ai_size) A) A) (by decide) rfl (Nat.le_of_ble_eq_true rfl) ?_
  intro p e s m args below meth c A Q F hlocks hr hname hN hQ
  unfold f_X2_endAt at hf
  refine g_lvE (lv' := [(0, .ref a_p), (1, .int x1)]) rfl ?_
  refine g_aload_n F dX2_endAt_0 rfl 0 rfl ?_
  refine g_get F h_X2_endAt_2 0 rfl rfl 2 (by decide) (by decide +kernel) rfl dX2_endAt_1 ?_
  refine g_iconst (v := -1) F dX2_endAt_4 rfl ?_
  refine g_icmp_ne (tgt := 13) F dX2_endAt_5 (by decide) (fun c5 => ?_) (fun c5 => ?_)
  · have hf := iteF hf c5
    subst hQ
    exact g_vret F hlocks hr a_end rfl (Option.some.inj hf).symm dX2_endAt_13
  · have hf := iteT hf c5
    refine g_aload_n F dX2_endAt_8 rfl 0 rfl ?_
    refine g_iload_n F dX2_endAt_9 rfl 1 rfl ?_
    refine g_put F h_X2_endAt_2 tyX2 tyX2_ok nmX2 0 rfl rfl 2 (by decide) (by decide +kernel) rfl rfl rfl (Nat.le_of_ble_eq_true rfl) dX2_endAt_10 (ws' := wRd cI a_p ai_p a_place x1 a_objects a_toldObjects ++ wBy cI ai_p ai_row_p ai_row ai_size) rfl ?_
    subst hQ
    exact g_vret F hlocks hr x1 rfl (Option.some.inj hf).symm dX2_endAt_13

/-! HeapImages$Reader.nextByte()I -/
def rm_X2_nextByte : Room := { frames := 1, cells := 0, slots := 0, locals := 21 }
theorem h_X2_nextByte_0 : ∀ w ∈ wsX00, w ∈ wsX2_nextByte := by decide +kernel
theorem h_X2_nextByte_2 : ∀ w ∈ wsX20, w ∈ wsX2_nextByte := by decide +kernel
def f_X2_nextByte (a_place : Int32) (a_end : Int32) (ai_row : (Nat → Int32)) (ai_size : Int32) : Option (Int32 × Int32 × Int32) :=
  if a_place < ai_size then ck (inR a_place 2000) (nm (ai_row a_place.toNatClampNeg) fun v2 => some (v2, a_place + (1 : Int32), a_end)) else Option.bind (f_X2_endAt a_end ai_size) fun o3 => some ((0 : Int32), a_place, o3)
set_option maxHeartbeats 4000000 in
set_option maxRecDepth 100000 in
theorem c_X2_nextByte (l : Launch) (dC : Nat → ClassId) (dI : Nat → Nat → Nat) (cI cJ cH : ClassId) (a_p ai_p ai_row_p : Nat)  (a_place : Int32) (a_end : Int32) (a_objects : Int32) (a_toldObjects : Int32) (ai_row : (Nat → Int32)) (ai_size : Int32)  (o : (Int32 × Int32 × Int32)) (hf : f_X2_nextByte a_place a_end ai_row ai_size = some o) : ∀ sz : Nat, Met l yX2_nextByte wsX2_nextByte rm_X2_nextByte (gPre [.ref a_p] (dC, dI) vwCl (gT cI cJ cH) (wRd cI a_p ai_p a_place a_end a_objects a_toldObjects ++ wBy cI ai_p ai_row_p ai_row ai_size) sz) (va_Qi (fun (r : Int32) (u : (Int32 × Int32)) => o.1 = r ∧ o.2 = u) (gB (dC, dI) vwCl (gT cI cJ cH) (fun (u : (Int32 × Int32)) => wRd cI a_p ai_p u.1 u.2 a_objects a_toldObjects ++ wBy cI ai_p ai_row_p ai_row ai_size) (va_A (wRd cI a_p ai_p a_place a_end a_objects a_toldObjects ++ wBy cI ai_p ai_row_p ai_row ai_size) sz)) (va_A (wRd cI a_p ai_p a_place a_end a_objects a_toldObjects ++ wBy cI ai_p ai_row_p ai_row ai_size) sz)) 0 0 (va_A (wRd cI a_p ai_p a_place a_end a_objects a_toldObjects ++ wBy cI ai_p ai_row_p ai_row ai_size) sz) := by
  refine g_met (fun A => va_Qi (fun (r : Int32) (u : (Int32 × Int32)) => o.1 = r ∧ o.2 = u) (gB (dC, dI) vwCl (gT cI cJ cH) (fun (u : (Int32 × Int32)) => wRd cI a_p ai_p u.1 u.2 a_objects a_toldObjects ++ wBy cI ai_p ai_row_p ai_row ai_size) A) A) (by decide) rfl (Nat.le_of_ble_eq_true rfl) ?_
  intro p e s m args below meth c A Q F hlocks hr hname hN hQ
  unfold f_X2_nextByte at hf
  refine g_lvE (lv' := [(0, .ref a_p)]) rfl ?_
  refine g_aload_n F dX2_nextByte_0 rfl 0 rfl ?_
  refine g_get F h_X2_nextByte_2 0 rfl rfl 1 (by decide) (by decide +kernel) rfl dX2_nextByte_1 ?_
  refine g_aload_n F dX2_nextByte_4 rfl 0 rfl ?_
  refine g_get F h_X2_nextByte_2 0 rfl rfl 0 (by decide) (by decide +kernel) rfl dX2_nextByte_5 ?_
  refine g_getN (host := "HeapImages") F h_X2_nextByte_0 1 rfl rfl 1 (by decide) (hN _ (by decide +kernel)) rfl dX2_nextByte_8 ?_
  refine g_icmp_lt (tgt := 27) F dX2_nextByte_11 (by decide) (fun c11 => ?_) (fun c11 => ?_)
  · have hf := iteT hf c11
    refine g_aload_n F dX2_nextByte_27 rfl 0 rfl ?_
    refine g_get F h_X2_nextByte_2 0 rfl rfl 0 (by decide) (by decide +kernel) rfl dX2_nextByte_28 ?_
    refine g_getN (host := "HeapImages") F h_X2_nextByte_0 1 rfl rfl 0 (by decide) (hN _ (by decide +kernel)) rfl dX2_nextByte_31 ?_
    refine g_aload_n F dX2_nextByte_34 rfl 0 rfl ?_
    refine g_get F h_X2_nextByte_2 0 rfl rfl 1 (by decide) (by decide +kernel) rfl dX2_nextByte_35 ?_
    obtain ⟨h1, hf⟩ := ckE hf
    refine g_iald F 2 0 rfl rfl h1 dX2_nextByte_38 ?_
    obtain ⟨v2, ev2, hf⟩ := nmE hf
    refine g_nmi ev2 ?_
    refine g_istore_n (lv' := [(1, .int v2), (0, .ref a_p)]) F dX2_nextByte_39 rfl (by decide) rfl ?_
    refine g_aload_n F dX2_nextByte_40 rfl 1 rfl ?_
    refine g_dup F dX2_nextByte_41 rfl ?_
    refine g_get F h_X2_nextByte_2 0 rfl rfl 1 (by decide) (by decide +kernel) rfl dX2_nextByte_42 ?_
    refine g_iconst (v := 1) F dX2_nextByte_45 rfl ?_
    refine g_iadd F dX2_nextByte_46 ?_
    refine g_put F h_X2_nextByte_2 tyX2 tyX2_ok nmX2 0 rfl rfl 1 (by decide) (by decide +kernel) rfl rfl rfl (Nat.le_of_ble_eq_true rfl) dX2_nextByte_47 (ws' := wRd cI a_p ai_p (a_place + (1 : Int32)) a_end a_objects a_toldObjects ++ wBy cI ai_p ai_row_p ai_row ai_size) rfl ?_
    refine g_iload_n F dX2_nextByte_50 rfl 0 rfl ?_
    subst hQ
    exact g_iret F hlocks hr (a_place + (1 : Int32), a_end) rfl (pr2 (Option.some.inj hf)) dX2_nextByte_51
  · have hf := iteF hf c11
    refine g_aload_n F dX2_nextByte_14 rfl 0 rfl ?_
    refine g_aload_n F dX2_nextByte_15 rfl 0 rfl ?_
    refine g_get F h_X2_nextByte_2 0 rfl rfl 0 (by decide) (by decide +kernel) rfl dX2_nextByte_16 ?_
    refine g_getN (host := "HeapImages") F h_X2_nextByte_0 1 rfl rfl 1 (by decide) (hN _ (by decide +kernel)) rfl dX2_nextByte_19 ?_
    obtain ⟨o3, ho3, hf⟩ := bnE hf
    refine g_callPv (n := 1) (As := [.int ai_size]) F (c_X2_endAt l dC dI cI cJ cH a_p ai_p ai_row_p a_place a_end a_objects a_toldObjects ai_row ai_size ai_size o3 ho3) ggX2_nextByte_X2_endAt rfl rfl rfl (by decide +kernel) (by decide +kernel) (by decide +kernel) (by decide +kernel) (by decide +kernel) ⟨Nat.le_of_ble_eq_true rfl, Nat.le_of_ble_eq_true rfl⟩ ⟨Nat.le_of_ble_eq_true rfl, Nat.le_of_ble_eq_true rfl⟩ hN 0 rfl rfl rfl ([]) ([]) rfl (fun _ => rfl) rfl (Nat.le_of_ble_eq_true rfl) rfl dX2_nextByte_22 (cells' := 0) (slots' := 0) rfl rfl (fun u hp => ?_)
    subst hp
    refine g_ws (ws' := wRd cI a_p ai_p a_place o3 a_objects a_toldObjects ++ wBy cI ai_p ai_row_p ai_row ai_size) rfl ?_
    refine g_iconst (v := 0) F dX2_nextByte_25 rfl ?_
    subst hQ
    exact g_iret F hlocks hr (a_place, o3) rfl (pr2 (Option.some.inj hf)) dX2_nextByte_26

/-! HeapImages$Reader.readSignByte(I)V -/
def rm_X2_readSignByte : Room := { frames := 2, cells := 0, slots := 0, locals := 42 }
theorem h_X2_readSignByte_2 : ∀ w ∈ wsX20, w ∈ wsX2_readSignByte := by decide +kernel
def f_X2_readSignByte (a_place : Int32) (a_end : Int32) (ai_row : (Nat → Int32)) (ai_size : Int32) (x1 : Int32) : Option (Int32 × Int32) :=
  Option.bind (f_X2_nextByte a_place a_end ai_row ai_size) fun o1 => if o1.1 = x1 then some (o1.2.1, o1.2.2) else Option.bind (f_X2_endAt o1.2.2 a_place) fun o2 => some (o1.2.1, o2)
set_option maxHeartbeats 4000000 in
set_option maxRecDepth 100000 in
theorem c_X2_readSignByte (l : Launch) (dC : Nat → ClassId) (dI : Nat → Nat → Nat) (cI cJ cH : ClassId) (a_p ai_p ai_row_p : Nat)  (a_place : Int32) (a_end : Int32) (a_objects : Int32) (a_toldObjects : Int32) (ai_row : (Nat → Int32)) (ai_size : Int32) (x1 : Int32) (o : (Int32 × Int32)) (hf : f_X2_readSignByte a_place a_end ai_row ai_size x1 = some o) : ∀ sz : Nat, Met l yX2_readSignByte wsX2_readSignByte rm_X2_readSignByte (gPre [.ref a_p, .int x1] (dC, dI) vwCl (gT cI cJ cH) (wRd cI a_p ai_p a_place a_end a_objects a_toldObjects ++ wBy cI ai_p ai_row_p ai_row ai_size) sz) (va_Qv (fun (u : (Int32 × Int32)) => o = u) (gB (dC, dI) vwCl (gT cI cJ cH) (fun (u : (Int32 × Int32)) => wRd cI a_p ai_p u.1 u.2 a_objects a_toldObjects ++ wBy cI ai_p ai_row_p ai_row ai_size) (va_A (wRd cI a_p ai_p a_place a_end a_objects a_toldObjects ++ wBy cI ai_p ai_row_p ai_row ai_size) sz)) (va_A (wRd cI a_p ai_p a_place a_end a_objects a_toldObjects ++ wBy cI ai_p ai_row_p ai_row ai_size) sz)) 0 0 (va_A (wRd cI a_p ai_p a_place a_end a_objects a_toldObjects ++ wBy cI ai_p ai_row_p ai_row ai_size) sz) := by
  refine g_met (fun A => va_Qv (fun (u : (Int32 × Int32)) => o = u) (gB (dC, dI) vwCl (gT cI cJ cH) (fun (u : (Int32 × Int32)) => wRd cI a_p ai_p u.1 u.2 a_objects a_toldObjects ++ wBy cI ai_p ai_row_p ai_row ai_size) A) A) (by decide) rfl (Nat.le_of_ble_eq_true rfl) ?_
  intro p e s m args below meth c A Q F hlocks hr hname hN hQ
  unfold f_X2_readSignByte at hf
  refine g_lvE (lv' := [(0, .ref a_p), (1, .int x1)]) rfl ?_
  refine g_aload_n F dX2_readSignByte_0 rfl 0 rfl ?_
  refine g_get F h_X2_readSignByte_2 0 rfl rfl 1 (by decide) (by decide +kernel) rfl dX2_readSignByte_1 ?_
  refine g_istore_n (lv' := [(2, .int a_place), (0, .ref a_p), (1, .int x1)]) F dX2_readSignByte_4 rfl (by decide) rfl ?_
  refine g_aload_n F dX2_readSignByte_5 rfl 1 rfl ?_
  obtain ⟨o1, ho1, hf⟩ := bnE hf
  refine g_callPi (n := 0) (As := []) F (c_X2_nextByte l dC dI cI cJ cH a_p ai_p ai_row_p a_place a_end a_objects a_toldObjects ai_row ai_size o1 ho1) ggX2_readSignByte_X2_nextByte rfl rfl rfl (by decide +kernel) (by decide +kernel) (by decide +kernel) (by decide +kernel) (by decide +kernel) ⟨Nat.le_of_ble_eq_true rfl, Nat.le_of_ble_eq_true rfl⟩ ⟨Nat.le_of_ble_eq_true rfl, Nat.le_of_ble_eq_true rfl⟩ hN 0 rfl rfl rfl ([]) ([]) rfl (fun _ => rfl) rfl (Nat.le_of_ble_eq_true rfl) rfl dX2_readSignByte_6 (cells' := 0) (slots' := 0) rfl rfl (fun r u hp => ?_)
  obtain ⟨hp1, hp2⟩ := hp
  subst hp1
  subst hp2
  refine g_ws (ws' := wRd cI a_p ai_p o1.2.1 o1.2.2 a_objects a_toldObjects ++ wBy cI ai_p ai_row_p ai_row ai_size) rfl ?_
  refine g_iload_n F dX2_readSignByte_9 rfl 2 rfl ?_
  refine g_icmp_eq (tgt := 18) F dX2_readSignByte_10 (by decide) (fun c10 => ?_) (fun c10 => ?_)
  · have hf := iteT hf c10
    subst hQ
    exact g_vret F hlocks hr (o1.2.1, o1.2.2) rfl (Option.some.inj hf).symm dX2_readSignByte_18
  · have hf := iteF hf c10
    refine g_aload_n F dX2_readSignByte_13 rfl 1 rfl ?_
    refine g_iload_n F dX2_readSignByte_14 rfl 0 rfl ?_
    obtain ⟨o2, ho2, hf⟩ := bnE hf
    refine g_callPv (n := 1) (As := [.int a_place]) F (c_X2_endAt l dC dI cI cJ cH a_p ai_p ai_row_p o1.2.1 o1.2.2 a_objects a_toldObjects ai_row ai_size a_place o2 ho2) ggX2_readSignByte_X2_endAt rfl rfl rfl (by decide +kernel) (by decide +kernel) (by decide +kernel) (by decide +kernel) (by decide +kernel) ⟨Nat.le_of_ble_eq_true rfl, Nat.le_of_ble_eq_true rfl⟩ ⟨Nat.le_of_ble_eq_true rfl, Nat.le_of_ble_eq_true rfl⟩ hN 0 rfl rfl rfl ([]) ([]) rfl (fun _ => rfl) rfl (Nat.le_of_ble_eq_true rfl) rfl dX2_readSignByte_15 (cells' := 0) (slots' := 0) rfl rfl (fun u hp => ?_)
    subst hp
    refine g_ws (ws' := wRd cI a_p ai_p o1.2.1 o2 a_objects a_toldObjects ++ wBy cI ai_p ai_row_p ai_row ai_size) rfl ?_
    subst hQ
    exact g_vret F hlocks hr (o1.2.1, o2) rfl (Option.some.inj hf).symm dX2_readSignByte_18

/-! HeapImages$Reader.readSign()V -/
def rm_X2_readSign : Room := { frames := 3, cells := 0, slots := 0, locals := 64 }
def f_X2_readSign (a_place : Int32) (a_end : Int32) (ai_row : (Nat → Int32)) (ai_size : Int32) : Option (Int32 × Int32) :=
  Option.bind (f_X2_readSignByte a_place a_end ai_row ai_size (72 : Int32)) fun o1 => Option.bind (f_X2_readSignByte o1.1 o1.2 ai_row ai_size (73 : Int32)) fun o2 => Option.bind (f_X2_readSignByte o2.1 o2.2 ai_row ai_size (1 : Int32)) fun o3 => some (o3.1, o3.2)
set_option maxHeartbeats 4000000 in
set_option maxRecDepth 100000 in
theorem c_X2_readSign (l : Launch) (dC : Nat → ClassId) (dI : Nat → Nat → Nat) (cI cJ cH : ClassId) (a_p ai_p ai_row_p : Nat)  (a_place : Int32) (a_end : Int32) (a_objects : Int32) (a_toldObjects : Int32) (ai_row : (Nat → Int32)) (ai_size : Int32)  (o : (Int32 × Int32)) (hf : f_X2_readSign a_place a_end ai_row ai_size = some o) : ∀ sz : Nat, Met l yX2_readSign wsX2_readSign rm_X2_readSign (gPre [.ref a_p] (dC, dI) vwCl (gT cI cJ cH) (wRd cI a_p ai_p a_place a_end a_objects a_toldObjects ++ wBy cI ai_p ai_row_p ai_row ai_size) sz) (va_Qv (fun (u : (Int32 × Int32)) => o = u) (gB (dC, dI) vwCl (gT cI cJ cH) (fun (u : (Int32 × Int32)) => wRd cI a_p ai_p u.1 u.2 a_objects a_toldObjects ++ wBy cI ai_p ai_row_p ai_row ai_size) (va_A (wRd cI a_p ai_p a_place a_end a_objects a_toldObjects ++ wBy cI ai_p ai_row_p ai_row ai_size) sz)) (va_A (wRd cI a_p ai_p a_place a_end a_objects a_toldObjects ++ wBy cI ai_p ai_row_p ai_row ai_size) sz)) 0 0 (va_A (wRd cI a_p ai_p a_place a_end a_objects a_toldObjects ++ wBy cI ai_p ai_row_p ai_row ai_size) sz) := by
  refine g_met (fun A => va_Qv (fun (u : (Int32 × Int32)) => o = u) (gB (dC, dI) vwCl (gT cI cJ cH) (fun (u : (Int32 × Int32)) => wRd cI a_p ai_p u.1 u.2 a_objects a_toldObjects ++ wBy cI ai_p ai_row_p ai_row ai_size) A) A) (by decide) rfl (Nat.le_of_ble_eq_true rfl) ?_
  intro p e s m args below meth c A Q F hlocks hr hname hN hQ
  unfold f_X2_readSign at hf
  refine g_lvE (lv' := [(0, .ref a_p)]) rfl ?_
  refine g_aload_n F dX2_readSign_0 rfl 0 rfl ?_
  refine g_bipush (v := 72) F dX2_readSign_1 rfl ?_
  obtain ⟨o1, ho1, hf⟩ := bnE hf
  refine g_callPv (n := 1) (As := [.int (72 : Int32)]) F (c_X2_readSignByte l dC dI cI cJ cH a_p ai_p ai_row_p a_place a_end a_objects a_toldObjects ai_row ai_size (72 : Int32) o1 ho1) ggX2_readSign_X2_readSignByte rfl rfl rfl (by decide +kernel) (by decide +kernel) (by decide +kernel) (by decide +kernel) (by decide +kernel) ⟨Nat.le_of_ble_eq_true rfl, Nat.le_of_ble_eq_true rfl⟩ ⟨Nat.le_of_ble_eq_true rfl, Nat.le_of_ble_eq_true rfl⟩ hN 0 rfl rfl rfl ([]) ([]) rfl (fun _ => rfl) rfl (Nat.le_of_ble_eq_true rfl) rfl dX2_readSign_3 (cells' := 0) (slots' := 0) rfl rfl (fun u hp => ?_)
  subst hp
  refine g_ws (ws' := wRd cI a_p ai_p o1.1 o1.2 a_objects a_toldObjects ++ wBy cI ai_p ai_row_p ai_row ai_size) rfl ?_
  refine g_aload_n F dX2_readSign_6 rfl 0 rfl ?_
  refine g_bipush (v := 73) F dX2_readSign_7 rfl ?_
  obtain ⟨o2, ho2, hf⟩ := bnE hf
  refine g_callPv (n := 1) (As := [.int (73 : Int32)]) F (c_X2_readSignByte l dC dI cI cJ cH a_p ai_p ai_row_p o1.1 o1.2 a_objects a_toldObjects ai_row ai_size (73 : Int32) o2 ho2) ggX2_readSign_X2_readSignByte rfl rfl rfl (by decide +kernel) (by decide +kernel) (by decide +kernel) (by decide +kernel) (by decide +kernel) ⟨Nat.le_of_ble_eq_true rfl, Nat.le_of_ble_eq_true rfl⟩ ⟨Nat.le_of_ble_eq_true rfl, Nat.le_of_ble_eq_true rfl⟩ hN 0 rfl rfl rfl ([]) ([]) rfl (fun _ => rfl) rfl (Nat.le_of_ble_eq_true rfl) rfl dX2_readSign_9 (cells' := 0) (slots' := 0) rfl rfl (fun u hp => ?_)
  subst hp
  refine g_ws (ws' := wRd cI a_p ai_p o2.1 o2.2 a_objects a_toldObjects ++ wBy cI ai_p ai_row_p ai_row ai_size) rfl ?_
  refine g_aload_n F dX2_readSign_12 rfl 0 rfl ?_
  refine g_iconst (v := 1) F dX2_readSign_13 rfl ?_
  obtain ⟨o3, ho3, hf⟩ := bnE hf
  refine g_callPv (n := 1) (As := [.int (1 : Int32)]) F (c_X2_readSignByte l dC dI cI cJ cH a_p ai_p ai_row_p o2.1 o2.2 a_objects a_toldObjects ai_row ai_size (1 : Int32) o3 ho3) ggX2_readSign_X2_readSignByte rfl rfl rfl (by decide +kernel) (by decide +kernel) (by decide +kernel) (by decide +kernel) (by decide +kernel) ⟨Nat.le_of_ble_eq_true rfl, Nat.le_of_ble_eq_true rfl⟩ ⟨Nat.le_of_ble_eq_true rfl, Nat.le_of_ble_eq_true rfl⟩ hN 0 rfl rfl rfl ([]) ([]) rfl (fun _ => rfl) rfl (Nat.le_of_ble_eq_true rfl) rfl dX2_readSign_14 (cells' := 0) (slots' := 0) rfl rfl (fun u hp => ?_)
  subst hp
  refine g_ws (ws' := wRd cI a_p ai_p o3.1 o3.2 a_objects a_toldObjects ++ wBy cI ai_p ai_row_p ai_row ai_size) rfl ?_
  subst hQ
  exact g_vret F hlocks hr (o3.1, o3.2) rfl (Option.some.inj hf).symm dX2_readSign_17

/-! HeapImages$Reader.nextCount()J -/
def rm_X2_nextCount : Room := { frames := 2, cells := 0, slots := 0, locals := 42 }
theorem h_X2_nextCount_2 : ∀ w ∈ wsX20, w ∈ wsX2_nextCount := by decide +kernel
def f_X2_nextCount_L15_s (ai_row : (Nat → Int32)) (ai_size : Int32) (y1 : Int32) (rc : Int64 → Int32 → Int32 → Int32 → Int32 → Option (Int64 × Int32 × Int32 × Int32)) (z2 : Int64) (z4 : Int32) (z5 : Int32) (a_place : Int32) (a_end : Int32) : Option (Int64 × Int32 × Int32 × Int32) :=
  if (5 : Int32) < z5 then some (z2, z4, a_place, a_end) else if z4 < (128 : Int32) then some (z2, z4, a_place, a_end) else Option.bind (f_X2_nextByte a_place a_end ai_row ai_size) fun o1 => nm (z2 ||| (((o1.1 &&& (127 : Int32)).toInt64) <<< (((7 : Int32) * z5).toInt64 &&& 63))) fun v2 => nm (z5 + (1 : Int32)) fun v3 => rc v2 o1.1 v3 o1.2.1 o1.2.2
def f_X2_nextCount_L15 (ai_row : (Nat → Int32)) (ai_size : Int32) (y1 : Int32) : Nat → Int64 → Int32 → Int32 → Int32 → Int32 → Option (Int64 × Int32 × Int32 × Int32)
  | 0, _, _, _, _, _ => none
  | n + 1, z2, z4, z5, a_place, a_end => f_X2_nextCount_L15_s ai_row ai_size y1 (f_X2_nextCount_L15 ai_row ai_size y1 n) z2 z4 z5 a_place a_end
set_option maxHeartbeats 4000000 in
theorem w_X2_nextCount_L15 {p : Program} {l : Launch} {e : Env} {s : State} {m : MethodId} {args : Array Value} {below : List Frame} {meth : Method} {c : Code} {A : Nat → Prop} {Q : State → Prop} {dC : Nat → ClassId} {dI : Nat → Nat → Nat} {cI cJ cH : ClassId} {a_p ai_p ai_row_p : Nat} {a_objects : Int32} {a_toldObjects : Int32} {ai_row : (Nat → Int32)} {ai_size : Int32} {y1 : Int32} (F : gF p m c cX2_nextCount 6 s args wsX2_nextCount yX2_nextCount.cls (dC, dI) vwCl (gT cI cJ cH) A) (hN : ∀ w ∈ gN, va_Nw w s) : ∀ (n : Nat) (z2 : Int64) (z4 : Int32) (z5 : Int32) (a_place : Int32) (a_end : Int32) (o : (Int64 × Int32 × Int32 × Int32)), f_X2_nextCount_L15 ai_row ai_size y1 n z2 z4 z5 a_place a_end = some o → (gW p l e rm_X2_nextCount s m args below meth c 0 0 Q (dC, dI) vwCl A 6 (wRd cI a_p ai_p o.2.2.1 o.2.2.2 a_objects a_toldObjects ++ wBy cI ai_p ai_row_p ai_row ai_size) [(0, .ref a_p), (1, .int y1), (2, .long o.1), (4, .int o.2.1)] 56 []) → gW p l e rm_X2_nextCount s m args below meth c 0 0 Q (dC, dI) vwCl A 6 (wRd cI a_p ai_p a_place a_end a_objects a_toldObjects ++ wBy cI ai_p ai_row_p ai_row ai_size) [(0, .ref a_p), (1, .int y1), (2, .long z2), (4, .int z4), (5, .int z5)] 15 [] := by
  intro n
  induction n with
  | zero =>
    intro z2 z4 z5 a_place a_end o hf E0
    change none = some o at hf
    cases hf
  | succ n ih =>
    intro z2 z4 z5 a_place a_end o hf E0
    change f_X2_nextCount_L15_s ai_row ai_size y1 (f_X2_nextCount_L15 ai_row ai_size y1 n) z2 z4 z5 a_place a_end = some o at hf
    unfold f_X2_nextCount_L15_s at hf
    refine g_iload F dX2_nextCount_15 4 rfl ?_
    refine g_iconst (v := 5) F dX2_nextCount_17 rfl ?_
    refine g_icmp_gt (tgt := 56) F dX2_nextCount_18 (by decide) (fun c18 => ?_) (fun c18 => ?_)
    · have hf := iteT hf c18
      cases hf
      refine g_lv [0, 1, 2, 3] rfl ?_
      exact E0
    · have hf := iteF hf c18
      refine g_iload F dX2_nextCount_21 3 rfl ?_
      refine g_sipush (v := 128) F dX2_nextCount_23 rfl ?_
      refine g_icmp_lt (tgt := 56) F dX2_nextCount_26 (by decide) (fun c26 => ?_) (fun c26 => ?_)
      · have hf := iteT hf c26
        cases hf
        refine g_lv [0, 1, 2, 3] rfl ?_
        exact E0
      · have hf := iteF hf c26
        refine g_aload_n F dX2_nextCount_29 rfl 0 rfl ?_
        obtain ⟨o1, ho1, hf⟩ := bnE hf
        refine g_callPi (n := 0) (As := []) F (c_X2_nextByte l dC dI cI cJ cH a_p ai_p ai_row_p a_place a_end a_objects a_toldObjects ai_row ai_size o1 ho1) ggX2_nextCount_X2_nextByte rfl rfl rfl (by decide +kernel) (by decide +kernel) (by decide +kernel) (by decide +kernel) (by decide +kernel) ⟨Nat.le_of_ble_eq_true rfl, Nat.le_of_ble_eq_true rfl⟩ ⟨Nat.le_of_ble_eq_true rfl, Nat.le_of_ble_eq_true rfl⟩ hN 0 rfl rfl rfl ([]) ([]) rfl (fun _ => rfl) rfl (Nat.le_of_ble_eq_true rfl) rfl dX2_nextCount_30 (cells' := 0) (slots' := 0) rfl rfl (fun r u hp => ?_)
        obtain ⟨hp1, hp2⟩ := hp
        subst hp1
        subst hp2
        refine g_ws (ws' := wRd cI a_p ai_p o1.2.1 o1.2.2 a_objects a_toldObjects ++ wBy cI ai_p ai_row_p ai_row ai_size) rfl ?_
        refine g_istore (lv' := [(4, .int o1.1), (0, .ref a_p), (1, .int y1), (2, .long z2), (5, .int z5)]) F dX2_nextCount_33 (by decide) rfl ?_
        refine g_lload_n F dX2_nextCount_35 rfl 3 rfl ?_
        refine g_iload F dX2_nextCount_36 0 rfl ?_
        refine g_bipush (v := 127) F dX2_nextCount_38 rfl ?_
        refine g_iand F dX2_nextCount_40 ?_
        refine g_i2l F dX2_nextCount_41 ?_
        refine g_bipush (v := 7) F dX2_nextCount_42 rfl ?_
        refine g_iload F dX2_nextCount_44 4 rfl ?_
        refine g_imul F dX2_nextCount_46 ?_
        refine g_lshl F dX2_nextCount_47 ?_
        refine g_lor F dX2_nextCount_48 ?_
        obtain ⟨v2, ev2, hf⟩ := nmE hf
        refine g_nml ev2 ?_
        refine g_lstore_n (lv' := [(2, .long v2), (4, .int o1.1), (0, .ref a_p), (1, .int y1), (5, .int z5)]) F dX2_nextCount_49 rfl (by decide) rfl ?_
        obtain ⟨v3, ev3, hf⟩ := nmE hf
        refine g_iinc (j := 4) (lv' := [(5, .int v3), (2, .long v2), (4, .int o1.1), (0, .ref a_p), (1, .int y1)]) F dX2_nextCount_50 rfl ev3.symm (by decide) rfl ?_
        refine g_goto (tgt := 15) F dX2_nextCount_53 (by decide) ?_
        refine g_lv [3, 4, 1, 2, 0] rfl ?_
        exact ih _ _ _ _ _ o hf E0
def f_X2_nextCount (a_place : Int32) (a_end : Int32) (ai_row : (Nat → Int32)) (ai_size : Int32) : Option (Int64 × Int32 × Int32) :=
  Option.bind (f_X2_nextCount_L15 ai_row ai_size a_place FU (0 : Int64) (128 : Int32) (0 : Int32) a_place a_end) fun o4 => nm (o4.2.2.1 - a_place) fun v5 => if (5 : Int32) < v5 then Option.bind (f_X2_endAt o4.2.2.2 a_place) fun o6 => some (o4.1, o4.2.2.1, o6) else if v5 ≤ (1 : Int32) then if (lg_cmp o4.1 (8589934592 : Int64)) < 0 then some (o4.1, o4.2.2.1, o4.2.2.2) else Option.bind (f_X2_endAt o4.2.2.2 a_place) fun o7 => some (o4.1, o4.2.2.1, o7) else if o4.2.1 = 0 then Option.bind (f_X2_endAt o4.2.2.2 a_place) fun o8 => some (o4.1, o4.2.2.1, o8) else if (lg_cmp o4.1 (8589934592 : Int64)) < 0 then some (o4.1, o4.2.2.1, o4.2.2.2) else Option.bind (f_X2_endAt o4.2.2.2 a_place) fun o9 => some (o4.1, o4.2.2.1, o9)
set_option maxHeartbeats 4000000 in
set_option maxRecDepth 100000 in
theorem c_X2_nextCount (l : Launch) (dC : Nat → ClassId) (dI : Nat → Nat → Nat) (cI cJ cH : ClassId) (a_p ai_p ai_row_p : Nat)  (a_place : Int32) (a_end : Int32) (a_objects : Int32) (a_toldObjects : Int32) (ai_row : (Nat → Int32)) (ai_size : Int32)  (o : (Int64 × Int32 × Int32)) (hf : f_X2_nextCount a_place a_end ai_row ai_size = some o) : ∀ sz : Nat, Met l yX2_nextCount wsX2_nextCount rm_X2_nextCount (gPre [.ref a_p] (dC, dI) vwCl (gT cI cJ cH) (wRd cI a_p ai_p a_place a_end a_objects a_toldObjects ++ wBy cI ai_p ai_row_p ai_row ai_size) sz) (va_Ql (fun (r : Int64) (u : (Int32 × Int32)) => o.1 = r ∧ o.2 = u) (gB (dC, dI) vwCl (gT cI cJ cH) (fun (u : (Int32 × Int32)) => wRd cI a_p ai_p u.1 u.2 a_objects a_toldObjects ++ wBy cI ai_p ai_row_p ai_row ai_size) (va_A (wRd cI a_p ai_p a_place a_end a_objects a_toldObjects ++ wBy cI ai_p ai_row_p ai_row ai_size) sz)) (va_A (wRd cI a_p ai_p a_place a_end a_objects a_toldObjects ++ wBy cI ai_p ai_row_p ai_row ai_size) sz)) 0 0 (va_A (wRd cI a_p ai_p a_place a_end a_objects a_toldObjects ++ wBy cI ai_p ai_row_p ai_row ai_size) sz) := by
  refine g_met (fun A => va_Ql (fun (r : Int64) (u : (Int32 × Int32)) => o.1 = r ∧ o.2 = u) (gB (dC, dI) vwCl (gT cI cJ cH) (fun (u : (Int32 × Int32)) => wRd cI a_p ai_p u.1 u.2 a_objects a_toldObjects ++ wBy cI ai_p ai_row_p ai_row ai_size) A) A) (by decide) rfl (Nat.le_of_ble_eq_true rfl) ?_
  intro p e s m args below meth c A Q F hlocks hr hname hN hQ
  unfold f_X2_nextCount at hf
  refine g_lvE (lv' := [(0, .ref a_p)]) rfl ?_
  refine g_aload_n F dX2_nextCount_0 rfl 0 rfl ?_
  refine g_get F h_X2_nextCount_2 0 rfl rfl 1 (by decide) (by decide +kernel) rfl dX2_nextCount_1 ?_
  refine g_istore_n (lv' := [(1, .int a_place), (0, .ref a_p)]) F dX2_nextCount_4 rfl (by decide) rfl ?_
  refine g_lconst (v := 0) F dX2_nextCount_5 rfl ?_
  refine g_lstore_n (lv' := [(2, .long (0 : Int64)), (1, .int a_place), (0, .ref a_p)]) F dX2_nextCount_6 rfl (by decide) rfl ?_
  refine g_sipush (v := 128) F dX2_nextCount_7 rfl ?_
  refine g_istore (lv' := [(4, .int (128 : Int32)), (2, .long (0 : Int64)), (1, .int a_place), (0, .ref a_p)]) F dX2_nextCount_10 (by decide) rfl ?_
  refine g_iconst (v := 0) F dX2_nextCount_12 rfl ?_
  refine g_istore (lv' := [(5, .int (0 : Int32)), (4, .int (128 : Int32)), (2, .long (0 : Int64)), (1, .int a_place), (0, .ref a_p)]) F dX2_nextCount_13 (by decide) rfl ?_
  obtain ⟨o4, ho4, hf⟩ := bnE hf
  refine g_lv [4, 3, 2, 1, 0] rfl ?_
  refine w_X2_nextCount_L15 F hN FU _ _ _ _ _ o4 ho4 ?_
  refine g_aload_n F dX2_nextCount_56 rfl 0 rfl ?_
  refine g_get F h_X2_nextCount_2 0 rfl rfl 1 (by decide) (by decide +kernel) rfl dX2_nextCount_57 ?_
  refine g_iload_n F dX2_nextCount_60 rfl 1 rfl ?_
  refine g_isub F dX2_nextCount_61 ?_
  obtain ⟨v5, ev5, hf⟩ := nmE hf
  refine g_nmi ev5 ?_
  refine g_istore (lv' := [(5, .int v5), (0, .ref a_p), (1, .int a_place), (2, .long o4.1), (4, .int o4.2.1)]) F dX2_nextCount_62 (by decide) rfl ?_
  refine g_iload F dX2_nextCount_64 0 rfl ?_
  refine g_iconst (v := 5) F dX2_nextCount_66 rfl ?_
  refine g_icmp_gt (tgt := 89) F dX2_nextCount_67 (by decide) (fun c67 => ?_) (fun c67 => ?_)
  · have hf := iteT hf c67
    refine g_aload_n F dX2_nextCount_89 rfl 1 rfl ?_
    refine g_iload_n F dX2_nextCount_90 rfl 2 rfl ?_
    obtain ⟨o6, ho6, hf⟩ := bnE hf
    refine g_callPv (n := 1) (As := [.int a_place]) F (c_X2_endAt l dC dI cI cJ cH a_p ai_p ai_row_p o4.2.2.1 o4.2.2.2 a_objects a_toldObjects ai_row ai_size a_place o6 ho6) ggX2_nextCount_X2_endAt rfl rfl rfl (by decide +kernel) (by decide +kernel) (by decide +kernel) (by decide +kernel) (by decide +kernel) ⟨Nat.le_of_ble_eq_true rfl, Nat.le_of_ble_eq_true rfl⟩ ⟨Nat.le_of_ble_eq_true rfl, Nat.le_of_ble_eq_true rfl⟩ hN 0 rfl rfl rfl ([]) ([]) rfl (fun _ => rfl) rfl (Nat.le_of_ble_eq_true rfl) rfl dX2_nextCount_91 (cells' := 0) (slots' := 0) rfl rfl (fun u hp => ?_)
    subst hp
    refine g_ws (ws' := wRd cI a_p ai_p o4.2.2.1 o6 a_objects a_toldObjects ++ wBy cI ai_p ai_row_p ai_row ai_size) rfl ?_
    refine g_lload_n F dX2_nextCount_94 rfl 3 rfl ?_
    subst hQ
    exact g_lret F hlocks hr (o4.2.2.1, o6) rfl (pr2 (Option.some.inj hf)) dX2_nextCount_95
  · have hf := iteF hf c67
    refine g_iload F dX2_nextCount_70 0 rfl ?_
    refine g_iconst (v := 1) F dX2_nextCount_72 rfl ?_
    refine g_icmp_le (tgt := 81) F dX2_nextCount_73 (by decide) (fun c73 => ?_) (fun c73 => ?_)
    · have hf := iteT hf c73
      refine g_lload_n F dX2_nextCount_81 rfl 3 rfl ?_
      refine g_ldc2 (v := 8589934592) F (by decide +kernel) dX2_nextCount_82 ?_
      refine g_lcmp F dX2_nextCount_85 ?_
      refine g_if_lt (tgt := 94) F dX2_nextCount_86 (by decide) (fun c86 => ?_) (fun c86 => ?_)
      · have hf := iteT hf c86
        refine g_lload_n F dX2_nextCount_94 rfl 3 rfl ?_
        subst hQ
        exact g_lret F hlocks hr (o4.2.2.1, o4.2.2.2) rfl (pr2 (Option.some.inj hf)) dX2_nextCount_95
      · have hf := iteF hf c86
        refine g_aload_n F dX2_nextCount_89 rfl 1 rfl ?_
        refine g_iload_n F dX2_nextCount_90 rfl 2 rfl ?_
        obtain ⟨o7, ho7, hf⟩ := bnE hf
        refine g_callPv (n := 1) (As := [.int a_place]) F (c_X2_endAt l dC dI cI cJ cH a_p ai_p ai_row_p o4.2.2.1 o4.2.2.2 a_objects a_toldObjects ai_row ai_size a_place o7 ho7) ggX2_nextCount_X2_endAt rfl rfl rfl (by decide +kernel) (by decide +kernel) (by decide +kernel) (by decide +kernel) (by decide +kernel) ⟨Nat.le_of_ble_eq_true rfl, Nat.le_of_ble_eq_true rfl⟩ ⟨Nat.le_of_ble_eq_true rfl, Nat.le_of_ble_eq_true rfl⟩ hN 0 rfl rfl rfl ([]) ([]) rfl (fun _ => rfl) rfl (Nat.le_of_ble_eq_true rfl) rfl dX2_nextCount_91 (cells' := 0) (slots' := 0) rfl rfl (fun u hp => ?_)
        subst hp
        refine g_ws (ws' := wRd cI a_p ai_p o4.2.2.1 o7 a_objects a_toldObjects ++ wBy cI ai_p ai_row_p ai_row ai_size) rfl ?_
        refine g_lload_n F dX2_nextCount_94 rfl 3 rfl ?_
        subst hQ
        exact g_lret F hlocks hr (o4.2.2.1, o7) rfl (pr2 (Option.some.inj hf)) dX2_nextCount_95
    · have hf := iteF hf c73
      refine g_iload F dX2_nextCount_76 4 rfl ?_
      refine g_if_eq (tgt := 89) F dX2_nextCount_78 (by decide) (fun c78 => ?_) (fun c78 => ?_)
      · have hf := iteT hf c78
        refine g_aload_n F dX2_nextCount_89 rfl 1 rfl ?_
        refine g_iload_n F dX2_nextCount_90 rfl 2 rfl ?_
        obtain ⟨o8, ho8, hf⟩ := bnE hf
        refine g_callPv (n := 1) (As := [.int a_place]) F (c_X2_endAt l dC dI cI cJ cH a_p ai_p ai_row_p o4.2.2.1 o4.2.2.2 a_objects a_toldObjects ai_row ai_size a_place o8 ho8) ggX2_nextCount_X2_endAt rfl rfl rfl (by decide +kernel) (by decide +kernel) (by decide +kernel) (by decide +kernel) (by decide +kernel) ⟨Nat.le_of_ble_eq_true rfl, Nat.le_of_ble_eq_true rfl⟩ ⟨Nat.le_of_ble_eq_true rfl, Nat.le_of_ble_eq_true rfl⟩ hN 0 rfl rfl rfl ([]) ([]) rfl (fun _ => rfl) rfl (Nat.le_of_ble_eq_true rfl) rfl dX2_nextCount_91 (cells' := 0) (slots' := 0) rfl rfl (fun u hp => ?_)
        subst hp
        refine g_ws (ws' := wRd cI a_p ai_p o4.2.2.1 o8 a_objects a_toldObjects ++ wBy cI ai_p ai_row_p ai_row ai_size) rfl ?_
        refine g_lload_n F dX2_nextCount_94 rfl 3 rfl ?_
        subst hQ
        exact g_lret F hlocks hr (o4.2.2.1, o8) rfl (pr2 (Option.some.inj hf)) dX2_nextCount_95
      · have hf := iteF hf c78
        refine g_lload_n F dX2_nextCount_81 rfl 3 rfl ?_
        refine g_ldc2 (v := 8589934592) F (by decide +kernel) dX2_nextCount_82 ?_
        refine g_lcmp F dX2_nextCount_85 ?_
        refine g_if_lt (tgt := 94) F dX2_nextCount_86 (by decide) (fun c86 => ?_) (fun c86 => ?_)
        · have hf := iteT hf c86
          refine g_lload_n F dX2_nextCount_94 rfl 3 rfl ?_
          subst hQ
          exact g_lret F hlocks hr (o4.2.2.1, o4.2.2.2) rfl (pr2 (Option.some.inj hf)) dX2_nextCount_95
        · have hf := iteF hf c86
          refine g_aload_n F dX2_nextCount_89 rfl 1 rfl ?_
          refine g_iload_n F dX2_nextCount_90 rfl 2 rfl ?_
          obtain ⟨o9, ho9, hf⟩ := bnE hf
          refine g_callPv (n := 1) (As := [.int a_place]) F (c_X2_endAt l dC dI cI cJ cH a_p ai_p ai_row_p o4.2.2.1 o4.2.2.2 a_objects a_toldObjects ai_row ai_size a_place o9 ho9) ggX2_nextCount_X2_endAt rfl rfl rfl (by decide +kernel) (by decide +kernel) (by decide +kernel) (by decide +kernel) (by decide +kernel) ⟨Nat.le_of_ble_eq_true rfl, Nat.le_of_ble_eq_true rfl⟩ ⟨Nat.le_of_ble_eq_true rfl, Nat.le_of_ble_eq_true rfl⟩ hN 0 rfl rfl rfl ([]) ([]) rfl (fun _ => rfl) rfl (Nat.le_of_ble_eq_true rfl) rfl dX2_nextCount_91 (cells' := 0) (slots' := 0) rfl rfl (fun u hp => ?_)
          subst hp
          refine g_ws (ws' := wRd cI a_p ai_p o4.2.2.1 o9 a_objects a_toldObjects ++ wBy cI ai_p ai_row_p ai_row ai_size) rfl ?_
          refine g_lload_n F dX2_nextCount_94 rfl 3 rfl ?_
          subst hQ
          exact g_lret F hlocks hr (o4.2.2.1, o9) rfl (pr2 (Option.some.inj hf)) dX2_nextCount_95

/-! HeapImages$Reader.readObjectCount()V -/
def rm_X2_readObjectCount : Room := { frames := 3, cells := 0, slots := 0, locals := 67 }
theorem h_X2_readObjectCount_2 : ∀ w ∈ wsX20, w ∈ wsX2_readObjectCount := by decide +kernel
def f_X2_readObjectCount (a_place : Int32) (a_end : Int32) (a_objects : Int32) (ai_row : (Nat → Int32)) (ai_size : Int32) : Option (Int32 × Int32 × Int32) :=
  Option.bind (f_X2_nextCount a_place a_end ai_row ai_size) fun o1 => if (lg_cmp o1.1 (256 : Int64)) ≤ 0 then some (o1.2.1, o1.2.2, (if (256 : Int64) < o1.1 then (256 : Int64) else o1.1).toInt32) else Option.bind (f_X2_endAt o1.2.2 a_place) fun o2 => some (o1.2.1, o2, (if (256 : Int64) < o1.1 then (256 : Int64) else o1.1).toInt32)
set_option maxHeartbeats 4000000 in
set_option maxRecDepth 100000 in
theorem c_X2_readObjectCount (l : Launch) (dC : Nat → ClassId) (dI : Nat → Nat → Nat) (cI cJ cH : ClassId) (a_p ai_p ai_row_p : Nat)  (a_place : Int32) (a_end : Int32) (a_objects : Int32) (a_toldObjects : Int32) (ai_row : (Nat → Int32)) (ai_size : Int32)  (o : (Int32 × Int32 × Int32)) (hf : f_X2_readObjectCount a_place a_end a_objects ai_row ai_size = some o) : ∀ sz : Nat, Met l yX2_readObjectCount wsX2_readObjectCount rm_X2_readObjectCount (gPre [.ref a_p] (dC, dI) vwCl (gT cI cJ cH) (wRd cI a_p ai_p a_place a_end a_objects a_toldObjects ++ wBy cI ai_p ai_row_p ai_row ai_size) sz) (va_Qv (fun (u : (Int32 × Int32 × Int32)) => o = u) (gB (dC, dI) vwCl (gT cI cJ cH) (fun (u : (Int32 × Int32 × Int32)) => wRd cI a_p ai_p u.1 u.2.1 u.2.2 a_toldObjects ++ wBy cI ai_p ai_row_p ai_row ai_size) (va_A (wRd cI a_p ai_p a_place a_end a_objects a_toldObjects ++ wBy cI ai_p ai_row_p ai_row ai_size) sz)) (va_A (wRd cI a_p ai_p a_place a_end a_objects a_toldObjects ++ wBy cI ai_p ai_row_p ai_row ai_size) sz)) 0 0 (va_A (wRd cI a_p ai_p a_place a_end a_objects a_toldObjects ++ wBy cI ai_p ai_row_p ai_row ai_size) sz) := by
  refine g_met (fun A => va_Qv (fun (u : (Int32 × Int32 × Int32)) => o = u) (gB (dC, dI) vwCl (gT cI cJ cH) (fun (u : (Int32 × Int32 × Int32)) => wRd cI a_p ai_p u.1 u.2.1 u.2.2 a_toldObjects ++ wBy cI ai_p ai_row_p ai_row ai_size) A) A) (by decide) rfl (Nat.le_of_ble_eq_true rfl) ?_
  intro p e s m args below meth c A Q F hlocks hr hname hN hQ
  unfold f_X2_readObjectCount at hf
  refine g_lvE (lv' := [(0, .ref a_p)]) rfl ?_
  refine g_aload_n F dX2_readObjectCount_0 rfl 0 rfl ?_
  refine g_get F h_X2_readObjectCount_2 0 rfl rfl 1 (by decide) (by decide +kernel) rfl dX2_readObjectCount_1 ?_
  refine g_istore_n (lv' := [(1, .int a_place), (0, .ref a_p)]) F dX2_readObjectCount_4 rfl (by decide) rfl ?_
  refine g_aload_n F dX2_readObjectCount_5 rfl 1 rfl ?_
  obtain ⟨o1, ho1, hf⟩ := bnE hf
  refine g_callVl (n := 0) (As := []) F (c_X2_nextCount l dC dI cI cJ cH a_p ai_p ai_row_p a_place a_end a_objects a_toldObjects ai_row ai_size o1 ho1) ggX2_readObjectCount_X2_nextCount rfl rfl rfl (by decide +kernel) (by decide +kernel) (by decide +kernel) (by decide +kernel) (by decide +kernel) ⟨Nat.le_of_ble_eq_true rfl, Nat.le_of_ble_eq_true rfl⟩ ⟨Nat.le_of_ble_eq_true rfl, Nat.le_of_ble_eq_true rfl⟩ hN 0 rfl rfl rfl [0, 1, 2] rfl rfl (fun _ => rfl) rfl (Nat.le_of_ble_eq_true rfl) rfl dX2_readObjectCount_6 (cells' := 0) (slots' := 0) rfl rfl (fun r u hp => ?_)
  obtain ⟨hp1, hp2⟩ := hp
  subst hp1
  subst hp2
  refine g_ws (ws' := wRd cI a_p ai_p o1.2.1 o1.2.2 a_objects a_toldObjects ++ wBy cI ai_p ai_row_p ai_row ai_size) rfl ?_
  refine g_lstore_n (lv' := [(2, .long o1.1), (1, .int a_place), (0, .ref a_p)]) F dX2_readObjectCount_9 rfl (by decide) rfl ?_
  refine g_lload_n F dX2_readObjectCount_10 rfl 0 rfl ?_
  refine g_ldc2 (v := 256) F (by decide +kernel) dX2_readObjectCount_11 ?_
  refine g_lcmp F dX2_readObjectCount_14 ?_
  refine g_if_le (tgt := 23) F dX2_readObjectCount_15 (by decide) (fun c15 => ?_) (fun c15 => ?_)
  · have hf := iteT hf c15
    refine g_aload_n F dX2_readObjectCount_23 rfl 2 rfl ?_
    refine g_lload_n F dX2_readObjectCount_24 rfl 0 rfl ?_
    refine g_ldc2 (v := 256) F (by decide +kernel) dX2_readObjectCount_25 ?_
    refine g_minL F (by decide +kernel) (by decide +kernel) (by decide +kernel) (by decide +kernel) dX2_readObjectCount_28 (Nat.le_of_ble_eq_true rfl) (Nat.le_of_ble_eq_true rfl) ⟨Nat.le_of_ble_eq_true rfl, Nat.le_of_ble_eq_true rfl⟩ ?_
    refine g_l2i F dX2_readObjectCount_31 ?_
    refine g_put F h_X2_readObjectCount_2 tyX2 tyX2_ok nmX2 0 rfl rfl 3 (by decide) (by decide +kernel) rfl rfl rfl (Nat.le_of_ble_eq_true rfl) dX2_readObjectCount_32 (ws' := wRd cI a_p ai_p o1.2.1 o1.2.2 ((if (256 : Int64) < o1.1 then (256 : Int64) else o1.1).toInt32) a_toldObjects ++ wBy cI ai_p ai_row_p ai_row ai_size) rfl ?_
    subst hQ
    exact g_vret F hlocks hr (o1.2.1, o1.2.2, (if (256 : Int64) < o1.1 then (256 : Int64) else o1.1).toInt32) rfl (Option.some.inj hf).symm dX2_readObjectCount_35
  · have hf := iteF hf c15
    refine g_aload_n F dX2_readObjectCount_18 rfl 2 rfl ?_
    refine g_iload_n F dX2_readObjectCount_19 rfl 1 rfl ?_
    obtain ⟨o2, ho2, hf⟩ := bnE hf
    refine g_callPv (n := 1) (As := [.int a_place]) F (c_X2_endAt l dC dI cI cJ cH a_p ai_p ai_row_p o1.2.1 o1.2.2 a_objects a_toldObjects ai_row ai_size a_place o2 ho2) ggX2_readObjectCount_X2_endAt rfl rfl rfl (by decide +kernel) (by decide +kernel) (by decide +kernel) (by decide +kernel) (by decide +kernel) ⟨Nat.le_of_ble_eq_true rfl, Nat.le_of_ble_eq_true rfl⟩ ⟨Nat.le_of_ble_eq_true rfl, Nat.le_of_ble_eq_true rfl⟩ hN 0 rfl rfl rfl ([]) ([]) rfl (fun _ => rfl) rfl (Nat.le_of_ble_eq_true rfl) rfl dX2_readObjectCount_20 (cells' := 0) (slots' := 0) rfl rfl (fun u hp => ?_)
    subst hp
    refine g_ws (ws' := wRd cI a_p ai_p o1.2.1 o2 a_objects a_toldObjects ++ wBy cI ai_p ai_row_p ai_row ai_size) rfl ?_
    refine g_aload_n F dX2_readObjectCount_23 rfl 2 rfl ?_
    refine g_lload_n F dX2_readObjectCount_24 rfl 0 rfl ?_
    refine g_ldc2 (v := 256) F (by decide +kernel) dX2_readObjectCount_25 ?_
    refine g_minL F (by decide +kernel) (by decide +kernel) (by decide +kernel) (by decide +kernel) dX2_readObjectCount_28 (Nat.le_of_ble_eq_true rfl) (Nat.le_of_ble_eq_true rfl) ⟨Nat.le_of_ble_eq_true rfl, Nat.le_of_ble_eq_true rfl⟩ ?_
    refine g_l2i F dX2_readObjectCount_31 ?_
    refine g_put F h_X2_readObjectCount_2 tyX2 tyX2_ok nmX2 0 rfl rfl 3 (by decide) (by decide +kernel) rfl rfl rfl (Nat.le_of_ble_eq_true rfl) dX2_readObjectCount_32 (ws' := wRd cI a_p ai_p o1.2.1 o2 ((if (256 : Int64) < o1.1 then (256 : Int64) else o1.1).toInt32) a_toldObjects ++ wBy cI ai_p ai_row_p ai_row ai_size) rfl ?_
    subst hQ
    exact g_vret F hlocks hr (o1.2.1, o2, (if (256 : Int64) < o1.1 then (256 : Int64) else o1.1).toInt32) rfl (Option.some.inj hf).symm dX2_readObjectCount_35

/-! HeapImages$Reader.goesOn()Z -/
def rm_X2_goesOn : Room := { frames := 0, cells := 0, slots := 0, locals := 0 }
theorem h_X2_goesOn_2 : ∀ w ∈ wsX20, w ∈ wsX2_goesOn := by decide +kernel
def f_X2_goesOn (a_end : Int32) : Option Int32 :=
  if a_end = (-1 : Int32) then some (1 : Int32) else some (0 : Int32)
set_option maxHeartbeats 4000000 in
set_option maxRecDepth 100000 in
theorem c_X2_goesOn (l : Launch) (dC : Nat → ClassId) (dI : Nat → Nat → Nat) (cI cJ cH : ClassId) (a_p ai_p ai_row_p : Nat)  (a_place : Int32) (a_end : Int32) (a_objects : Int32) (a_toldObjects : Int32) (ai_row : (Nat → Int32)) (ai_size : Int32)  (o : Int32) (hf : f_X2_goesOn a_end = some o) : ∀ sz : Nat, Met l yX2_goesOn wsX2_goesOn rm_X2_goesOn (gPre [.ref a_p] (dC, dI) vwCl (gT cI cJ cH) (wRd cI a_p ai_p a_place a_end a_objects a_toldObjects ++ wBy cI ai_p ai_row_p ai_row ai_size) sz) (va_Qi (fun (r : Int32) (u : Unit) => o = r) (gB (dC, dI) vwCl (gT cI cJ cH) (fun (u : Unit) => wRd cI a_p ai_p a_place a_end a_objects a_toldObjects ++ wBy cI ai_p ai_row_p ai_row ai_size) (va_A (wRd cI a_p ai_p a_place a_end a_objects a_toldObjects ++ wBy cI ai_p ai_row_p ai_row ai_size) sz)) (va_A (wRd cI a_p ai_p a_place a_end a_objects a_toldObjects ++ wBy cI ai_p ai_row_p ai_row ai_size) sz)) 0 0 (va_A (wRd cI a_p ai_p a_place a_end a_objects a_toldObjects ++ wBy cI ai_p ai_row_p ai_row ai_size) sz) := by
  refine g_met (fun A => va_Qi (fun (r : Int32) (u : Unit) => o = r) (gB (dC, dI) vwCl (gT cI cJ cH) (fun (u : Unit) => wRd cI a_p ai_p a_place a_end a_objects a_toldObjects ++ wBy cI ai_p ai_row_p ai_row ai_size) A) A) (by decide) rfl (Nat.le_of_ble_eq_true rfl) ?_
  intro p e s m args below meth c A Q F hlocks hr hname hN hQ
  unfold f_X2_goesOn at hf
  refine g_lvE (lv' := [(0, .ref a_p)]) rfl ?_
  refine g_aload_n F dX2_goesOn_0 rfl 0 rfl ?_
  refine g_get F h_X2_goesOn_2 0 rfl rfl 2 (by decide) (by decide +kernel) rfl dX2_goesOn_1 ?_
  refine g_iconst (v := -1) F dX2_goesOn_4 rfl ?_
  refine g_icmp_ne (tgt := 12) F dX2_goesOn_5 (by decide) (fun c5 => ?_) (fun c5 => ?_)
  · have hf := iteF hf c5
    refine g_iconst (v := 0) F dX2_goesOn_12 rfl ?_
    subst hQ
    exact g_zret F hlocks hr rfl () rfl (Option.some.inj hf).symm dX2_goesOn_13
  · have hf := iteT hf c5
    refine g_iconst (v := 1) F dX2_goesOn_8 rfl ?_
    refine g_goto (tgt := 13) F dX2_goesOn_9 (by decide) ?_
    subst hQ
    exact g_zret F hlocks hr rfl () rfl (Option.some.inj hf).symm dX2_goesOn_13

/-! HeapImages$Reader.tellsObject(J)Z -/
def rm_X2_tellsObject : Room := { frames := 0, cells := 0, slots := 0, locals := 0 }
theorem h_X2_tellsObject_2 : ∀ w ∈ wsX20, w ∈ wsX2_tellsObject := by decide +kernel
def f_X2_tellsObject (a_objects : Int32) (a_toldObjects : Int32) (x1 : Int64) : Option (Int32 × Int32) :=
  if (lg_cmp x1 (0 : Int64)) = 0 then some ((1 : Int32), a_toldObjects) else nm ((x1 / (2 : Int64)) - (1 : Int64)) fun v1 => if 0 < (lg_cmp v1 a_toldObjects.toInt64) then some ((0 : Int32), a_toldObjects) else if (lg_cmp v1 a_objects.toInt64) < 0 then if (lg_cmp v1 a_toldObjects.toInt64) = 0 then some ((1 : Int32), a_toldObjects + (1 : Int32)) else some ((1 : Int32), a_toldObjects) else some ((0 : Int32), a_toldObjects)
set_option maxHeartbeats 4000000 in
set_option maxRecDepth 100000 in
theorem c_X2_tellsObject (l : Launch) (dC : Nat → ClassId) (dI : Nat → Nat → Nat) (cI cJ cH : ClassId) (a_p ai_p ai_row_p : Nat)  (a_place : Int32) (a_end : Int32) (a_objects : Int32) (a_toldObjects : Int32) (ai_row : (Nat → Int32)) (ai_size : Int32) (x1 : Int64) (o : (Int32 × Int32)) (hf : f_X2_tellsObject a_objects a_toldObjects x1 = some o) : ∀ sz : Nat, Met l yX2_tellsObject wsX2_tellsObject rm_X2_tellsObject (gPre [.ref a_p, .long x1] (dC, dI) vwCl (gT cI cJ cH) (wRd cI a_p ai_p a_place a_end a_objects a_toldObjects ++ wBy cI ai_p ai_row_p ai_row ai_size) sz) (va_Qi (fun (r : Int32) (u : Int32) => o.1 = r ∧ o.2 = u) (gB (dC, dI) vwCl (gT cI cJ cH) (fun (u : Int32) => wRd cI a_p ai_p a_place a_end a_objects u ++ wBy cI ai_p ai_row_p ai_row ai_size) (va_A (wRd cI a_p ai_p a_place a_end a_objects a_toldObjects ++ wBy cI ai_p ai_row_p ai_row ai_size) sz)) (va_A (wRd cI a_p ai_p a_place a_end a_objects a_toldObjects ++ wBy cI ai_p ai_row_p ai_row ai_size) sz)) 0 0 (va_A (wRd cI a_p ai_p a_place a_end a_objects a_toldObjects ++ wBy cI ai_p ai_row_p ai_row ai_size) sz) := by
  refine g_met (fun A => va_Qi (fun (r : Int32) (u : Int32) => o.1 = r ∧ o.2 = u) (gB (dC, dI) vwCl (gT cI cJ cH) (fun (u : Int32) => wRd cI a_p ai_p a_place a_end a_objects u ++ wBy cI ai_p ai_row_p ai_row ai_size) A) A) (by decide) rfl (Nat.le_of_ble_eq_true rfl) ?_
  intro p e s m args below meth c A Q F hlocks hr hname hN hQ
  unfold f_X2_tellsObject at hf
  refine g_lvE (lv' := [(0, .ref a_p), (1, .long x1)]) rfl ?_
  refine g_lload_n F dX2_tellsObject_0 rfl 1 rfl ?_
  refine g_lconst (v := 0) F dX2_tellsObject_1 rfl ?_
  refine g_lcmp F dX2_tellsObject_2 ?_
  refine g_if_ne (tgt := 8) F dX2_tellsObject_3 (by decide) (fun c3 => ?_) (fun c3 => ?_)
  · have hf := iteF hf c3
    refine g_lload_n F dX2_tellsObject_8 rfl 1 rfl ?_
    refine g_ldc2 (v := 2) F (by decide +kernel) dX2_tellsObject_9 ?_
    refine g_ldiv F dX2_tellsObject_12 (by decide) ?_
    refine g_lconst (v := 1) F dX2_tellsObject_13 rfl ?_
    refine g_lsub F dX2_tellsObject_14 ?_
    obtain ⟨v1, ev1, hf⟩ := nmE hf
    refine g_nml ev1 ?_
    refine g_lstore_n (lv' := [(3, .long v1), (0, .ref a_p), (1, .long x1)]) F dX2_tellsObject_15 rfl (by decide) rfl ?_
    refine g_lload_n F dX2_tellsObject_16 rfl 0 rfl ?_
    refine g_aload_n F dX2_tellsObject_17 rfl 1 rfl ?_
    refine g_get F h_X2_tellsObject_2 0 rfl rfl 4 (by decide) (by decide +kernel) rfl dX2_tellsObject_18 ?_
    refine g_i2l F dX2_tellsObject_21 ?_
    refine g_lcmp F dX2_tellsObject_22 ?_
    refine g_if_gt (tgt := 36) F dX2_tellsObject_23 (by decide) (fun c23 => ?_) (fun c23 => ?_)
    · have hf := iteT hf c23
      refine g_iconst (v := 0) F dX2_tellsObject_36 rfl ?_
      subst hQ
      exact g_zret F hlocks hr rfl a_toldObjects rfl (pr2 (Option.some.inj hf)) dX2_tellsObject_37
    · have hf := iteF hf c23
      refine g_lload_n F dX2_tellsObject_26 rfl 0 rfl ?_
      refine g_aload_n F dX2_tellsObject_27 rfl 1 rfl ?_
      refine g_get F h_X2_tellsObject_2 0 rfl rfl 3 (by decide) (by decide +kernel) rfl dX2_tellsObject_28 ?_
      refine g_i2l F dX2_tellsObject_31 ?_
      refine g_lcmp F dX2_tellsObject_32 ?_
      refine g_if_lt (tgt := 38) F dX2_tellsObject_33 (by decide) (fun c33 => ?_) (fun c33 => ?_)
      · have hf := iteT hf c33
        refine g_lload_n F dX2_tellsObject_38 rfl 0 rfl ?_
        refine g_aload_n F dX2_tellsObject_39 rfl 1 rfl ?_
        refine g_get F h_X2_tellsObject_2 0 rfl rfl 4 (by decide) (by decide +kernel) rfl dX2_tellsObject_40 ?_
        refine g_i2l F dX2_tellsObject_43 ?_
        refine g_lcmp F dX2_tellsObject_44 ?_
        refine g_if_ne (tgt := 58) F dX2_tellsObject_45 (by decide) (fun c45 => ?_) (fun c45 => ?_)
        · have hf := iteF hf c45
          refine g_iconst (v := 1) F dX2_tellsObject_58 rfl ?_
          subst hQ
          exact g_zret F hlocks hr rfl a_toldObjects rfl (pr2 (Option.some.inj hf)) dX2_tellsObject_59
        · have hf := iteT hf c45
          refine g_aload_n F dX2_tellsObject_48 rfl 1 rfl ?_
          refine g_dup F dX2_tellsObject_49 rfl ?_
          refine g_get F h_X2_tellsObject_2 0 rfl rfl 4 (by decide) (by decide +kernel) rfl dX2_tellsObject_50 ?_
          refine g_iconst (v := 1) F dX2_tellsObject_53 rfl ?_
          refine g_iadd F dX2_tellsObject_54 ?_
          refine g_put F h_X2_tellsObject_2 tyX2 tyX2_ok nmX2 0 rfl rfl 4 (by decide) (by decide +kernel) rfl rfl rfl (Nat.le_of_ble_eq_true rfl) dX2_tellsObject_55 (ws' := wRd cI a_p ai_p a_place a_end a_objects (a_toldObjects + (1 : Int32)) ++ wBy cI ai_p ai_row_p ai_row ai_size) rfl ?_
          refine g_iconst (v := 1) F dX2_tellsObject_58 rfl ?_
          subst hQ
          exact g_zret F hlocks hr rfl (a_toldObjects + (1 : Int32)) rfl (pr2 (Option.some.inj hf)) dX2_tellsObject_59
      · have hf := iteF hf c33
        refine g_iconst (v := 0) F dX2_tellsObject_36 rfl ?_
        subst hQ
        exact g_zret F hlocks hr rfl a_toldObjects rfl (pr2 (Option.some.inj hf)) dX2_tellsObject_37
  · have hf := iteT hf c3
    refine g_iconst (v := 1) F dX2_tellsObject_6 rfl ?_
    subst hQ
    exact g_zret F hlocks hr rfl a_toldObjects rfl (pr2 (Option.some.inj hf)) dX2_tellsObject_7

/-! HeapImages$Reader.numberOf(J)I -/
def rm_X2_numberOf : Room := { frames := 0, cells := 0, slots := 0, locals := 0 }
def f_X2_numberOf (x0 : Int64) : Option Int32 :=
  nm ((x0 >>> ((2 : Int32).toInt64 &&& 63)).toInt32) fun v1 => if (lg_cmp (x0 &&& (3 : Int64)) (1 : Int64)) = 0 then some (((2 : Int32) * v1) + (1 : Int32)) else nm ((-1 : Int32) - v1) fun v2 => some (((2 : Int32) * v2) + (1 : Int32))
set_option maxHeartbeats 4000000 in
set_option maxRecDepth 100000 in
theorem c_X2_numberOf (l : Launch) (dC : Nat → ClassId) (dI : Nat → Nat → Nat) (cI cJ cH : ClassId)    (x0 : Int64) (o : Int32) (hf : f_X2_numberOf x0 = some o) : ∀ sz : Nat, Met l yX2_numberOf wsX2_numberOf rm_X2_numberOf (gPre [.long x0] (dC, dI) vwCl (gT cI cJ cH) ([]) sz) (va_Qi (fun (r : Int32) (u : Unit) => o = r) (gB (dC, dI) vwCl (gT cI cJ cH) (fun (u : Unit) => []) (va_A ([]) sz)) (va_A ([]) sz)) 0 0 (va_A ([]) sz) := by
  refine g_met (fun A => va_Qi (fun (r : Int32) (u : Unit) => o = r) (gB (dC, dI) vwCl (gT cI cJ cH) (fun (u : Unit) => []) A) A) (by decide) rfl (Nat.le_of_ble_eq_true rfl) ?_
  intro p e s m args below meth c A Q F hlocks hr hname hN hQ
  unfold f_X2_numberOf at hf
  refine g_lvE (lv' := [(0, .long x0)]) rfl ?_
  refine g_lload_n F dX2_numberOf_0 rfl 0 rfl ?_
  refine g_iconst (v := 2) F dX2_numberOf_1 rfl ?_
  refine g_lshr F dX2_numberOf_2 ?_
  refine g_l2i F dX2_numberOf_3 ?_
  obtain ⟨v1, ev1, hf⟩ := nmE hf
  refine g_nmi ev1 ?_
  refine g_istore_n (lv' := [(2, .int v1), (0, .long x0)]) F dX2_numberOf_4 rfl (by decide) rfl ?_
  refine g_lload_n F dX2_numberOf_5 rfl 1 rfl ?_
  refine g_ldc2 (v := 3) F (by decide +kernel) dX2_numberOf_6 ?_
  refine g_land F dX2_numberOf_9 ?_
  refine g_lconst (v := 1) F dX2_numberOf_10 rfl ?_
  refine g_lcmp F dX2_numberOf_11 ?_
  refine g_if_ne (tgt := 19) F dX2_numberOf_12 (by decide) (fun c12 => ?_) (fun c12 => ?_)
  · have hf := iteF hf c12
    refine g_iconst (v := -1) F dX2_numberOf_19 rfl ?_
    refine g_iload_n F dX2_numberOf_20 rfl 0 rfl ?_
    refine g_isub F dX2_numberOf_21 ?_
    obtain ⟨v2, ev2, hf⟩ := nmE hf
    refine g_nmi ev2 ?_
    refine g_istore_n (lv' := [(3, .int v2), (2, .int v1), (0, .long x0)]) F dX2_numberOf_22 rfl (by decide) rfl ?_
    refine g_iconst (v := 2) F dX2_numberOf_23 rfl ?_
    refine g_iload_n F dX2_numberOf_24 rfl 0 rfl ?_
    refine g_imul F dX2_numberOf_25 ?_
    refine g_iconst (v := 1) F dX2_numberOf_26 rfl ?_
    refine g_iadd F dX2_numberOf_27 ?_
    subst hQ
    exact g_iret F hlocks hr () rfl (Option.some.inj hf).symm dX2_numberOf_28
  · have hf := iteT hf c12
    refine g_iload_n F dX2_numberOf_15 rfl 0 rfl ?_
    refine g_goto (tgt := 22) F dX2_numberOf_16 (by decide) ?_
    refine g_istore_n (lv' := [(3, .int v1), (2, .int v1), (0, .long x0)]) F dX2_numberOf_22 rfl (by decide) rfl ?_
    refine g_iconst (v := 2) F dX2_numberOf_23 rfl ?_
    refine g_iload_n F dX2_numberOf_24 rfl 0 rfl ?_
    refine g_imul F dX2_numberOf_25 ?_
    refine g_iconst (v := 1) F dX2_numberOf_26 rfl ?_
    refine g_iadd F dX2_numberOf_27 ?_
    subst hQ
    exact g_iret F hlocks hr () rfl (Option.some.inj hf).symm dX2_numberOf_28

/-! HeapImages$Reader.nextValue(ZZ)I -/
def rm_X2_nextValue : Room := { frames := 3, cells := 0, slots := 0, locals := 67 }
theorem h_X2_nextValue_2 : ∀ w ∈ wsX20, w ∈ wsX2_nextValue := by decide +kernel
def f_X2_nextValue (a_place : Int32) (a_end : Int32) (a_objects : Int32) (a_toldObjects : Int32) (ai_row : (Nat → Int32)) (ai_size : Int32) (x1 : Int32) (x2 : Int32) : Option (Int32 × Int32 × Int32 × Int32) :=
  Option.bind (f_X2_nextCount a_place a_end ai_row ai_size) fun o1 => Option.bind (α := Int32) (if (lg_cmp (o1.1 &&& (1 : Int64)) (0 : Int64)) = 0 then some (0 : Int32) else some (1 : Int32)) fun j2 => Option.bind (α := (Int32 × Int32)) (if j2 = 0 then if x1 = 0 then some ((0 : Int32), a_toldObjects) else Option.bind (f_X2_tellsObject a_objects a_toldObjects o1.1) fun o8 => if o8.1 = 0 then some ((0 : Int32), o8.2) else some ((1 : Int32), o8.2) else if x2 = 0 then some ((0 : Int32), a_toldObjects) else if 0 ≤ (lg_cmp o1.1 (4294967296 : Int64)) then some ((0 : Int32), a_toldObjects) else some ((1 : Int32), a_toldObjects)) fun j3 => Option.bind (α := Int32) (if j3.1 = 0 then Option.bind (f_X2_endAt o1.2.2 a_place) fun o7 => some o7 else some o1.2.2) fun j4 => Option.bind (f_X2_goesOn j4) fun o5 => if o5 = 0 then some ((0 : Int32), o1.2.1, j4, j3.2) else if j2 = 0 then some (o1.1.toInt32, o1.2.1, j4, j3.2) else Option.bind (f_X2_numberOf o1.1) fun o6 => some (o6, o1.2.1, j4, j3.2)
set_option maxHeartbeats 4000000 in
set_option maxRecDepth 100000 in
theorem c_X2_nextValue (l : Launch) (dC : Nat → ClassId) (dI : Nat → Nat → Nat) (cI cJ cH : ClassId) (a_p ai_p ai_row_p : Nat)  (a_place : Int32) (a_end : Int32) (a_objects : Int32) (a_toldObjects : Int32) (ai_row : (Nat → Int32)) (ai_size : Int32) (x1 : Int32) (x2 : Int32) (o : (Int32 × Int32 × Int32 × Int32)) (hf : f_X2_nextValue a_place a_end a_objects a_toldObjects ai_row ai_size x1 x2 = some o) : ∀ sz : Nat, Met l yX2_nextValue wsX2_nextValue rm_X2_nextValue (gPre [.ref a_p, .int x1, .int x2] (dC, dI) vwCl (gT cI cJ cH) (wRd cI a_p ai_p a_place a_end a_objects a_toldObjects ++ wBy cI ai_p ai_row_p ai_row ai_size) sz) (va_Qi (fun (r : Int32) (u : (Int32 × Int32 × Int32)) => o.1 = r ∧ o.2 = u) (gB (dC, dI) vwCl (gT cI cJ cH) (fun (u : (Int32 × Int32 × Int32)) => wRd cI a_p ai_p u.1 u.2.1 a_objects u.2.2 ++ wBy cI ai_p ai_row_p ai_row ai_size) (va_A (wRd cI a_p ai_p a_place a_end a_objects a_toldObjects ++ wBy cI ai_p ai_row_p ai_row ai_size) sz)) (va_A (wRd cI a_p ai_p a_place a_end a_objects a_toldObjects ++ wBy cI ai_p ai_row_p ai_row ai_size) sz)) 0 0 (va_A (wRd cI a_p ai_p a_place a_end a_objects a_toldObjects ++ wBy cI ai_p ai_row_p ai_row ai_size) sz) := by
  refine g_met (fun A => va_Qi (fun (r : Int32) (u : (Int32 × Int32 × Int32)) => o.1 = r ∧ o.2 = u) (gB (dC, dI) vwCl (gT cI cJ cH) (fun (u : (Int32 × Int32 × Int32)) => wRd cI a_p ai_p u.1 u.2.1 a_objects u.2.2 ++ wBy cI ai_p ai_row_p ai_row ai_size) A) A) (by decide) rfl (Nat.le_of_ble_eq_true rfl) ?_
  intro p e s m args below meth c A Q F hlocks hr hname hN hQ
  unfold f_X2_nextValue at hf
  refine g_lvE (lv' := [(0, .ref a_p), (1, .int x1), (2, .int x2)]) rfl ?_
  refine g_aload_n F dX2_nextValue_0 rfl 0 rfl ?_
  refine g_get F h_X2_nextValue_2 0 rfl rfl 1 (by decide) (by decide +kernel) rfl dX2_nextValue_1 ?_
  refine g_istore_n (lv' := [(3, .int a_place), (0, .ref a_p), (1, .int x1), (2, .int x2)]) F dX2_nextValue_4 rfl (by decide) rfl ?_
  refine g_aload_n F dX2_nextValue_5 rfl 1 rfl ?_
  obtain ⟨o1, ho1, hf⟩ := bnE hf
  refine g_callVl (n := 0) (As := []) F (c_X2_nextCount l dC dI cI cJ cH a_p ai_p ai_row_p a_place a_end a_objects a_toldObjects ai_row ai_size o1 ho1) ggX2_nextValue_X2_nextCount rfl rfl rfl (by decide +kernel) (by decide +kernel) (by decide +kernel) (by decide +kernel) (by decide +kernel) ⟨Nat.le_of_ble_eq_true rfl, Nat.le_of_ble_eq_true rfl⟩ ⟨Nat.le_of_ble_eq_true rfl, Nat.le_of_ble_eq_true rfl⟩ hN 0 rfl rfl rfl [0, 1, 2] rfl rfl (fun _ => rfl) rfl (Nat.le_of_ble_eq_true rfl) rfl dX2_nextValue_6 (cells' := 0) (slots' := 0) rfl rfl (fun r u hp => ?_)
  obtain ⟨hp1, hp2⟩ := hp
  subst hp1
  subst hp2
  refine g_ws (ws' := wRd cI a_p ai_p o1.2.1 o1.2.2 a_objects a_toldObjects ++ wBy cI ai_p ai_row_p ai_row ai_size) rfl ?_
  refine g_lstore (lv' := [(4, .long o1.1), (3, .int a_place), (0, .ref a_p), (1, .int x1), (2, .int x2)]) F dX2_nextValue_9 (by decide) rfl ?_
  refine g_lload F dX2_nextValue_11 0 rfl ?_
  refine g_lconst (v := 1) F dX2_nextValue_13 rfl ?_
  refine g_land F dX2_nextValue_14 ?_
  refine g_lconst (v := 0) F dX2_nextValue_15 rfl ?_
  refine g_lcmp F dX2_nextValue_16 ?_
  obtain ⟨j2, hj2, hf⟩ := bnE hf
  have Kj2 : gW p l e rm_X2_nextValue s m args below meth c 0 0 Q (dC, dI) vwCl A 8 (wRd cI a_p ai_p o1.2.1 o1.2.2 a_objects a_toldObjects ++ wBy cI ai_p ai_row_p ai_row ai_size) [(0, .ref a_p), (1, .int x1), (2, .int x2), (3, .int a_place), (4, .long o1.1)] 25 [.int j2] := by
    refine g_istore (lv' := [(6, .int j2), (0, .ref a_p), (1, .int x1), (2, .int x2), (3, .int a_place), (4, .long o1.1)]) F dX2_nextValue_25 (by decide) rfl ?_
    refine g_iload F dX2_nextValue_27 0 rfl ?_
    obtain ⟨j3, hj3, hf⟩ := bnE hf
    have Kj3 : gW p l e rm_X2_nextValue s m args below meth c 0 0 Q (dC, dI) vwCl A 8 (wRd cI a_p ai_p o1.2.1 o1.2.2 a_objects j3.2 ++ wBy cI ai_p ai_row_p ai_row ai_size) [(0, .ref a_p), (3, .int a_place), (4, .long o1.1), (6, .int j2)] 71 [.int j3.1] := by
      refine g_istore (lv' := [(7, .int j3.1), (0, .ref a_p), (3, .int a_place), (4, .long o1.1), (6, .int j2)]) F dX2_nextValue_71 (by decide) rfl ?_
      refine g_iload F dX2_nextValue_73 0 rfl ?_
      obtain ⟨j4, hj4, hf⟩ := bnE hf
      have Kj4 : gW p l e rm_X2_nextValue s m args below meth c 0 0 Q (dC, dI) vwCl A 8 (wRd cI a_p ai_p o1.2.1 j4 a_objects j3.2 ++ wBy cI ai_p ai_row_p ai_row ai_size) [(0, .ref a_p), (4, .long o1.1), (6, .int j2)] 83 [] := by
        refine g_aload_n F dX2_nextValue_83 rfl 0 rfl ?_
        obtain ⟨o5, ho5, hf⟩ := bnE hf
        refine g_callPi (n := 0) (As := []) F (c_X2_goesOn l dC dI cI cJ cH a_p ai_p ai_row_p o1.2.1 j4 a_objects j3.2 ai_row ai_size o5 ho5) ggX2_nextValue_X2_goesOn rfl rfl rfl (by decide +kernel) (by decide +kernel) (by decide +kernel) (by decide +kernel) (by decide +kernel) ⟨Nat.le_of_ble_eq_true rfl, Nat.le_of_ble_eq_true rfl⟩ ⟨Nat.le_of_ble_eq_true rfl, Nat.le_of_ble_eq_true rfl⟩ hN 0 rfl rfl rfl ([]) ([]) rfl (fun _ => rfl) rfl (Nat.le_of_ble_eq_true rfl) rfl dX2_nextValue_84 (cells' := 0) (slots' := 0) rfl rfl (fun r u hp => ?_)
        subst hp
        refine g_ws (ws' := wRd cI a_p ai_p o1.2.1 j4 a_objects j3.2 ++ wBy cI ai_p ai_row_p ai_row ai_size) rfl ?_
        refine g_if_ne (tgt := 92) F dX2_nextValue_87 (by decide) (fun c87 => ?_) (fun c87 => ?_)
        · have hf := iteF hf c87
          refine g_iload F dX2_nextValue_92 2 rfl ?_
          refine g_if_eq (tgt := 105) F dX2_nextValue_94 (by decide) (fun c94 => ?_) (fun c94 => ?_)
          · have hf := iteT hf c94
            refine g_lload F dX2_nextValue_105 1 rfl ?_
            refine g_l2i F dX2_nextValue_107 ?_
            subst hQ
            exact g_iret F hlocks hr (o1.2.1, j4, j3.2) rfl (pr2 (Option.some.inj hf)) dX2_nextValue_108
          · have hf := iteF hf c94
            refine g_lload F dX2_nextValue_97 1 rfl ?_
            obtain ⟨o6, ho6, hf⟩ := bnE hf
            refine g_callSi (n := 1) (As := [.long o1.1]) F (c_X2_numberOf l dC dI cI cJ cH o1.1 o6 ho6) ggX2_nextValue_X2_numberOf rfl rfl rfl (by decide +kernel) (by decide +kernel) (by decide +kernel) (by decide +kernel) ⟨Nat.le_of_ble_eq_true rfl, Nat.le_of_ble_eq_true rfl⟩ ⟨Nat.le_of_ble_eq_true rfl, Nat.le_of_ble_eq_true rfl⟩ hN [] rfl rfl (fun _ => rfl) rfl (Nat.le_of_ble_eq_true rfl) rfl dX2_nextValue_99 (cells' := 0) (slots' := 0) rfl rfl (fun r u hp => ?_)
            subst hp
            refine g_ws (ws' := wRd cI a_p ai_p o1.2.1 j4 a_objects j3.2 ++ wBy cI ai_p ai_row_p ai_row ai_size) rfl ?_
            refine g_goto (tgt := 108) F dX2_nextValue_102 (by decide) ?_
            subst hQ
            exact g_iret F hlocks hr (o1.2.1, j4, j3.2) rfl (pr2 (Option.some.inj hf)) dX2_nextValue_108
        · have hf := iteT hf c87
          refine g_iconst (v := 0) F dX2_nextValue_90 rfl ?_
          subst hQ
          exact g_iret F hlocks hr (o1.2.1, j4, j3.2) rfl (pr2 (Option.some.inj hf)) dX2_nextValue_91
      clear hf
      have hf := hj4
      refine g_if_ne (tgt := 83) F dX2_nextValue_75 (by decide) (fun c75 => ?_) (fun c75 => ?_)
      · have hf := iteF hf c75
        cases hf
        refine g_lv [1, 3, 4] rfl ?_
        exact Kj4
      · have hf := iteT hf c75
        refine g_aload_n F dX2_nextValue_78 rfl 1 rfl ?_
        refine g_iload_n F dX2_nextValue_79 rfl 2 rfl ?_
        obtain ⟨o7, ho7, hf⟩ := bnE hf
        refine g_callPv (n := 1) (As := [.int a_place]) F (c_X2_endAt l dC dI cI cJ cH a_p ai_p ai_row_p o1.2.1 o1.2.2 a_objects j3.2 ai_row ai_size a_place o7 ho7) ggX2_nextValue_X2_endAt rfl rfl rfl (by decide +kernel) (by decide +kernel) (by decide +kernel) (by decide +kernel) (by decide +kernel) ⟨Nat.le_of_ble_eq_true rfl, Nat.le_of_ble_eq_true rfl⟩ ⟨Nat.le_of_ble_eq_true rfl, Nat.le_of_ble_eq_true rfl⟩ hN 0 rfl rfl rfl ([]) ([]) rfl (fun _ => rfl) rfl (Nat.le_of_ble_eq_true rfl) rfl dX2_nextValue_80 (cells' := 0) (slots' := 0) rfl rfl (fun u hp => ?_)
        subst hp
        refine g_ws (ws' := wRd cI a_p ai_p o1.2.1 o7 a_objects j3.2 ++ wBy cI ai_p ai_row_p ai_row ai_size) rfl ?_
        cases hf
        refine g_lv [1, 3, 4] rfl ?_
        exact Kj4
    clear hf
    have hf := hj3
    refine g_if_eq (tgt := 53) F dX2_nextValue_29 (by decide) (fun c29 => ?_) (fun c29 => ?_)
    · have hf := iteT hf c29
      refine g_iload_n F dX2_nextValue_53 rfl 2 rfl ?_
      refine g_if_eq (tgt := 70) F dX2_nextValue_54 (by decide) (fun c54 => ?_) (fun c54 => ?_)
      · have hf := iteT hf c54
        refine g_iconst (v := 0) F dX2_nextValue_70 rfl ?_
        cases hf
        refine g_lv [1, 4, 5, 0] rfl ?_
        exact Kj3
      · have hf := iteF hf c54
        refine g_aload_n F dX2_nextValue_57 rfl 1 rfl ?_
        refine g_lload F dX2_nextValue_58 5 rfl ?_
        obtain ⟨o8, ho8, hf⟩ := bnE hf
        refine g_callPi (n := 1) (As := [.long o1.1]) F (c_X2_tellsObject l dC dI cI cJ cH a_p ai_p ai_row_p o1.2.1 o1.2.2 a_objects a_toldObjects ai_row ai_size o1.1 o8 ho8) ggX2_nextValue_X2_tellsObject rfl rfl rfl (by decide +kernel) (by decide +kernel) (by decide +kernel) (by decide +kernel) (by decide +kernel) ⟨Nat.le_of_ble_eq_true rfl, Nat.le_of_ble_eq_true rfl⟩ ⟨Nat.le_of_ble_eq_true rfl, Nat.le_of_ble_eq_true rfl⟩ hN 0 rfl rfl rfl ([]) ([]) rfl (fun _ => rfl) rfl (Nat.le_of_ble_eq_true rfl) rfl dX2_nextValue_60 (cells' := 0) (slots' := 0) rfl rfl (fun r u hp => ?_)
        obtain ⟨hp1, hp2⟩ := hp
        subst hp1
        subst hp2
        refine g_ws (ws' := wRd cI a_p ai_p o1.2.1 o1.2.2 a_objects o8.2 ++ wBy cI ai_p ai_row_p ai_row ai_size) rfl ?_
        refine g_if_eq (tgt := 70) F dX2_nextValue_63 (by decide) (fun c63 => ?_) (fun c63 => ?_)
        · have hf := iteT hf c63
          refine g_iconst (v := 0) F dX2_nextValue_70 rfl ?_
          cases hf
          refine g_lv [1, 4, 5, 0] rfl ?_
          exact Kj3
        · have hf := iteF hf c63
          refine g_iconst (v := 1) F dX2_nextValue_66 rfl ?_
          refine g_goto (tgt := 71) F dX2_nextValue_67 (by decide) ?_
          cases hf
          refine g_lv [1, 4, 5, 0] rfl ?_
          exact Kj3
    · have hf := iteF hf c29
      refine g_iload_n F dX2_nextValue_32 rfl 3 rfl ?_
      refine g_if_eq (tgt := 49) F dX2_nextValue_33 (by decide) (fun c33 => ?_) (fun c33 => ?_)
      · have hf := iteT hf c33
        refine g_iconst (v := 0) F dX2_nextValue_49 rfl ?_
        refine g_goto (tgt := 71) F dX2_nextValue_50 (by decide) ?_
        cases hf
        refine g_lv [1, 4, 5, 0] rfl ?_
        exact Kj3
      · have hf := iteF hf c33
        refine g_lload F dX2_nextValue_36 5 rfl ?_
        refine g_ldc2 (v := 4294967296) F (by decide +kernel) dX2_nextValue_38 ?_
        refine g_lcmp F dX2_nextValue_41 ?_
        refine g_if_ge (tgt := 49) F dX2_nextValue_42 (by decide) (fun c42 => ?_) (fun c42 => ?_)
        · have hf := iteT hf c42
          refine g_iconst (v := 0) F dX2_nextValue_49 rfl ?_
          refine g_goto (tgt := 71) F dX2_nextValue_50 (by decide) ?_
          cases hf
          refine g_lv [1, 4, 5, 0] rfl ?_
          exact Kj3
        · have hf := iteF hf c42
          refine g_iconst (v := 1) F dX2_nextValue_45 rfl ?_
          refine g_goto (tgt := 71) F dX2_nextValue_46 (by decide) ?_
          cases hf
          refine g_lv [1, 4, 5, 0] rfl ?_
          exact Kj3
  clear hf
  have hf := hj2
  refine g_if_eq (tgt := 24) F dX2_nextValue_17 (by decide) (fun c17 => ?_) (fun c17 => ?_)
  · have hf := iteT hf c17
    refine g_iconst (v := 0) F dX2_nextValue_24 rfl ?_
    cases hf
    refine g_lv [2, 3, 4, 1, 0] rfl ?_
    exact Kj2
  · have hf := iteF hf c17
    refine g_iconst (v := 1) F dX2_nextValue_20 rfl ?_
    refine g_goto (tgt := 25) F dX2_nextValue_21 (by decide) ?_
    cases hf
    refine g_lv [2, 3, 4, 1, 0] rfl ?_
    exact Kj2

/-! HeapImages$Reader.readHead(LHeapImages$Heap;I)I -/
def rm_X2_readHead : Room := { frames := 3, cells := 0, slots := 0, locals := 67 }
theorem h_X2_readHead_2 : ∀ w ∈ wsX20, w ∈ wsX2_readHead := by decide +kernel
def f_X2_readHead (a_place : Int32) (a_end : Int32) (a_toldObjects : Int32) (ai_row : (Nat → Int32)) (ai_size : Int32) (b_words : (Nat → Int32)) (b_top : Int32) (x2 : Int32) : Option (Int32 × Int32 × Int32 × (Nat → Int32) × Int32) :=
  Option.bind (f_X2_nextCount a_place a_end ai_row ai_size) fun o1 => Option.bind (α := Int32) (if (lg_cmp o1.1 (1 : Int64)) < 0 then Option.bind (f_X2_endAt o1.2.2 a_place) fun o13 => some o13 else if 0 < (lg_cmp o1.1 (3 : Int64)) then Option.bind (f_X2_endAt o1.2.2 a_place) fun o14 => some o14 else if x2 < a_toldObjects then some o1.2.2 else Option.bind (f_X2_endAt o1.2.2 a_place) fun o15 => some o15) fun j2 => Option.bind (f_X2_nextCount o1.2.1 j2 ai_row ai_size) fun o3 => Option.bind (f_X3_mayHaveSlots o1.1 o3.1) fun o4 => Option.bind (α := Int32) (if o4 = 0 then Option.bind (f_X2_endAt o3.2.2 o1.2.1) fun o12 => some o12 else some o3.2.2) fun j5 => Option.bind (f_X2_goesOn j5) fun o6 => Option.bind (α := Int32) (if o6 = 0 then some j5 else Option.bind (f_X1_hasRoomFor b_top o3.1.toInt32) fun o10 => if o10 = 0 then Option.bind (f_X2_endAt j5 a_place) fun o11 => some o11 else some j5) fun j7 => Option.bind (f_X2_goesOn j7) fun o8 => if o8 = 0 then some ((-1 : Int32), o3.2.1, j7, b_words, b_top) else Option.bind (f_X1_append b_words b_top o1.1.toInt32 o3.1.toInt32) fun o9 => some (o9.1, o3.2.1, j7, o9.2.1, o9.2.2)
set_option maxHeartbeats 4000000 in
set_option maxRecDepth 100000 in
theorem c_X2_readHead (l : Launch) (dC : Nat → ClassId) (dI : Nat → Nat → Nat) (cI cJ cH : ClassId) (a_p ai_p ai_row_p b_p b_words_p b_roots_p b_heads_p b_marks_p b_order_p b_targets_p : Nat)  (a_place : Int32) (a_end : Int32) (a_objects : Int32) (a_toldObjects : Int32) (ai_row : (Nat → Int32)) (ai_size : Int32) (b_words : (Nat → Int32)) (b_roots : (Nat → Int32)) (b_base : Int32) (b_top : Int32) (b_heads : (Nat → Int32)) (b_objects : Int32) (b_marks : (Nat → Int32)) (b_order : (Nat → Int32)) (b_reached : Int32) (b_targets : (Nat → Int32)) (x2 : Int32) (o : (Int32 × Int32 × Int32 × (Nat → Int32) × Int32)) (hf : f_X2_readHead a_place a_end a_toldObjects ai_row ai_size b_words b_top x2 = some o) : ∀ sz : Nat, Met l yX2_readHead wsX2_readHead rm_X2_readHead (gPre [.ref a_p, .ref b_p, .int x2] (dC, dI) vwCl (gT cI cJ cH) (wRd cI a_p ai_p a_place a_end a_objects a_toldObjects ++ wBy cI ai_p ai_row_p ai_row ai_size ++ wHp cI b_p b_words_p b_roots_p b_heads_p b_marks_p b_order_p b_targets_p b_words b_roots b_base b_top b_heads b_objects b_marks b_order b_reached b_targets) sz) (va_Qi (fun (r : Int32) (u : (Int32 × Int32 × (Nat → Int32) × Int32)) => o.1 = r ∧ o.2 = u) (gB (dC, dI) vwCl (gT cI cJ cH) (fun (u : (Int32 × Int32 × (Nat → Int32) × Int32)) => wRd cI a_p ai_p u.1 u.2.1 a_objects a_toldObjects ++ wBy cI ai_p ai_row_p ai_row ai_size ++ wHp cI b_p b_words_p b_roots_p b_heads_p b_marks_p b_order_p b_targets_p u.2.2.1 b_roots b_base u.2.2.2 b_heads b_objects b_marks b_order b_reached b_targets) (va_A (wRd cI a_p ai_p a_place a_end a_objects a_toldObjects ++ wBy cI ai_p ai_row_p ai_row ai_size ++ wHp cI b_p b_words_p b_roots_p b_heads_p b_marks_p b_order_p b_targets_p b_words b_roots b_base b_top b_heads b_objects b_marks b_order b_reached b_targets) sz)) (va_A (wRd cI a_p ai_p a_place a_end a_objects a_toldObjects ++ wBy cI ai_p ai_row_p ai_row ai_size ++ wHp cI b_p b_words_p b_roots_p b_heads_p b_marks_p b_order_p b_targets_p b_words b_roots b_base b_top b_heads b_objects b_marks b_order b_reached b_targets) sz)) 0 0 (va_A (wRd cI a_p ai_p a_place a_end a_objects a_toldObjects ++ wBy cI ai_p ai_row_p ai_row ai_size ++ wHp cI b_p b_words_p b_roots_p b_heads_p b_marks_p b_order_p b_targets_p b_words b_roots b_base b_top b_heads b_objects b_marks b_order b_reached b_targets) sz) := by
  refine g_met (fun A => va_Qi (fun (r : Int32) (u : (Int32 × Int32 × (Nat → Int32) × Int32)) => o.1 = r ∧ o.2 = u) (gB (dC, dI) vwCl (gT cI cJ cH) (fun (u : (Int32 × Int32 × (Nat → Int32) × Int32)) => wRd cI a_p ai_p u.1 u.2.1 a_objects a_toldObjects ++ wBy cI ai_p ai_row_p ai_row ai_size ++ wHp cI b_p b_words_p b_roots_p b_heads_p b_marks_p b_order_p b_targets_p u.2.2.1 b_roots b_base u.2.2.2 b_heads b_objects b_marks b_order b_reached b_targets) A) A) (by decide) rfl (Nat.le_of_ble_eq_true rfl) ?_
  intro p e s m args below meth c A Q F hlocks hr hname hN hQ
  unfold f_X2_readHead at hf
  refine g_lvE (lv' := [(0, .ref a_p), (1, .ref b_p), (2, .int x2)]) rfl ?_
  refine g_aload_n F dX2_readHead_0 rfl 0 rfl ?_
  refine g_get F h_X2_readHead_2 0 rfl rfl 1 (by decide) (by decide +kernel) rfl dX2_readHead_1 ?_
  refine g_istore_n (lv' := [(3, .int a_place), (0, .ref a_p), (1, .ref b_p), (2, .int x2)]) F dX2_readHead_4 rfl (by decide) rfl ?_
  refine g_aload_n F dX2_readHead_5 rfl 1 rfl ?_
  obtain ⟨o1, ho1, hf⟩ := bnE hf
  refine g_callVl (n := 0) (As := []) F (c_X2_nextCount l dC dI cI cJ cH a_p ai_p ai_row_p a_place a_end a_objects a_toldObjects ai_row ai_size o1 ho1) ggX2_readHead_X2_nextCount rfl rfl rfl (by decide +kernel) (by decide +kernel) (by decide +kernel) (by decide +kernel) (by decide +kernel) ⟨Nat.le_of_ble_eq_true rfl, Nat.le_of_ble_eq_true rfl⟩ ⟨Nat.le_of_ble_eq_true rfl, Nat.le_of_ble_eq_true rfl⟩ hN 0 rfl rfl rfl [0, 1, 2] rfl rfl (fun _ => rfl) rfl (Nat.le_of_ble_eq_true rfl) rfl dX2_readHead_6 (cells' := 0) (slots' := 0) rfl rfl (fun r u hp => ?_)
  obtain ⟨hp1, hp2⟩ := hp
  subst hp1
  subst hp2
  refine g_ws (ws' := wRd cI a_p ai_p o1.2.1 o1.2.2 a_objects a_toldObjects ++ wBy cI ai_p ai_row_p ai_row ai_size ++ wHp cI b_p b_words_p b_roots_p b_heads_p b_marks_p b_order_p b_targets_p b_words b_roots b_base b_top b_heads b_objects b_marks b_order b_reached b_targets) rfl ?_
  refine g_lstore (lv' := [(4, .long o1.1), (3, .int a_place), (0, .ref a_p), (1, .ref b_p), (2, .int x2)]) F dX2_readHead_9 (by decide) rfl ?_
  refine g_lload F dX2_readHead_11 0 rfl ?_
  refine g_lconst (v := 1) F dX2_readHead_13 rfl ?_
  refine g_lcmp F dX2_readHead_14 ?_
  obtain ⟨j2, hj2, hf⟩ := bnE hf
  have Kj2 : gW p l e rm_X2_readHead s m args below meth c 0 0 Q (dC, dI) vwCl A 9 (wRd cI a_p ai_p o1.2.1 j2 a_objects a_toldObjects ++ wBy cI ai_p ai_row_p ai_row ai_size ++ wHp cI b_p b_words_p b_roots_p b_heads_p b_marks_p b_order_p b_targets_p b_words b_roots b_base b_top b_heads b_objects b_marks b_order b_reached b_targets) [(0, .ref a_p), (1, .ref b_p), (3, .int a_place), (4, .long o1.1)] 40 [] := by
    refine g_aload_n F dX2_readHead_40 rfl 0 rfl ?_
    refine g_get F h_X2_readHead_2 0 rfl rfl 1 (by decide) (by decide +kernel) rfl dX2_readHead_41 ?_
    refine g_istore (lv' := [(6, .int o1.2.1), (0, .ref a_p), (1, .ref b_p), (3, .int a_place), (4, .long o1.1)]) F dX2_readHead_44 (by decide) rfl ?_
    refine g_aload_n F dX2_readHead_46 rfl 1 rfl ?_
    obtain ⟨o3, ho3, hf⟩ := bnE hf
    refine g_callVl (n := 0) (As := []) F (c_X2_nextCount l dC dI cI cJ cH a_p ai_p ai_row_p o1.2.1 j2 a_objects a_toldObjects ai_row ai_size o3 ho3) ggX2_readHead_X2_nextCount rfl rfl rfl (by decide +kernel) (by decide +kernel) (by decide +kernel) (by decide +kernel) (by decide +kernel) ⟨Nat.le_of_ble_eq_true rfl, Nat.le_of_ble_eq_true rfl⟩ ⟨Nat.le_of_ble_eq_true rfl, Nat.le_of_ble_eq_true rfl⟩ hN 0 rfl rfl rfl [0, 1, 2] rfl rfl (fun _ => rfl) rfl (Nat.le_of_ble_eq_true rfl) rfl dX2_readHead_47 (cells' := 0) (slots' := 0) rfl rfl (fun r u hp => ?_)
    obtain ⟨hp1, hp2⟩ := hp
    subst hp1
    subst hp2
    refine g_ws (ws' := wRd cI a_p ai_p o3.2.1 o3.2.2 a_objects a_toldObjects ++ wBy cI ai_p ai_row_p ai_row ai_size ++ wHp cI b_p b_words_p b_roots_p b_heads_p b_marks_p b_order_p b_targets_p b_words b_roots b_base b_top b_heads b_objects b_marks b_order b_reached b_targets) rfl ?_
    refine g_lstore (lv' := [(7, .long o3.1), (6, .int o1.2.1), (0, .ref a_p), (1, .ref b_p), (3, .int a_place), (4, .long o1.1)]) F dX2_readHead_50 (by decide) rfl ?_
    refine g_lload F dX2_readHead_52 5 rfl ?_
    refine g_lload F dX2_readHead_54 0 rfl ?_
    obtain ⟨o4, ho4, hf⟩ := bnE hf
    refine g_callNi (host := "HeapImages") (n := 2) (As := [.long o1.1, .long o3.1]) F (c_X3_mayHaveSlots l dC dI cI cJ cH o1.1 o3.1 o4 ho4) ggX2_readHead_X3_mayHaveSlots rfl rfl rfl (by decide +kernel) (hN _ (by decide +kernel)) (by decide +kernel) (by decide +kernel) ⟨Nat.le_of_ble_eq_true rfl, Nat.le_of_ble_eq_true rfl⟩ ⟨Nat.le_of_ble_eq_true rfl, Nat.le_of_ble_eq_true rfl⟩ hN [] rfl rfl (fun _ => rfl) rfl (Nat.le_of_ble_eq_true rfl) rfl dX2_readHead_56 (cells' := 0) (slots' := 0) rfl rfl (fun r u hp => ?_)
    subst hp
    refine g_ws (ws' := wRd cI a_p ai_p o3.2.1 o3.2.2 a_objects a_toldObjects ++ wBy cI ai_p ai_row_p ai_row ai_size ++ wHp cI b_p b_words_p b_roots_p b_heads_p b_marks_p b_order_p b_targets_p b_words b_roots b_base b_top b_heads b_objects b_marks b_order b_reached b_targets) rfl ?_
    obtain ⟨j5, hj5, hf⟩ := bnE hf
    have Kj5 : gW p l e rm_X2_readHead s m args below meth c 0 0 Q (dC, dI) vwCl A 9 (wRd cI a_p ai_p o3.2.1 j5 a_objects a_toldObjects ++ wBy cI ai_p ai_row_p ai_row ai_size ++ wHp cI b_p b_words_p b_roots_p b_heads_p b_marks_p b_order_p b_targets_p b_words b_roots b_base b_top b_heads b_objects b_marks b_order b_reached b_targets) [(0, .ref a_p), (1, .ref b_p), (3, .int a_place), (4, .long o1.1), (7, .long o3.1)] 68 [] := by
      refine g_aload_n F dX2_readHead_68 rfl 0 rfl ?_
      obtain ⟨o6, ho6, hf⟩ := bnE hf
      refine g_callPi (n := 0) (As := []) F (c_X2_goesOn l dC dI cI cJ cH a_p ai_p ai_row_p o3.2.1 j5 a_objects a_toldObjects ai_row ai_size o6 ho6) ggX2_readHead_X2_goesOn rfl rfl rfl (by decide +kernel) (by decide +kernel) (by decide +kernel) (by decide +kernel) (by decide +kernel) ⟨Nat.le_of_ble_eq_true rfl, Nat.le_of_ble_eq_true rfl⟩ ⟨Nat.le_of_ble_eq_true rfl, Nat.le_of_ble_eq_true rfl⟩ hN 0 rfl rfl rfl ([]) (wHp cI b_p b_words_p b_roots_p b_heads_p b_marks_p b_order_p b_targets_p b_words b_roots b_base b_top b_heads b_objects b_marks b_order b_reached b_targets) rfl (fun _ => rfl) rfl (Nat.le_of_ble_eq_true rfl) rfl dX2_readHead_69 (cells' := 0) (slots' := 0) rfl rfl (fun r u hp => ?_)
      subst hp
      refine g_ws (ws' := wRd cI a_p ai_p o3.2.1 j5 a_objects a_toldObjects ++ wBy cI ai_p ai_row_p ai_row ai_size ++ wHp cI b_p b_words_p b_roots_p b_heads_p b_marks_p b_order_p b_targets_p b_words b_roots b_base b_top b_heads b_objects b_marks b_order b_reached b_targets) rfl ?_
      obtain ⟨j7, hj7, hf⟩ := bnE hf
      have Kj7 : gW p l e rm_X2_readHead s m args below meth c 0 0 Q (dC, dI) vwCl A 9 (wRd cI a_p ai_p o3.2.1 j7 a_objects a_toldObjects ++ wBy cI ai_p ai_row_p ai_row ai_size ++ wHp cI b_p b_words_p b_roots_p b_heads_p b_marks_p b_order_p b_targets_p b_words b_roots b_base b_top b_heads b_objects b_marks b_order b_reached b_targets) [(0, .ref a_p), (1, .ref b_p), (4, .long o1.1), (7, .long o3.1)] 90 [] := by
        refine g_aload_n F dX2_readHead_90 rfl 0 rfl ?_
        obtain ⟨o8, ho8, hf⟩ := bnE hf
        refine g_callPi (n := 0) (As := []) F (c_X2_goesOn l dC dI cI cJ cH a_p ai_p ai_row_p o3.2.1 j7 a_objects a_toldObjects ai_row ai_size o8 ho8) ggX2_readHead_X2_goesOn rfl rfl rfl (by decide +kernel) (by decide +kernel) (by decide +kernel) (by decide +kernel) (by decide +kernel) ⟨Nat.le_of_ble_eq_true rfl, Nat.le_of_ble_eq_true rfl⟩ ⟨Nat.le_of_ble_eq_true rfl, Nat.le_of_ble_eq_true rfl⟩ hN 0 rfl rfl rfl ([]) (wHp cI b_p b_words_p b_roots_p b_heads_p b_marks_p b_order_p b_targets_p b_words b_roots b_base b_top b_heads b_objects b_marks b_order b_reached b_targets) rfl (fun _ => rfl) rfl (Nat.le_of_ble_eq_true rfl) rfl dX2_readHead_91 (cells' := 0) (slots' := 0) rfl rfl (fun r u hp => ?_)
        subst hp
        refine g_ws (ws' := wRd cI a_p ai_p o3.2.1 j7 a_objects a_toldObjects ++ wBy cI ai_p ai_row_p ai_row ai_size ++ wHp cI b_p b_words_p b_roots_p b_heads_p b_marks_p b_order_p b_targets_p b_words b_roots b_base b_top b_heads b_objects b_marks b_order b_reached b_targets) rfl ?_
        refine g_if_eq (tgt := 110) F dX2_readHead_94 (by decide) (fun c94 => ?_) (fun c94 => ?_)
        · have hf := iteT hf c94
          refine g_iconst (v := -1) F dX2_readHead_110 rfl ?_
          subst hQ
          exact g_iret F hlocks hr (o3.2.1, j7, b_words, b_top) rfl (pr2 (Option.some.inj hf)) dX2_readHead_111
        · have hf := iteF hf c94
          refine g_aload_n F dX2_readHead_97 rfl 1 rfl ?_
          refine g_lload F dX2_readHead_98 2 rfl ?_
          refine g_l2i F dX2_readHead_100 ?_
          refine g_lload F dX2_readHead_101 3 rfl ?_
          refine g_l2i F dX2_readHead_103 ?_
          obtain ⟨o9, ho9, hf⟩ := bnE hf
          refine g_callPi (n := 2) (As := [.int o1.1.toInt32, .int o3.1.toInt32]) F (c_X1_append l dC dI cI cJ cH b_p b_words_p b_roots_p b_heads_p b_marks_p b_order_p b_targets_p b_words b_roots b_base b_top b_heads b_objects b_marks b_order b_reached b_targets o1.1.toInt32 o3.1.toInt32 o9 ho9) ggX2_readHead_X1_append rfl rfl rfl (by decide +kernel) (by decide +kernel) (by decide +kernel) (by decide +kernel) (by decide +kernel) ⟨Nat.le_of_ble_eq_true rfl, Nat.le_of_ble_eq_true rfl⟩ ⟨Nat.le_of_ble_eq_true rfl, Nat.le_of_ble_eq_true rfl⟩ hN 3 rfl rfl rfl (wRd cI a_p ai_p o3.2.1 j7 a_objects a_toldObjects ++ wBy cI ai_p ai_row_p ai_row ai_size) ([]) rfl (fun _ => rfl) rfl (Nat.le_of_ble_eq_true rfl) rfl dX2_readHead_104 (cells' := 0) (slots' := 0) rfl rfl (fun r u hp => ?_)
          obtain ⟨hp1, hp2⟩ := hp
          subst hp1
          subst hp2
          refine g_ws (ws' := wRd cI a_p ai_p o3.2.1 j7 a_objects a_toldObjects ++ wBy cI ai_p ai_row_p ai_row ai_size ++ wHp cI b_p b_words_p b_roots_p b_heads_p b_marks_p b_order_p b_targets_p o9.2.1 b_roots b_base o9.2.2 b_heads b_objects b_marks b_order b_reached b_targets) rfl ?_
          refine g_goto (tgt := 111) F dX2_readHead_107 (by decide) ?_
          subst hQ
          exact g_iret F hlocks hr (o3.2.1, j7, o9.2.1, o9.2.2) rfl (pr2 (Option.some.inj hf)) dX2_readHead_111
      clear hf
      have hf := hj7
      refine g_if_eq (tgt := 90) F dX2_readHead_72 (by decide) (fun c72 => ?_) (fun c72 => ?_)
      · have hf := iteT hf c72
        cases hf
        refine g_lv [0, 1, 3, 4] rfl ?_
        exact Kj7
      · have hf := iteF hf c72
        refine g_aload_n F dX2_readHead_75 rfl 1 rfl ?_
        refine g_lload F dX2_readHead_76 4 rfl ?_
        refine g_l2i F dX2_readHead_78 ?_
        obtain ⟨o10, ho10, hf⟩ := bnE hf
        refine g_callPi (n := 1) (As := [.int o3.1.toInt32]) F (c_X1_hasRoomFor l dC dI cI cJ cH b_p b_words_p b_roots_p b_heads_p b_marks_p b_order_p b_targets_p b_words b_roots b_base b_top b_heads b_objects b_marks b_order b_reached b_targets o3.1.toInt32 o10 ho10) ggX2_readHead_X1_hasRoomFor rfl rfl rfl (by decide +kernel) (by decide +kernel) (by decide +kernel) (by decide +kernel) (by decide +kernel) ⟨Nat.le_of_ble_eq_true rfl, Nat.le_of_ble_eq_true rfl⟩ ⟨Nat.le_of_ble_eq_true rfl, Nat.le_of_ble_eq_true rfl⟩ hN 3 rfl rfl rfl (wRd cI a_p ai_p o3.2.1 j5 a_objects a_toldObjects ++ wBy cI ai_p ai_row_p ai_row ai_size) ([]) rfl (fun _ => rfl) rfl (Nat.le_of_ble_eq_true rfl) rfl dX2_readHead_79 (cells' := 0) (slots' := 0) rfl rfl (fun r u hp => ?_)
        subst hp
        refine g_ws (ws' := wRd cI a_p ai_p o3.2.1 j5 a_objects a_toldObjects ++ wBy cI ai_p ai_row_p ai_row ai_size ++ wHp cI b_p b_words_p b_roots_p b_heads_p b_marks_p b_order_p b_targets_p b_words b_roots b_base b_top b_heads b_objects b_marks b_order b_reached b_targets) rfl ?_
        refine g_if_ne (tgt := 90) F dX2_readHead_82 (by decide) (fun c82 => ?_) (fun c82 => ?_)
        · have hf := iteF hf c82
          cases hf
          refine g_lv [0, 1, 3, 4] rfl ?_
          exact Kj7
        · have hf := iteT hf c82
          refine g_aload_n F dX2_readHead_85 rfl 0 rfl ?_
          refine g_iload_n F dX2_readHead_86 rfl 2 rfl ?_
          obtain ⟨o11, ho11, hf⟩ := bnE hf
          refine g_callPv (n := 1) (As := [.int a_place]) F (c_X2_endAt l dC dI cI cJ cH a_p ai_p ai_row_p o3.2.1 j5 a_objects a_toldObjects ai_row ai_size a_place o11 ho11) ggX2_readHead_X2_endAt rfl rfl rfl (by decide +kernel) (by decide +kernel) (by decide +kernel) (by decide +kernel) (by decide +kernel) ⟨Nat.le_of_ble_eq_true rfl, Nat.le_of_ble_eq_true rfl⟩ ⟨Nat.le_of_ble_eq_true rfl, Nat.le_of_ble_eq_true rfl⟩ hN 0 rfl rfl rfl ([]) (wHp cI b_p b_words_p b_roots_p b_heads_p b_marks_p b_order_p b_targets_p b_words b_roots b_base b_top b_heads b_objects b_marks b_order b_reached b_targets) rfl (fun _ => rfl) rfl (Nat.le_of_ble_eq_true rfl) rfl dX2_readHead_87 (cells' := 0) (slots' := 0) rfl rfl (fun u hp => ?_)
          subst hp
          refine g_ws (ws' := wRd cI a_p ai_p o3.2.1 o11 a_objects a_toldObjects ++ wBy cI ai_p ai_row_p ai_row ai_size ++ wHp cI b_p b_words_p b_roots_p b_heads_p b_marks_p b_order_p b_targets_p b_words b_roots b_base b_top b_heads b_objects b_marks b_order b_reached b_targets) rfl ?_
          cases hf
          refine g_lv [0, 1, 3, 4] rfl ?_
          exact Kj7
    clear hf
    have hf := hj5
    refine g_if_ne (tgt := 68) F dX2_readHead_59 (by decide) (fun c59 => ?_) (fun c59 => ?_)
    · have hf := iteF hf c59
      cases hf
      refine g_lv [2, 3, 4, 5, 0] rfl ?_
      exact Kj5
    · have hf := iteT hf c59
      refine g_aload_n F dX2_readHead_62 rfl 2 rfl ?_
      refine g_iload F dX2_readHead_63 1 rfl ?_
      obtain ⟨o12, ho12, hf⟩ := bnE hf
      refine g_callPv (n := 1) (As := [.int o1.2.1]) F (c_X2_endAt l dC dI cI cJ cH a_p ai_p ai_row_p o3.2.1 o3.2.2 a_objects a_toldObjects ai_row ai_size o1.2.1 o12 ho12) ggX2_readHead_X2_endAt rfl rfl rfl (by decide +kernel) (by decide +kernel) (by decide +kernel) (by decide +kernel) (by decide +kernel) ⟨Nat.le_of_ble_eq_true rfl, Nat.le_of_ble_eq_true rfl⟩ ⟨Nat.le_of_ble_eq_true rfl, Nat.le_of_ble_eq_true rfl⟩ hN 0 rfl rfl rfl ([]) (wHp cI b_p b_words_p b_roots_p b_heads_p b_marks_p b_order_p b_targets_p b_words b_roots b_base b_top b_heads b_objects b_marks b_order b_reached b_targets) rfl (fun _ => rfl) rfl (Nat.le_of_ble_eq_true rfl) rfl dX2_readHead_65 (cells' := 0) (slots' := 0) rfl rfl (fun u hp => ?_)
      subst hp
      refine g_ws (ws' := wRd cI a_p ai_p o3.2.1 o12 a_objects a_toldObjects ++ wBy cI ai_p ai_row_p ai_row ai_size ++ wHp cI b_p b_words_p b_roots_p b_heads_p b_marks_p b_order_p b_targets_p b_words b_roots b_base b_top b_heads b_objects b_marks b_order b_reached b_targets) rfl ?_
      cases hf
      refine g_lv [2, 3, 4, 5, 0] rfl ?_
      exact Kj5
  clear hf
  have hf := hj2
  refine g_if_lt (tgt := 35) F dX2_readHead_15 (by decide) (fun c15 => ?_) (fun c15 => ?_)
  · have hf := iteT hf c15
    refine g_aload_n F dX2_readHead_35 rfl 2 rfl ?_
    refine g_iload_n F dX2_readHead_36 rfl 1 rfl ?_
    obtain ⟨o13, ho13, hf⟩ := bnE hf
    refine g_callPv (n := 1) (As := [.int a_place]) F (c_X2_endAt l dC dI cI cJ cH a_p ai_p ai_row_p o1.2.1 o1.2.2 a_objects a_toldObjects ai_row ai_size a_place o13 ho13) ggX2_readHead_X2_endAt rfl rfl rfl (by decide +kernel) (by decide +kernel) (by decide +kernel) (by decide +kernel) (by decide +kernel) ⟨Nat.le_of_ble_eq_true rfl, Nat.le_of_ble_eq_true rfl⟩ ⟨Nat.le_of_ble_eq_true rfl, Nat.le_of_ble_eq_true rfl⟩ hN 0 rfl rfl rfl ([]) (wHp cI b_p b_words_p b_roots_p b_heads_p b_marks_p b_order_p b_targets_p b_words b_roots b_base b_top b_heads b_objects b_marks b_order b_reached b_targets) rfl (fun _ => rfl) rfl (Nat.le_of_ble_eq_true rfl) rfl dX2_readHead_37 (cells' := 0) (slots' := 0) rfl rfl (fun u hp => ?_)
    subst hp
    refine g_ws (ws' := wRd cI a_p ai_p o1.2.1 o13 a_objects a_toldObjects ++ wBy cI ai_p ai_row_p ai_row ai_size ++ wHp cI b_p b_words_p b_roots_p b_heads_p b_marks_p b_order_p b_targets_p b_words b_roots b_base b_top b_heads b_objects b_marks b_order b_reached b_targets) rfl ?_
    cases hf
    refine g_lv [2, 3, 1, 0] rfl ?_
    exact Kj2
  · have hf := iteF hf c15
    refine g_lload F dX2_readHead_18 0 rfl ?_
    refine g_ldc2 (v := 3) F (by decide +kernel) dX2_readHead_20 ?_
    refine g_lcmp F dX2_readHead_23 ?_
    refine g_if_gt (tgt := 35) F dX2_readHead_24 (by decide) (fun c24 => ?_) (fun c24 => ?_)
    · have hf := iteT hf c24
      refine g_aload_n F dX2_readHead_35 rfl 2 rfl ?_
      refine g_iload_n F dX2_readHead_36 rfl 1 rfl ?_
      obtain ⟨o14, ho14, hf⟩ := bnE hf
      refine g_callPv (n := 1) (As := [.int a_place]) F (c_X2_endAt l dC dI cI cJ cH a_p ai_p ai_row_p o1.2.1 o1.2.2 a_objects a_toldObjects ai_row ai_size a_place o14 ho14) ggX2_readHead_X2_endAt rfl rfl rfl (by decide +kernel) (by decide +kernel) (by decide +kernel) (by decide +kernel) (by decide +kernel) ⟨Nat.le_of_ble_eq_true rfl, Nat.le_of_ble_eq_true rfl⟩ ⟨Nat.le_of_ble_eq_true rfl, Nat.le_of_ble_eq_true rfl⟩ hN 0 rfl rfl rfl ([]) (wHp cI b_p b_words_p b_roots_p b_heads_p b_marks_p b_order_p b_targets_p b_words b_roots b_base b_top b_heads b_objects b_marks b_order b_reached b_targets) rfl (fun _ => rfl) rfl (Nat.le_of_ble_eq_true rfl) rfl dX2_readHead_37 (cells' := 0) (slots' := 0) rfl rfl (fun u hp => ?_)
      subst hp
      refine g_ws (ws' := wRd cI a_p ai_p o1.2.1 o14 a_objects a_toldObjects ++ wBy cI ai_p ai_row_p ai_row ai_size ++ wHp cI b_p b_words_p b_roots_p b_heads_p b_marks_p b_order_p b_targets_p b_words b_roots b_base b_top b_heads b_objects b_marks b_order b_reached b_targets) rfl ?_
      cases hf
      refine g_lv [2, 3, 1, 0] rfl ?_
      exact Kj2
    · have hf := iteF hf c24
      refine g_iload_n F dX2_readHead_27 rfl 4 rfl ?_
      refine g_aload_n F dX2_readHead_28 rfl 2 rfl ?_
      refine g_get F h_X2_readHead_2 0 rfl rfl 4 (by decide) (by decide +kernel) rfl dX2_readHead_29 ?_
      refine g_icmp_lt (tgt := 40) F dX2_readHead_32 (by decide) (fun c32 => ?_) (fun c32 => ?_)
      · have hf := iteT hf c32
        cases hf
        refine g_lv [2, 3, 1, 0] rfl ?_
        exact Kj2
      · have hf := iteF hf c32
        refine g_aload_n F dX2_readHead_35 rfl 2 rfl ?_
        refine g_iload_n F dX2_readHead_36 rfl 1 rfl ?_
        obtain ⟨o15, ho15, hf⟩ := bnE hf
        refine g_callPv (n := 1) (As := [.int a_place]) F (c_X2_endAt l dC dI cI cJ cH a_p ai_p ai_row_p o1.2.1 o1.2.2 a_objects a_toldObjects ai_row ai_size a_place o15 ho15) ggX2_readHead_X2_endAt rfl rfl rfl (by decide +kernel) (by decide +kernel) (by decide +kernel) (by decide +kernel) (by decide +kernel) ⟨Nat.le_of_ble_eq_true rfl, Nat.le_of_ble_eq_true rfl⟩ ⟨Nat.le_of_ble_eq_true rfl, Nat.le_of_ble_eq_true rfl⟩ hN 0 rfl rfl rfl ([]) (wHp cI b_p b_words_p b_roots_p b_heads_p b_marks_p b_order_p b_targets_p b_words b_roots b_base b_top b_heads b_objects b_marks b_order b_reached b_targets) rfl (fun _ => rfl) rfl (Nat.le_of_ble_eq_true rfl) rfl dX2_readHead_37 (cells' := 0) (slots' := 0) rfl rfl (fun u hp => ?_)
        subst hp
        refine g_ws (ws' := wRd cI a_p ai_p o1.2.1 o15 a_objects a_toldObjects ++ wBy cI ai_p ai_row_p ai_row ai_size ++ wHp cI b_p b_words_p b_roots_p b_heads_p b_marks_p b_order_p b_targets_p b_words b_roots b_base b_top b_heads b_objects b_marks b_order b_reached b_targets) rfl ?_
        cases hf
        refine g_lv [2, 3, 1, 0] rfl ?_
        exact Kj2

/-! HeapImages$Reader.nextWord()I -/
def rm_X2_nextWord : Room := { frames := 2, cells := 0, slots := 0, locals := 42 }
def f_X2_nextWord (a_place : Int32) (a_end : Int32) (ai_row : (Nat → Int32)) (ai_size : Int32) : Option (Int32 × Int32 × Int32) :=
  Option.bind (f_X2_nextByte a_place a_end ai_row ai_size) fun o1 => Option.bind (f_X2_nextByte o1.2.1 o1.2.2 ai_row ai_size) fun o2 => nm (o1.1 ||| (o2.1 <<< ((8 : Int32) &&& 31))) fun v3 => Option.bind (f_X2_nextByte o2.2.1 o2.2.2 ai_row ai_size) fun o4 => nm (v3 ||| (o4.1 <<< ((16 : Int32) &&& 31))) fun v5 => Option.bind (f_X2_nextByte o4.2.1 o4.2.2 ai_row ai_size) fun o6 => nm (v5 ||| (o6.1 <<< ((24 : Int32) &&& 31))) fun v7 => some (v7, o6.2.1, o6.2.2)
set_option maxHeartbeats 4000000 in
set_option maxRecDepth 100000 in
theorem c_X2_nextWord (l : Launch) (dC : Nat → ClassId) (dI : Nat → Nat → Nat) (cI cJ cH : ClassId) (a_p ai_p ai_row_p : Nat)  (a_place : Int32) (a_end : Int32) (a_objects : Int32) (a_toldObjects : Int32) (ai_row : (Nat → Int32)) (ai_size : Int32)  (o : (Int32 × Int32 × Int32)) (hf : f_X2_nextWord a_place a_end ai_row ai_size = some o) : ∀ sz : Nat, Met l yX2_nextWord wsX2_nextWord rm_X2_nextWord (gPre [.ref a_p] (dC, dI) vwCl (gT cI cJ cH) (wRd cI a_p ai_p a_place a_end a_objects a_toldObjects ++ wBy cI ai_p ai_row_p ai_row ai_size) sz) (va_Qi (fun (r : Int32) (u : (Int32 × Int32)) => o.1 = r ∧ o.2 = u) (gB (dC, dI) vwCl (gT cI cJ cH) (fun (u : (Int32 × Int32)) => wRd cI a_p ai_p u.1 u.2 a_objects a_toldObjects ++ wBy cI ai_p ai_row_p ai_row ai_size) (va_A (wRd cI a_p ai_p a_place a_end a_objects a_toldObjects ++ wBy cI ai_p ai_row_p ai_row ai_size) sz)) (va_A (wRd cI a_p ai_p a_place a_end a_objects a_toldObjects ++ wBy cI ai_p ai_row_p ai_row ai_size) sz)) 0 0 (va_A (wRd cI a_p ai_p a_place a_end a_objects a_toldObjects ++ wBy cI ai_p ai_row_p ai_row ai_size) sz) := by
  refine g_met (fun A => va_Qi (fun (r : Int32) (u : (Int32 × Int32)) => o.1 = r ∧ o.2 = u) (gB (dC, dI) vwCl (gT cI cJ cH) (fun (u : (Int32 × Int32)) => wRd cI a_p ai_p u.1 u.2 a_objects a_toldObjects ++ wBy cI ai_p ai_row_p ai_row ai_size) A) A) (by decide) rfl (Nat.le_of_ble_eq_true rfl) ?_
  intro p e s m args below meth c A Q F hlocks hr hname hN hQ
  unfold f_X2_nextWord at hf
  refine g_lvE (lv' := [(0, .ref a_p)]) rfl ?_
  refine g_aload_n F dX2_nextWord_0 rfl 0 rfl ?_
  obtain ⟨o1, ho1, hf⟩ := bnE hf
  refine g_callPi (n := 0) (As := []) F (c_X2_nextByte l dC dI cI cJ cH a_p ai_p ai_row_p a_place a_end a_objects a_toldObjects ai_row ai_size o1 ho1) ggX2_nextWord_X2_nextByte rfl rfl rfl (by decide +kernel) (by decide +kernel) (by decide +kernel) (by decide +kernel) (by decide +kernel) ⟨Nat.le_of_ble_eq_true rfl, Nat.le_of_ble_eq_true rfl⟩ ⟨Nat.le_of_ble_eq_true rfl, Nat.le_of_ble_eq_true rfl⟩ hN 0 rfl rfl rfl ([]) ([]) rfl (fun _ => rfl) rfl (Nat.le_of_ble_eq_true rfl) rfl dX2_nextWord_1 (cells' := 0) (slots' := 0) rfl rfl (fun r u hp => ?_)
  obtain ⟨hp1, hp2⟩ := hp
  subst hp1
  subst hp2
  refine g_ws (ws' := wRd cI a_p ai_p o1.2.1 o1.2.2 a_objects a_toldObjects ++ wBy cI ai_p ai_row_p ai_row ai_size) rfl ?_
  refine g_istore_n (lv' := [(1, .int o1.1), (0, .ref a_p)]) F dX2_nextWord_4 rfl (by decide) rfl ?_
  refine g_iload_n F dX2_nextWord_5 rfl 0 rfl ?_
  refine g_aload_n F dX2_nextWord_6 rfl 1 rfl ?_
  obtain ⟨o2, ho2, hf⟩ := bnE hf
  refine g_callPi (n := 0) (As := []) F (c_X2_nextByte l dC dI cI cJ cH a_p ai_p ai_row_p o1.2.1 o1.2.2 a_objects a_toldObjects ai_row ai_size o2 ho2) ggX2_nextWord_X2_nextByte rfl rfl rfl (by decide +kernel) (by decide +kernel) (by decide +kernel) (by decide +kernel) (by decide +kernel) ⟨Nat.le_of_ble_eq_true rfl, Nat.le_of_ble_eq_true rfl⟩ ⟨Nat.le_of_ble_eq_true rfl, Nat.le_of_ble_eq_true rfl⟩ hN 0 rfl rfl rfl ([]) ([]) rfl (fun _ => rfl) rfl (Nat.le_of_ble_eq_true rfl) rfl dX2_nextWord_7 (cells' := 0) (slots' := 0) rfl rfl (fun r u hp => ?_)
  obtain ⟨hp1, hp2⟩ := hp
  subst hp1
  subst hp2
  refine g_ws (ws' := wRd cI a_p ai_p o2.2.1 o2.2.2 a_objects a_toldObjects ++ wBy cI ai_p ai_row_p ai_row ai_size) rfl ?_
  refine g_bipush (v := 8) F dX2_nextWord_10 rfl ?_
  refine g_ishl F dX2_nextWord_12 ?_
  refine g_ior F dX2_nextWord_13 ?_
  obtain ⟨v3, ev3, hf⟩ := nmE hf
  refine g_nmi ev3 ?_
  refine g_istore_n (lv' := [(1, .int v3), (0, .ref a_p)]) F dX2_nextWord_14 rfl (by decide) rfl ?_
  refine g_iload_n F dX2_nextWord_15 rfl 0 rfl ?_
  refine g_aload_n F dX2_nextWord_16 rfl 1 rfl ?_
  obtain ⟨o4, ho4, hf⟩ := bnE hf
  refine g_callPi (n := 0) (As := []) F (c_X2_nextByte l dC dI cI cJ cH a_p ai_p ai_row_p o2.2.1 o2.2.2 a_objects a_toldObjects ai_row ai_size o4 ho4) ggX2_nextWord_X2_nextByte rfl rfl rfl (by decide +kernel) (by decide +kernel) (by decide +kernel) (by decide +kernel) (by decide +kernel) ⟨Nat.le_of_ble_eq_true rfl, Nat.le_of_ble_eq_true rfl⟩ ⟨Nat.le_of_ble_eq_true rfl, Nat.le_of_ble_eq_true rfl⟩ hN 0 rfl rfl rfl ([]) ([]) rfl (fun _ => rfl) rfl (Nat.le_of_ble_eq_true rfl) rfl dX2_nextWord_17 (cells' := 0) (slots' := 0) rfl rfl (fun r u hp => ?_)
  obtain ⟨hp1, hp2⟩ := hp
  subst hp1
  subst hp2
  refine g_ws (ws' := wRd cI a_p ai_p o4.2.1 o4.2.2 a_objects a_toldObjects ++ wBy cI ai_p ai_row_p ai_row ai_size) rfl ?_
  refine g_bipush (v := 16) F dX2_nextWord_20 rfl ?_
  refine g_ishl F dX2_nextWord_22 ?_
  refine g_ior F dX2_nextWord_23 ?_
  obtain ⟨v5, ev5, hf⟩ := nmE hf
  refine g_nmi ev5 ?_
  refine g_istore_n (lv' := [(1, .int v5), (0, .ref a_p)]) F dX2_nextWord_24 rfl (by decide) rfl ?_
  refine g_iload_n F dX2_nextWord_25 rfl 0 rfl ?_
  refine g_aload_n F dX2_nextWord_26 rfl 1 rfl ?_
  obtain ⟨o6, ho6, hf⟩ := bnE hf
  refine g_callPi (n := 0) (As := []) F (c_X2_nextByte l dC dI cI cJ cH a_p ai_p ai_row_p o4.2.1 o4.2.2 a_objects a_toldObjects ai_row ai_size o6 ho6) ggX2_nextWord_X2_nextByte rfl rfl rfl (by decide +kernel) (by decide +kernel) (by decide +kernel) (by decide +kernel) (by decide +kernel) ⟨Nat.le_of_ble_eq_true rfl, Nat.le_of_ble_eq_true rfl⟩ ⟨Nat.le_of_ble_eq_true rfl, Nat.le_of_ble_eq_true rfl⟩ hN 0 rfl rfl rfl ([]) ([]) rfl (fun _ => rfl) rfl (Nat.le_of_ble_eq_true rfl) rfl dX2_nextWord_27 (cells' := 0) (slots' := 0) rfl rfl (fun r u hp => ?_)
  obtain ⟨hp1, hp2⟩ := hp
  subst hp1
  subst hp2
  refine g_ws (ws' := wRd cI a_p ai_p o6.2.1 o6.2.2 a_objects a_toldObjects ++ wBy cI ai_p ai_row_p ai_row ai_size) rfl ?_
  refine g_bipush (v := 24) F dX2_nextWord_30 rfl ?_
  refine g_ishl F dX2_nextWord_32 ?_
  refine g_ior F dX2_nextWord_33 ?_
  obtain ⟨v7, ev7, hf⟩ := nmE hf
  refine g_nmi ev7 ?_
  refine g_istore_n (lv' := [(1, .int v7), (0, .ref a_p)]) F dX2_nextWord_34 rfl (by decide) rfl ?_
  refine g_iload_n F dX2_nextWord_35 rfl 0 rfl ?_
  subst hQ
  exact g_iret F hlocks hr (o6.2.1, o6.2.2) rfl (pr2 (Option.some.inj hf)) dX2_nextWord_36
