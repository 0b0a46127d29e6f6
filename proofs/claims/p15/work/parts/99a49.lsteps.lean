theorem hsf_sw1 (a b c : Nat) : hsw 1 a b c = hsf c b := by
  funext k
  show (if k = 0 then some c else if k = 0 then some a else if k = 1 then some b else none) = (if k = 0 then some c else if k = 1 then some b else none)
  by_cases h : k = 0
  · subst h; rfl
  · rw [if_neg h, if_neg h, if_neg h]
theorem hsf_sw2 (a b c : Nat) : hsw 2 a b c = hsf a c := by
  funext k
  show (if k = 1 then some c else if k = 0 then some a else if k = 1 then some b else none) = (if k = 0 then some a else if k = 1 then some c else none)
  by_cases h : k = 0
  · subst h; rfl
  · by_cases h1 : k = 1
    · subst h1; rfl
    · rw [if_neg h1, if_neg h, if_neg h1, if_neg h, if_neg h1]
theorem swA_1 (n : Nat) (a : CA) : (swA n a).1 = a.1 := by
  match n with
  | 0 => rfl
  | 1 => rfl
  | 2 => rfl
  | _ + 3 => rfl
section GSW
variable {p : Program} {l : Launch} {e : Env} {R : Room} {st : State} {m : MethodId} {args : Array Value} {below : List Frame} {meth : Method} {c : Code} {cells slots : Nat} {Q : State → Prop} {D : va_G} {cl : List vw_C} {A : Nat → Prop} {nL : Nat} {ws : va_W} {lv : List (Nat × Value)} {pc : Nat} {rest : List Value}
theorem g_sw {cI cJ cH : ClassId} {a : CA} {b : RA} {op sw : Nat} {s : CS} {r : RS} {oc : Nat → Int64} (h : ws = wCSw cI cH a sw s ++ wLo cJ op oc ++ wRS cI b r) (k : gW p l e R st m args below meth c cells slots Q D cl A nL (wCS cI cH (swA sw a) (swS sw s) ++ wLo cJ op oc ++ wRS cI b r) lv pc rest) : gW p l e R st m args below meth c cells slots Q D cl A nL ws lv pc rest := by
  subst h
  revert k
  match sw with
  | 0 => exact fun k => k
  | 1 => exact fun k => g_sub [0, 1, 2, 3, 4, 5, 6, 21, 22, 23, 24, 25, 26, 27, 14, 15, 16, 17, 18, 19, 20, 7, 8, 9, 10, 11, 12, 13, 28, 29, 30, 31, 32, 33, 34, 35, 36, 37, 38, 39, 40, 41, 42] (by unfold wCSw; rw [hsf_sw1]; rfl) (by decide) k
  | 2 => exact fun k => g_sub [0, 1, 2, 3, 4, 5, 6, 7, 8, 9, 10, 11, 12, 13, 21, 22, 23, 24, 25, 26, 27, 14, 15, 16, 17, 18, 19, 20, 28, 29, 30, 31, 32, 33, 34, 35, 36, 37, 38, 39, 40, 41, 42] (by unfold wCSw; rw [hsf_sw2]; rfl) (by decide) k
  | _ + 3 => exact fun k => k
end GSW
def sc_0 (a1 a2 a3 a4 : Int32) (s : CS) (r : RS) (oc : Nat → Int64) : Option (CS × RS × (Nat → Int64)) :=
  Option.bind (q3_make s oc a1 a2 a3) fun o1 => Option.bind (p4_make r a1 a2 a3) fun o2 => some ((swS o1.2.2.2 o1.2.1), o2.2, o1.2.2.1)
def sc_1 (a1 a2 a3 a4 : Int32) (s : CS) (r : RS) (oc : Nat → Int64) : Option (CS × RS × (Nat → Int64)) :=
  Option.bind (q3_set s oc a1 a2 a3 a4) fun o1 => Option.bind (p4_set r a1 a2 a3 a4) fun o2 => some ((swS o1.2.2.2 o1.2.1), o2.2, o1.2.2.1)
def sc_2 (a1 a2 a3 a4 : Int32) (s : CS) (r : RS) (oc : Nat → Int64) : Option (CS × RS × (Nat → Int64)) :=
  Option.bind (q3_at s oc a1 a2 a3) fun o1 => Option.bind (p4_at r a1 a2 a3) fun o2 => some ((swS o1.2.2.2 o1.2.1), o2.2, o1.2.2.1)
def sc_3 (a1 a2 a3 a4 : Int32) (s : CS) (r : RS) (oc : Nat → Int64) : Option (CS × RS × (Nat → Int64)) :=
  Option.bind (q3_root s oc a1 a2 a3) fun o1 => Option.bind (p4_root r a1 a2 a3) fun o2 => some ((swS o1.2.2.2 o1.2.1), o2.2, o1.2.2.1)
def sc_4 (a1 a2 a3 a4 : Int32) (s : CS) (r : RS) (oc : Nat → Int64) : Option (CS × RS × (Nat → Int64)) :=
  Option.bind (q3_poke s oc a1 a2 a3) fun o1 => Option.bind (p4_poke r a1 a2 a3) fun o2 => some ((swS o1.2.2.2 o1.2.1), o2.2, o1.2.2.1)
def sc_5 (a1 a2 a3 a4 : Int32) (s : CS) (r : RS) (oc : Nat → Int64) : Option (CS × RS × (Nat → Int64)) :=
  Option.bind (q3_word s oc a1 a2) fun o1 => Option.bind (p4_word r a1 a2) fun o2 => some ((swS o1.2.2.2 o1.2.1), o2.2, o1.2.2.1)
def sc_6 (a1 a2 a3 a4 : Int32) (s : CS) (r : RS) (oc : Nat → Int64) : Option (CS × RS × (Nat → Int64)) :=
  Option.bind (q3_check s oc a1) fun o1 => Option.bind (p4_check r a1) fun o2 => some ((swS o1.2.2.2 o1.2.1), o2.2, o1.2.2.1)
def sc_7 (a1 a2 a3 a4 : Int32) (s : CS) (r : RS) (oc : Nat → Int64) : Option (CS × RS × (Nat → Int64)) :=
  Option.bind (q3_move s oc a1 a2) fun o1 => Option.bind (p4_move r a1 a2) fun o2 => some ((swS o1.2.2.2 o1.2.1), o2.2, o1.2.2.1)
def sc_8 (a1 a2 a3 a4 : Int32) (s : CS) (r : RS) (oc : Nat → Int64) : Option (CS × RS × (Nat → Int64)) :=
  Option.bind (q3_sweep s oc a1) fun o1 => Option.bind (p4_sweep r a1) fun o2 => some ((swS o1.2.2.2 o1.2.1), o2.2, o1.2.2.1)
def sc_9 (a1 a2 a3 a4 : Int32) (s : CS) (r : RS) (oc : Nat → Int64) : Option (CS × RS × (Nat → Int64)) :=
  Option.bind (q3_dump s oc a1) fun o1 => Option.bind (p4_dump r a1) fun o2 => some ((swS o1.2.2.2 o1.2.1), o2.2, o1.2.2.1)
def sc_10 (a1 a2 a3 a4 : Int32) (s : CS) (r : RS) (oc : Nat → Int64) : Option (CS × RS × (Nat → Int64)) :=
  Option.bind (q3_byteAt s oc a1) fun o1 => Option.bind (p4_byteAt r a1) fun o2 => some ((swS o1.2.2.2 o1.2.1), o2.2, o1.2.2.1)
def sc_11 (a1 a2 a3 a4 : Int32) (s : CS) (r : RS) (oc : Nat → Int64) : Option (CS × RS × (Nat → Int64)) :=
  Option.bind (q3_feed s oc a1) fun o1 => Option.bind (p4_feed r a1) fun o2 => some ((swS o1.2.2.2 o1.2.1), o2.2, o1.2.2.1)
def sc_12 (a1 a2 a3 a4 : Int32) (s : CS) (r : RS) (oc : Nat → Int64) : Option (CS × RS × (Nat → Int64)) :=
  Option.bind (q3_pass s oc a1 a2) fun o1 => Option.bind (p4_pass r a1 a2) fun o2 => some ((swS o1.2.2.2 o1.2.1), o2.2, o1.2.2.1)
def sc_13 (a1 a2 a3 a4 : Int32) (s : CS) (r : RS) (oc : Nat → Int64) : Option (CS × RS × (Nat → Int64)) :=
  Option.bind (q3_restore s oc a1 a2) fun o1 => Option.bind (p4_restore r a1 a2) fun o2 => Option.bind (p4_thrown o2.2 ) fun o3 => if o3.1 = o1.1 then if o1.1 = 0 then if (lg_cmp (o1.2.2.1 0) ((o2.1).toInt64)) = 0 then some ((swS o1.2.2.2 o1.2.1), o3.2, o1.2.2.1) else none else some ((swS o1.2.2.2 o1.2.1), o3.2, o1.2.2.1) else none
def sc_14 (a1 a2 a3 a4 : Int32) (s : CS) (r : RS) (oc : Nat → Int64) : Option (CS × RS × (Nat → Int64)) :=
  Option.bind (q3_same s oc ) fun o1 => Option.bind (p4_same r ) fun o2 => some ((swS o1.2.2.2 o1.2.1), o2.2, o1.2.2.1)
def sc_15 (a1 a2 a3 a4 : Int32) (s : CS) (r : RS) (oc : Nat → Int64) : Option (CS × RS × (Nat → Int64)) :=
  Option.bind (q3_told s oc a1 a2) fun o1 => Option.bind (p4_told r a1 a2) fun o2 => some ((swS o1.2.2.2 o1.2.1), o2.2, o1.2.2.1)
def sc_16 (a1 a2 a3 a4 : Int32) (s : CS) (r : RS) (oc : Nat → Int64) : Option (CS × RS × (Nat → Int64)) :=
  Option.bind (p3_clear s) fun o1 => Option.bind (p4_clear r ) fun o2 => some (o1, o2, oc)
def sl_step (a0 a1 a2 a3 a4 : Int32) (s : CS) (r : RS) (oc : Nat → Int64) : Option (CS × RS × (Nat → Int64)) :=
  if a0 &&& 31 = 0 then sc_0 a1 a2 a3 a4 s r oc else if a0 &&& 31 = 1 then sc_1 a1 a2 a3 a4 s r oc else if a0 &&& 31 = 2 then sc_2 a1 a2 a3 a4 s r oc else if a0 &&& 31 = 3 then sc_3 a1 a2 a3 a4 s r oc else if a0 &&& 31 = 4 then sc_4 a1 a2 a3 a4 s r oc else if a0 &&& 31 = 5 then sc_5 a1 a2 a3 a4 s r oc else if a0 &&& 31 = 6 then sc_6 a1 a2 a3 a4 s r oc else if a0 &&& 31 = 7 then sc_7 a1 a2 a3 a4 s r oc else if a0 &&& 31 = 8 then sc_8 a1 a2 a3 a4 s r oc else if a0 &&& 31 = 9 then sc_9 a1 a2 a3 a4 s r oc else if a0 &&& 31 = 10 then sc_10 a1 a2 a3 a4 s r oc else if a0 &&& 31 = 11 then sc_11 a1 a2 a3 a4 s r oc else if a0 &&& 31 = 12 then sc_12 a1 a2 a3 a4 s r oc else if a0 &&& 31 = 13 then sc_13 a1 a2 a3 a4 s r oc else if a0 &&& 31 = 14 then sc_14 a1 a2 a3 a4 s r oc else if a0 &&& 31 = 15 then sc_15 a1 a2 a3 a4 s r oc else if a0 &&& 31 = 16 then sc_16 a1 a2 a3 a4 s r oc else some (s, r, oc)
def sl_run (xs : Nat → Int32) : Nat → Nat → CS → RS → (Nat → Int64) → Option Unit
  | 0, _, _, _, _ => some ()
  | n + 1, j, s, r, oc => Option.bind (sl_step (xs (5 * j)) (xs (5 * j + 1)) (xs (5 * j + 2)) (xs (5 * j + 3)) (xs (5 * j + 4)) s r oc) fun o => sl_run xs n (j + 1) o.1 o.2.1 o.2.2
def hp0 : HpS := ((fun _ => 0), (fun _ => 0), (4096 : Int32), 0, (fun _ => 0), 0, (fun _ => 0), (fun _ => 0), 0, (fun _ => 0))
def cs0 : CS := ((fun _ => 0), 0, (fun _ => 0), 0, (0, 0, 0, 0), hp0, hp0, hp0)
def rs0 : RS := (0, (upd (upd (fun _ => 0) 0 4096) 1 4096), (fun _ => 0), (fun _ => 0), (fun _ => 0), 0, (fun _ => 0), (fun _ => 0), 0, (fun _ => 0), 0, (fun _ => 0), 0, (fun _ => 0), 0, 0, 0, 0, (fun _ => 0), (fun _ => 0), (fun _ => 0), 0, (fun _ => 0))
