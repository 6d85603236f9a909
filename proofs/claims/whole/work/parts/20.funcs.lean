/-! the methods as plain functions (by program) -/
noncomputable def fJ0_coder_7d493_6 (s0 : Int32) (m : qM) : Option (Int32 × qM) :=
  bif leb (0 : Int32) s0 then (bif leb s0 (127 : Int32) then some (s0, m) else none) else none
noncomputable def fJ0_coder_7d493_0 (a0 : Nat) (m : qM) : Option (Int32 × qM) :=
  bif eqb ((1 : Int32)) ((0 : Int32)) then fJ0_coder_7d493_6 ((1 : Int32)) m else bif qtx a0 then fJ0_coder_7d493_6 ((0 : Int32)) m else none
theorem fJ0_coder_7d493_x : ∃ f : Nat → qM → Option (Int32 × qM), f = fun a0 m => fJ0_coder_7d493_0 a0 m := ⟨_, rfl⟩
noncomputable def fJ0_coder_7d493 : Nat → qM → Option (Int32 × qM) := Classical.choose fJ0_coder_7d493_x
theorem fJ0_coder_7d493_d : fJ0_coder_7d493 = fun a0 m => fJ0_coder_7d493_0 a0 m := Classical.choose_spec fJ0_coder_7d493_x
noncomputable def fJ0_length_8abf5_0 (a0 : Nat) (m : qM) : Option (Int32 × qM) :=
  bif qtx a0 then bif qtv ((a0 + 100)) then qbI (bif qtx a0 then fJ0_coder_7d493 a0 m else none) (fun x1 m2 => some (((Int32.ofNat (qTlen ((a0 + 100) - 10200))) >>> (x1 &&& 31)), m2)) else none else none
theorem fJ0_length_8abf5_x : ∃ f : Nat → qM → Option (Int32 × qM), f = fun a0 m => fJ0_length_8abf5_0 a0 m := ⟨_, rfl⟩
noncomputable def fJ0_length_8abf5 : Nat → qM → Option (Int32 × qM) := Classical.choose fJ0_length_8abf5_x
theorem fJ0_length_8abf5_d : fJ0_length_8abf5 = fun a0 m => fJ0_length_8abf5_0 a0 m := Classical.choose_spec fJ0_length_8abf5_x
noncomputable def fJ0_isLatin1_aae02_8 (s0 : Int32) (m : qM) : Option (Int32 × qM) :=
  some (nz s0, m)
noncomputable def fJ0_isLatin1_aae02_7 (m : qM) : Option (Int32 × qM) :=
  fJ0_isLatin1_aae02_8 ((0 : Int32)) m
noncomputable def fJ0_isLatin1_aae02_0 (a0 : Nat) (m : qM) : Option (Int32 × qM) :=
  bif eqb ((1 : Int32)) ((0 : Int32)) then fJ0_isLatin1_aae02_7 m else bif qtx a0 then bif eqb ((0 : Int32)) ((0 : Int32)) then fJ0_isLatin1_aae02_8 ((1 : Int32)) m else fJ0_isLatin1_aae02_7 m else none
theorem fJ0_isLatin1_aae02_x : ∃ f : Nat → qM → Option (Int32 × qM), f = fun a0 m => fJ0_isLatin1_aae02_0 a0 m := ⟨_, rfl⟩
noncomputable def fJ0_isLatin1_aae02 : Nat → qM → Option (Int32 × qM) := Classical.choose fJ0_isLatin1_aae02_x
theorem fJ0_isLatin1_aae02_d : fJ0_isLatin1_aae02 = fun a0 m => fJ0_isLatin1_aae02_0 a0 m := Classical.choose_spec fJ0_isLatin1_aae02_x
noncomputable def fJ3_checkIndex_8e157_5 (a0 : Int32) (a1 : Int32) (m : qM) : Option (Int32 × qM) :=
  none
noncomputable def fJ3_checkIndex_8e157_0 (a0 : Int32) (a1 : Int32) (m : qM) : Option (Int32 × qM) :=
  bif ltb a0 ((0 : Int32)) then fJ3_checkIndex_8e157_5 a0 a1 m else bif ltb a0 a1 then some (a0, m) else fJ3_checkIndex_8e157_5 a0 a1 m
theorem fJ3_checkIndex_8e157_x : ∃ f : Int32 → Int32 → qM → Option (Int32 × qM), f = fun a0 a1 m => fJ3_checkIndex_8e157_0 a0 a1 m := ⟨_, rfl⟩
noncomputable def fJ3_checkIndex_8e157 : Int32 → Int32 → qM → Option (Int32 × qM) := Classical.choose fJ3_checkIndex_8e157_x
theorem fJ3_checkIndex_8e157_d : fJ3_checkIndex_8e157 = fun a0 a1 m => fJ3_checkIndex_8e157_0 a0 a1 m := Classical.choose_spec fJ3_checkIndex_8e157_x
noncomputable def fJ0_checkIndex_df160_0 (a0 : Int32) (a1 : Int32) (m : qM) : Option (Unit × qM) :=
  qbI (fJ3_checkIndex_8e157 a0 a1 m) (fun x1 m2 => some ((), m2))
theorem fJ0_checkIndex_df160_x : ∃ f : Int32 → Int32 → qM → Option (Unit × qM), f = fun a0 a1 m => fJ0_checkIndex_df160_0 a0 a1 m := ⟨_, rfl⟩
noncomputable def fJ0_checkIndex_df160 : Int32 → Int32 → qM → Option (Unit × qM) := Classical.choose fJ0_checkIndex_df160_x
theorem fJ0_checkIndex_df160_d : fJ0_checkIndex_df160 = fun a0 a1 m => fJ0_checkIndex_df160_0 a0 a1 m := Classical.choose_spec fJ0_checkIndex_df160_x
noncomputable def fJ1_charAt_3b067_0 (a0 : Nat) (a1 : Int32) (m : qM) : Option (Int32 × qM) :=
  bif qtv a0 then qbV (fJ0_checkIndex_df160 a1 ((Int32.ofNat (qTlen (a0 - 10200)))) m) (fun m1 => bif qtv a0 then (bif inb a1 (qTlen (a0 - 10200)) then bif leb (0 : Int32) (((Int32.toUInt32 (((qTb8 (a0 - 10200) (ix a1)) &&& (255 : Int32))) % 65536).toInt32)) then (bif leb (((Int32.toUInt32 (((qTb8 (a0 - 10200) (ix a1)) &&& (255 : Int32))) % 65536).toInt32)) (127 : Int32) then some (((Int32.toUInt32 (((qTb8 (a0 - 10200) (ix a1)) &&& (255 : Int32))) % 65536).toInt32), m1) else none) else none else none) else none) else none
theorem fJ1_charAt_3b067_x : ∃ f : Nat → Int32 → qM → Option (Int32 × qM), f = fun a0 a1 m => fJ1_charAt_3b067_0 a0 a1 m := ⟨_, rfl⟩
noncomputable def fJ1_charAt_3b067 : Nat → Int32 → qM → Option (Int32 × qM) := Classical.choose fJ1_charAt_3b067_x
theorem fJ1_charAt_3b067_d : fJ1_charAt_3b067 = fun a0 a1 m => fJ1_charAt_3b067_0 a0 a1 m := Classical.choose_spec fJ1_charAt_3b067_x
noncomputable def fJ0_charAt_5068e_0 (a0 : Nat) (a1 : Int32) (m : qM) : Option (Int32 × qM) :=
  qbI (bif qtx a0 then fJ0_isLatin1_aae02 a0 m else none) (fun x1 m2 => bif eqb x1 ((0 : Int32)) then bif qtx a0 then none else none else bif qtx a0 then qbI (fJ1_charAt_3b067 ((a0 + 100)) a1 m2) (fun x3 m4 => bif leb (0 : Int32) x3 then (bif leb x3 (127 : Int32) then some (x3, m4) else none) else none) else none)
theorem fJ0_charAt_5068e_x : ∃ f : Nat → Int32 → qM → Option (Int32 × qM), f = fun a0 a1 m => fJ0_charAt_5068e_0 a0 a1 m := ⟨_, rfl⟩
noncomputable def fJ0_charAt_5068e : Nat → Int32 → qM → Option (Int32 × qM) := Classical.choose fJ0_charAt_5068e_x
theorem fJ0_charAt_5068e_d : fJ0_charAt_5068e = fun a0 a1 m => fJ0_charAt_5068e_0 a0 a1 m := Classical.choose_spec fJ0_charAt_5068e_x
noncomputable def fX4_laid_0 (m : qM) : Option (Int32 × qM) :=
  some ((gI m 58 13), m)
theorem fX4_laid_x : ∃ f : qM → Option (Int32 × qM), f = fun m => fX4_laid_0 m := ⟨_, rfl⟩
noncomputable def fX4_laid : qM → Option (Int32 × qM) := Classical.choose fX4_laid_x
theorem fX4_laid_d : fX4_laid = fun m => fX4_laid_0 m := Classical.choose_spec fX4_laid_x
noncomputable def fX4_asks_0 (m : qM) : Option (Int32 × qM) :=
  some ((gI m 58 11), m)
theorem fX4_asks_x : ∃ f : qM → Option (Int32 × qM), f = fun m => fX4_asks_0 m := ⟨_, rfl⟩
noncomputable def fX4_asks : qM → Option (Int32 × qM) := Classical.choose fX4_asks_x
theorem fX4_asks_d : fX4_asks = fun m => fX4_asks_0 m := Classical.choose_spec fX4_asks_x
noncomputable def fX4_isMust_0 (a1 : Int32) (m : qM) : Option (Int32 × qM) :=
  bif inb a1 40 then some (nz ((gI m 61 (ix a1))), m) else none
theorem fX4_isMust_x : ∃ f : Int32 → qM → Option (Int32 × qM), f = fun a1 m => fX4_isMust_0 a1 m := ⟨_, rfl⟩
noncomputable def fX4_isMust : Int32 → qM → Option (Int32 × qM) := Classical.choose fX4_isMust_x
theorem fX4_isMust_d : fX4_isMust = fun a1 m => fX4_isMust_0 a1 m := Classical.choose_spec fX4_isMust_x
noncomputable def fX4_familyOf_0 (a1 : Int32) (m : qM) : Option (Int32 × qM) :=
  bif inb a1 40 then some ((gI m 59 (ix a1)), m) else none
theorem fX4_familyOf_x : ∃ f : Int32 → qM → Option (Int32 × qM), f = fun a1 m => fX4_familyOf_0 a1 m := ⟨_, rfl⟩
noncomputable def fX4_familyOf : Int32 → qM → Option (Int32 × qM) := Classical.choose fX4_familyOf_x
theorem fX4_familyOf_d : fX4_familyOf = fun a1 m => fX4_familyOf_0 a1 m := Classical.choose_spec fX4_familyOf_x
noncomputable def fX3_yearsOf_0 (a1 : Int32) (m : qM) : Option (Int32 × qM) :=
  bif inb a1 15 then some ((gI m 54 (ix a1)), m) else none
theorem fX3_yearsOf_x : ∃ f : Int32 → qM → Option (Int32 × qM), f = fun a1 m => fX3_yearsOf_0 a1 m := ⟨_, rfl⟩
noncomputable def fX3_yearsOf : Int32 → qM → Option (Int32 × qM) := Classical.choose fX3_yearsOf_x
theorem fX3_yearsOf_d : fX3_yearsOf = fun a1 m => fX3_yearsOf_0 a1 m := Classical.choose_spec fX3_yearsOf_x
noncomputable def fX4_isLaid_9 (s0 : Int32) (m : qM) : Option (Int32 × qM) :=
  some (nz s0, m)
noncomputable def fX4_isLaid_0 (a1 : Int32) (m : qM) : Option (Int32 × qM) :=
  bif inb a1 40 then bif eqb ((gI m 62 (ix a1))) ((-1 : Int32)) then fX4_isLaid_9 ((0 : Int32)) m else fX4_isLaid_9 ((1 : Int32)) m else none
theorem fX4_isLaid_x : ∃ f : Int32 → qM → Option (Int32 × qM), f = fun a1 m => fX4_isLaid_0 a1 m := ⟨_, rfl⟩
noncomputable def fX4_isLaid : Int32 → qM → Option (Int32 × qM) := Classical.choose fX4_isLaid_x
theorem fX4_isLaid_d : fX4_isLaid = fun a1 m => fX4_isLaid_0 a1 m := Classical.choose_spec fX4_isLaid_x
noncomputable def fX3_familySlots_0 (a1 : Int32) (m : qM) : Option (Int32 × qM) :=
  bif inb a1 15 then some ((gI m 51 (ix a1)), m) else none
theorem fX3_familySlots_x : ∃ f : Int32 → qM → Option (Int32 × qM), f = fun a1 m => fX3_familySlots_0 a1 m := ⟨_, rfl⟩
noncomputable def fX3_familySlots : Int32 → qM → Option (Int32 × qM) := Classical.choose fX3_familySlots_x
theorem fX3_familySlots_d : fX3_familySlots = fun a1 m => fX3_familySlots_0 a1 m := Classical.choose_spec fX3_familySlots_x
noncomputable def fX3_teacherSlots_0 (a1 : Int32) (m : qM) : Option (Int32 × qM) :=
  bif inb a1 10 then some ((gI m 50 (ix a1)), m) else none
theorem fX3_teacherSlots_x : ∃ f : Int32 → qM → Option (Int32 × qM), f = fun a1 m => fX3_teacherSlots_0 a1 m := ⟨_, rfl⟩
noncomputable def fX3_teacherSlots : Int32 → qM → Option (Int32 × qM) := Classical.choose fX3_teacherSlots_x
theorem fX3_teacherSlots_d : fX3_teacherSlots = fun a1 m => fX3_teacherSlots_0 a1 m := Classical.choose_spec fX3_teacherSlots_x
noncomputable def fX3_tongueOf_0 (a1 : Int32) (m : qM) : Option (Int32 × qM) :=
  bif inb a1 15 then some ((gI m 52 (ix a1)), m) else none
theorem fX3_tongueOf_x : ∃ f : Int32 → qM → Option (Int32 × qM), f = fun a1 m => fX3_tongueOf_0 a1 m := ⟨_, rfl⟩
noncomputable def fX3_tongueOf : Int32 → qM → Option (Int32 × qM) := Classical.choose fX3_tongueOf_x
theorem fX3_tongueOf_d : fX3_tongueOf = fun a1 m => fX3_tongueOf_0 a1 m := Classical.choose_spec fX3_tongueOf_x
noncomputable def fX4_askOf_0 (a1 : Int32) (a2 : Int32) (m : qM) : Option (Int32 × qM) :=
  bif inb (((a1 * (10 : Int32)) + a2)) 150 then some ((gI m 63 (ix (((a1 * (10 : Int32)) + a2)))), m) else none
theorem fX4_askOf_x : ∃ f : Int32 → Int32 → qM → Option (Int32 × qM), f = fun a1 a2 m => fX4_askOf_0 a1 a2 m := ⟨_, rfl⟩
noncomputable def fX4_askOf : Int32 → Int32 → qM → Option (Int32 × qM) := Classical.choose fX4_askOf_x
theorem fX4_askOf_d : fX4_askOf = fun a1 a2 m => fX4_askOf_0 a1 a2 m := Classical.choose_spec fX4_askOf_x
noncomputable def fX3_walkSlots_0 (a1 : Int32) (a2 : Int32) (m : qM) : Option (Int32 × qM) :=
  bif inb (((a1 * (10 : Int32)) + a2)) 100 then some ((gI m 57 (ix (((a1 * (10 : Int32)) + a2)))), m) else none
theorem fX3_walkSlots_x : ∃ f : Int32 → Int32 → qM → Option (Int32 × qM), f = fun a1 a2 m => fX3_walkSlots_0 a1 a2 m := ⟨_, rfl⟩
noncomputable def fX3_walkSlots : Int32 → Int32 → qM → Option (Int32 × qM) := Classical.choose fX3_walkSlots_x
theorem fX3_walkSlots_d : fX3_walkSlots = fun a1 a2 m => fX3_walkSlots_0 a1 a2 m := Classical.choose_spec fX3_walkSlots_x
noncomputable def fJ9_max_7cf53_6 (s0 : Int32) (m : qM) : Option (Int32 × qM) :=
  some (s0, m)
noncomputable def fJ9_max_7cf53_0 (a0 : Int32) (a1 : Int32) (m : qM) : Option (Int32 × qM) :=
  bif ltb a0 a1 then fJ9_max_7cf53_6 a1 m else fJ9_max_7cf53_6 a0 m
theorem fJ9_max_7cf53_x : ∃ f : Int32 → Int32 → qM → Option (Int32 × qM), f = fun a0 a1 m => fJ9_max_7cf53_0 a0 a1 m := ⟨_, rfl⟩
noncomputable def fJ9_max_7cf53 : Int32 → Int32 → qM → Option (Int32 × qM) := Classical.choose fJ9_max_7cf53_x
theorem fJ9_max_7cf53_d : fJ9_max_7cf53 = fun a0 a1 m => fJ9_max_7cf53_0 a0 a1 m := Classical.choose_spec fJ9_max_7cf53_x
noncomputable def fJ9_min_7cf53_6 (s0 : Int32) (m : qM) : Option (Int32 × qM) :=
  some (s0, m)
noncomputable def fJ9_min_7cf53_0 (a0 : Int32) (a1 : Int32) (m : qM) : Option (Int32 × qM) :=
  bif ltb a1 a0 then fJ9_min_7cf53_6 a1 m else fJ9_min_7cf53_6 a0 m
theorem fJ9_min_7cf53_x : ∃ f : Int32 → Int32 → qM → Option (Int32 × qM), f = fun a0 a1 m => fJ9_min_7cf53_0 a0 a1 m := ⟨_, rfl⟩
noncomputable def fJ9_min_7cf53 : Int32 → Int32 → qM → Option (Int32 × qM) := Classical.choose fJ9_min_7cf53_x
theorem fJ9_min_7cf53_d : fJ9_min_7cf53 = fun a0 a1 m => fJ9_min_7cf53_0 a0 a1 m := Classical.choose_spec fJ9_min_7cf53_x
noncomputable def fX11_slotsFrom_24 (s0 : Int32) (m : qM) : Option (Int32 × qM) :=
  some (s0, m)
noncomputable def fX11_slotsFrom_0 (a0 : Int32) (a1 : Int32) (m : qM) : Option (Int32 × qM) :=
  qbI (fJ9_max_7cf53 a0 ((0 : Int32)) m) (fun x1 m2 => qbI (fJ9_min_7cf53 a1 ((19 : Int32)) m2) (fun x3 m4 => bif leb x1 x3 then fX11_slotsFrom_24 (((((1 : Int32) <<< (((x3 - x1) + (1 : Int32)) &&& 31)) - (1 : Int32)) <<< (x1 &&& 31))) m4 else fX11_slotsFrom_24 ((0 : Int32)) m4))
theorem fX11_slotsFrom_x : ∃ f : Int32 → Int32 → qM → Option (Int32 × qM), f = fun a0 a1 m => fX11_slotsFrom_0 a0 a1 m := ⟨_, rfl⟩
noncomputable def fX11_slotsFrom : Int32 → Int32 → qM → Option (Int32 × qM) := Classical.choose fX11_slotsFrom_x
theorem fX11_slotsFrom_d : fX11_slotsFrom = fun a0 a1 m => fX11_slotsFrom_0 a0 a1 m := Classical.choose_spec fX11_slotsFrom_x
noncomputable def fX4_tooNearForWalks_48 (k11 : Int32 → Int32 → Int32 → Int32 → qM → Option (Int32 × qM)) (a1 : Int32) (a2 : Int32) (a3 : Int32) (a4 : Int32) (m : qM) : Option (Int32 × qM) :=
  k11 a1 a2 a3 ((a4 + (1 : Int32))) m
noncomputable def fX4_tooNearForWalks_11 : Nat → Int32 → Int32 → Int32 → Int32 → qM → Option (Int32 × qM)
  | 0, _, _, _, _, _ => none
  | n + 1, a1, a2, a3, a4, m =>
    bif leb ((10 : Int32)) a4 then some (a3, m) else qbI (fX4_askOf a1 a4 m) (fun x1 m2 => bif eqb x1 ((-1 : Int32)) then fX4_tooNearForWalks_48 (fX4_tooNearForWalks_11 n) a1 a2 a3 a4 m2 else qbI (fX4_isLaid x1 m2) (fun x3 m4 => bif eqb x3 ((0 : Int32)) then fX4_tooNearForWalks_48 (fX4_tooNearForWalks_11 n) a1 a2 a3 a4 m4 else qbI (fX3_walkSlots a2 a4 m4) (fun x5 m6 => bif inb x1 40 then bif inb x1 40 then qbI (fX11_slotsFrom (((gI m6 62 (ix x1)) - x5)) (((gI m6 62 (ix x1)) + x5)) m6) (fun x7 m8 => fX4_tooNearForWalks_48 (fX4_tooNearForWalks_11 n) a1 a2 ((a3 ||| x7)) a4 m8) else none else none)))
noncomputable def fX4_tooNearForWalks_0 (a1 : Int32) (a2 : Int32) (m : qM) : Option (Int32 × qM) :=
  bif inb a1 15 then bif eqb ((gI m 65 (ix a1))) ((0 : Int32)) then some ((0 : Int32), m) else fX4_tooNearForWalks_11 FU a1 a2 ((0 : Int32)) ((0 : Int32)) m else none
theorem fX4_tooNearForWalks_x : ∃ f : Int32 → Int32 → qM → Option (Int32 × qM), f = fun a1 a2 m => fX4_tooNearForWalks_0 a1 a2 m := ⟨_, rfl⟩
noncomputable def fX4_tooNearForWalks : Int32 → Int32 → qM → Option (Int32 × qM) := Classical.choose fX4_tooNearForWalks_x
theorem fX4_tooNearForWalks_d : fX4_tooNearForWalks = fun a1 a2 m => fX4_tooNearForWalks_0 a1 a2 m := Classical.choose_spec fX4_tooNearForWalks_x
noncomputable def fX3_apartFrom_0 (a1 : Int32) (m : qM) : Option (Int32 × qM) :=
  bif inb a1 15 then some ((gI m 55 (ix a1)), m) else none
theorem fX3_apartFrom_x : ∃ f : Int32 → qM → Option (Int32 × qM), f = fun a1 m => fX3_apartFrom_0 a1 m := ⟨_, rfl⟩
noncomputable def fX3_apartFrom : Int32 → qM → Option (Int32 × qM) := Classical.choose fX3_apartFrom_x
theorem fX3_apartFrom_d : fX3_apartFrom = fun a1 m => fX3_apartFrom_0 a1 m := Classical.choose_spec fX3_apartFrom_x
noncomputable def fX11_has_9 (s0 : Int32) (m : qM) : Option (Int32 × qM) :=
  some (nz s0, m)
noncomputable def fX11_has_0 (a0 : Int32) (a1 : Int32) (m : qM) : Option (Int32 × qM) :=
  bif eqb (((a0 >>> (a1 &&& 31)) &&& (1 : Int32))) ((0 : Int32)) then fX11_has_9 ((0 : Int32)) m else fX11_has_9 ((1 : Int32)) m
theorem fX11_has_x : ∃ f : Int32 → Int32 → qM → Option (Int32 × qM), f = fun a0 a1 m => fX11_has_0 a0 a1 m := ⟨_, rfl⟩
noncomputable def fX11_has : Int32 → Int32 → qM → Option (Int32 × qM) := Classical.choose fX11_has_x
theorem fX11_has_d : fX11_has = fun a0 a1 m => fX11_has_0 a0 a1 m := Classical.choose_spec fX11_has_x
noncomputable def fX11_within_9 (s0 : Int32) (m : qM) : Option (Int32 × qM) :=
  some (nz s0, m)
noncomputable def fX11_within_8 (m : qM) : Option (Int32 × qM) :=
  fX11_within_9 ((0 : Int32)) m
noncomputable def fX11_within_0 (a0 : Int32) (a1 : Int32) (a2 : Int32) (m : qM) : Option (Int32 × qM) :=
  bif ltb a0 a1 then fX11_within_8 m else bif ltb a2 a0 then fX11_within_8 m else fX11_within_9 ((1 : Int32)) m
theorem fX11_within_x : ∃ f : Int32 → Int32 → Int32 → qM → Option (Int32 × qM), f = fun a0 a1 a2 m => fX11_within_0 a0 a1 a2 m := ⟨_, rfl⟩
noncomputable def fX11_within : Int32 → Int32 → Int32 → qM → Option (Int32 × qM) := Classical.choose fX11_within_x
theorem fX11_within_d : fX11_within = fun a0 a1 a2 m => fX11_within_0 a0 a1 a2 m := Classical.choose_spec fX11_within_x
noncomputable def fX7_told_11 (s0 : Int32) (m : qM) : Option (Int32 × qM) :=
  some (s0, m)
noncomputable def fX7_told_0 (a1 : Int32) (m : qM) : Option (Int32 × qM) :=
  qbI (fX11_within a1 ((0 : Int32)) ((5 : Int32)) m) (fun x1 m2 => bif eqb x1 ((0 : Int32)) then fX7_told_11 ((0 : Int32)) m2 else bif inb a1 6 then fX7_told_11 ((gI m2 5 (ix a1))) m2 else none)
theorem fX7_told_x : ∃ f : Int32 → qM → Option (Int32 × qM), f = fun a1 m => fX7_told_0 a1 m := ⟨_, rfl⟩
noncomputable def fX7_told : Int32 → qM → Option (Int32 × qM) := Classical.choose fX7_told_x
theorem fX7_told_d : fX7_told = fun a1 m => fX7_told_0 a1 m := Classical.choose_spec fX7_told_x
noncomputable def fX4_tooNearForApart_21 (k4 : Int32 → Int32 → Int32 → qM → Option (Int32 × qM)) (a1 : Int32) (a2 : Int32) (a3 : Int32) (m : qM) : Option (Int32 × qM) :=
  k4 a1 a2 ((a3 + (1 : Int32))) m
noncomputable def fX4_tooNearForApart_4 (k27 : Int32 → Int32 → Int32 → qM → Option (Int32 × qM)) : Nat → Int32 → Int32 → Int32 → qM → Option (Int32 × qM)
  | 0, _, _, _, _ => none
  | n + 1, a1, a2, a3, m =>
    bif leb ((15 : Int32)) a3 then k27 a2 a2 ((1 : Int32)) m else qbI (fX3_apartFrom a1 m) (fun x1 m2 => qbI (fX11_has x1 a3 m2) (fun x3 m4 => bif eqb x3 ((0 : Int32)) then fX4_tooNearForApart_21 (fX4_tooNearForApart_4 k27 n) a1 a2 a3 m4 else bif inb a3 15 then fX4_tooNearForApart_21 (fX4_tooNearForApart_4 k27 n) a1 ((a2 ||| (gI m4 65 (ix a3)))) a3 m4 else none))
noncomputable def fX4_tooNearForApart_27 : Nat → Int32 → Int32 → Int32 → qM → Option (Int32 × qM)
  | 0, _, _, _, _ => none
  | n + 1, a2, a3, a4, m =>
    qbI (fX7_told ((5 : Int32)) m) (fun x5 m6 => bif ltb x5 a4 then some (a3, m6) else let x7 : Int32 := (a3 ||| ((a2 <<< (a4 &&& 31)) ||| (a2 >>> (a4 &&& 31)))); (fX4_tooNearForApart_27 n) a2 x7 ((a4 + (1 : Int32))) m6)
noncomputable def fX4_tooNearForApart_0 (a1 : Int32) (m : qM) : Option (Int32 × qM) :=
  fX4_tooNearForApart_4 (fX4_tooNearForApart_27 FU) FU a1 ((0 : Int32)) ((0 : Int32)) m
theorem fX4_tooNearForApart_x : ∃ f : Int32 → qM → Option (Int32 × qM), f = fun a1 m => fX4_tooNearForApart_0 a1 m := ⟨_, rfl⟩
noncomputable def fX4_tooNearForApart : Int32 → qM → Option (Int32 × qM) := Classical.choose fX4_tooNearForApart_x
theorem fX4_tooNearForApart_d : fX4_tooNearForApart = fun a1 m => fX4_tooNearForApart_0 a1 m := Classical.choose_spec fX4_tooNearForApart_x
noncomputable def fX4_tooManyInARow_25 (k34 : Int32 → Int32 → Int32 → Int32 → Int32 → qM → Option (Int32 × qM)) : Nat → Int32 → Int32 → Int32 → Int32 → Int32 → Int32 → qM → Option (Int32 × qM)
  | 0, _, _, _, _, _, _, _ => none
  | n + 1, a2, a3, a4, a5, a6, a7, m =>
    bif ltb a7 ((0 : Int32)) then k34 a2 a3 a4 a5 a6 m else qbI (fX11_has a3 a7 m) (fun x3 m4 => bif eqb x3 ((0 : Int32)) then k34 a2 a3 a4 a5 a6 m4 else (fX4_tooManyInARow_25 k34 n) a2 a3 a4 a5 ((a6 + (1 : Int32))) ((a7 + (-1 : Int32))) m4)
noncomputable def fX4_tooManyInARow_38 (k48 : Int32 → Int32 → Int32 → Int32 → Int32 → qM → Option (Int32 × qM)) : Nat → Int32 → Int32 → Int32 → Int32 → Int32 → Int32 → qM → Option (Int32 × qM)
  | 0, _, _, _, _, _, _, _ => none
  | n + 1, a2, a3, a4, a5, a6, a7, m =>
    bif leb ((20 : Int32)) a7 then k48 a2 a3 a4 a5 a6 m else qbI (fX11_has a3 a7 m) (fun x5 m6 => bif eqb x5 ((0 : Int32)) then k48 a2 a3 a4 a5 a6 m6 else (fX4_tooManyInARow_38 k48 n) a2 a3 a4 a5 ((a6 + (1 : Int32))) ((a7 + (1 : Int32))) m6)
noncomputable def fX4_tooManyInARow_57 (k14 : Int32 → Int32 → Int32 → Int32 → qM → Option (Int32 × qM)) (a2 : Int32) (a3 : Int32) (a4 : Int32) (a5 : Int32) (m : qM) : Option (Int32 × qM) :=
  k14 a2 a3 a4 ((a5 + (1 : Int32))) m
noncomputable def fX4_tooManyInARow_48 (k14 : Int32 → Int32 → Int32 → Int32 → qM → Option (Int32 × qM)) (a2 : Int32) (a3 : Int32) (a4 : Int32) (a5 : Int32) (a6 : Int32) (m : qM) : Option (Int32 × qM) :=
  bif leb a6 a2 then fX4_tooManyInARow_57 k14 a2 a3 a4 a5 m else fX4_tooManyInARow_57 k14 a2 a3 ((a4 ||| ((1 : Int32) <<< (a5 &&& 31)))) a5 m
noncomputable def fX4_tooManyInARow_34 (k14 : Int32 → Int32 → Int32 → Int32 → qM → Option (Int32 × qM)) (a2 : Int32) (a3 : Int32) (a4 : Int32) (a5 : Int32) (a6 : Int32) (m : qM) : Option (Int32 × qM) :=
  fX4_tooManyInARow_38 (fX4_tooManyInARow_48 k14) FU a2 a3 a4 a5 a6 ((a5 + (1 : Int32))) m
noncomputable def fX4_tooManyInARow_14 (k59 : Int32 → qM → Option (Int32 × qM)) : Nat → Int32 → Int32 → Int32 → Int32 → qM → Option (Int32 × qM)
  | 0, _, _, _, _, _ => none
  | n + 1, a2, a3, a4, a5, m =>
    bif leb ((20 : Int32)) a5 then k59 a4 m else bif leb a2 ((0 : Int32)) then k59 a4 m else fX4_tooManyInARow_25 (fX4_tooManyInARow_34 (fX4_tooManyInARow_14 k59 n)) FU a2 a3 a4 a5 ((1 : Int32)) ((a5 - (1 : Int32))) m
noncomputable def fX4_tooManyInARow_59 (a4 : Int32) (m : qM) : Option (Int32 × qM) :=
  some (a4, m)
noncomputable def fX4_tooManyInARow_0 (a1 : Int32) (m : qM) : Option (Int32 × qM) :=
  qbI (fX7_told ((4 : Int32)) m) (fun x1 m2 => bif inb a1 10 then fX4_tooManyInARow_14 fX4_tooManyInARow_59 FU x1 ((gI m2 66 (ix a1))) ((0 : Int32)) ((0 : Int32)) m2 else none)
theorem fX4_tooManyInARow_x : ∃ f : Int32 → qM → Option (Int32 × qM), f = fun a1 m => fX4_tooManyInARow_0 a1 m := ⟨_, rfl⟩
noncomputable def fX4_tooManyInARow : Int32 → qM → Option (Int32 × qM) := Classical.choose fX4_tooManyInARow_x
theorem fX4_tooManyInARow_d : fX4_tooManyInARow = fun a1 m => fX4_tooManyInARow_0 a1 m := Classical.choose_spec fX4_tooManyInARow_x
noncomputable def fX4_openSlots_70 (a4 : Int32) (m : qM) : Option (Int32 × qM) :=
  some (a4, m)
noncomputable def fX4_openSlots_51 (a2 : Int32) (a3 : Int32) (a4 : Int32) (m : qM) : Option (Int32 × qM) :=
  bif eqb a4 ((0 : Int32)) then fX4_openSlots_70 a4 m else qbI (fX4_tooNearForWalks a2 a3 m) (fun x11 m12 => qbI (fX4_tooNearForApart a2 m12) (fun x13 m14 => qbI (fX4_tooManyInARow a3 m14) (fun x15 m16 => let x17 : Int32 := (a4 &&& (((x11 ||| x13) ||| x15) ^^^ (-1 : Int32))); fX4_openSlots_70 x17 m16)))
noncomputable def fX4_openSlots_0 (a1 : Int32) (m : qM) : Option (Int32 × qM) :=
  bif inb a1 40 then bif inb a1 40 then qbI (fX3_familySlots ((gI m 59 (ix a1))) m) (fun x1 m2 => qbI (fX3_teacherSlots ((gI m 60 (ix a1))) m2) (fun x3 m4 => bif inb ((gI m 59 (ix a1))) 15 then bif inb ((gI m 60 (ix a1))) 10 then let x5 : Int32 := ((x1 &&& x3) &&& (((gI m4 65 (ix ((gI m 59 (ix a1))))) ||| (gI m4 66 (ix ((gI m 60 (ix a1)))))) ^^^ (-1 : Int32))); qbI (fX3_tongueOf ((gI m 59 (ix a1))) m4) (fun x6 m7 => bif leb x6 ((0 : Int32)) then fX4_openSlots_51 ((gI m 59 (ix a1))) ((gI m 60 (ix a1))) x5 m7 else qbI (fX3_tongueOf ((gI m 59 (ix a1))) m7) (fun x8 m9 => bif inb x8 4 then let x10 : Int32 := (x5 &&& ((gI m9 67 (ix x8)) ^^^ (-1 : Int32))); fX4_openSlots_51 ((gI m 59 (ix a1))) ((gI m 60 (ix a1))) x10 m9 else none)) else none else none)) else none else none
theorem fX4_openSlots_x : ∃ f : Int32 → qM → Option (Int32 × qM), f = fun a1 m => fX4_openSlots_0 a1 m := ⟨_, rfl⟩
noncomputable def fX4_openSlots : Int32 → qM → Option (Int32 × qM) := Classical.choose fX4_openSlots_x
theorem fX4_openSlots_d : fX4_openSlots = fun a1 m => fX4_openSlots_0 a1 m := Classical.choose_spec fX4_openSlots_x
noncomputable def fX3_wishOf_0 (a1 : Int32) (m : qM) : Option (Int32 × qM) :=
  bif inb a1 15 then some ((gI m 53 (ix a1)), m) else none
theorem fX3_wishOf_x : ∃ f : Int32 → qM → Option (Int32 × qM), f = fun a1 m => fX3_wishOf_0 a1 m := ⟨_, rfl⟩
noncomputable def fX3_wishOf : Int32 → qM → Option (Int32 × qM) := Classical.choose fX3_wishOf_x
theorem fX3_wishOf_d : fX3_wishOf = fun a1 m => fX3_wishOf_0 a1 m := Classical.choose_spec fX3_wishOf_x
noncomputable def fJ6_bitCount_0f7a4_0 (a0 : Int32) (m : qM) : Option (Int32 × qM) :=
  let x1 : Int32 := (a0 - (((Int32.toUInt32 a0 >>> (Int32.toUInt32 ((1 : Int32)) &&& Int32.toUInt32 31)).toInt32) &&& (1431655765 : Int32))); let x2 : Int32 := ((x1 &&& (858993459 : Int32)) + (((Int32.toUInt32 x1 >>> (Int32.toUInt32 ((2 : Int32)) &&& Int32.toUInt32 31)).toInt32) &&& (858993459 : Int32))); let x3 : Int32 := ((x2 + ((Int32.toUInt32 x2 >>> (Int32.toUInt32 ((4 : Int32)) &&& Int32.toUInt32 31)).toInt32)) &&& (252645135 : Int32)); let x4 : Int32 := (x3 + ((Int32.toUInt32 x3 >>> (Int32.toUInt32 ((8 : Int32)) &&& Int32.toUInt32 31)).toInt32)); let x5 : Int32 := (x4 + ((Int32.toUInt32 x4 >>> (Int32.toUInt32 ((16 : Int32)) &&& Int32.toUInt32 31)).toInt32)); some ((x5 &&& (63 : Int32)), m)
theorem fJ6_bitCount_0f7a4_x : ∃ f : Int32 → qM → Option (Int32 × qM), f = fun a0 m => fJ6_bitCount_0f7a4_0 a0 m := ⟨_, rfl⟩
noncomputable def fJ6_bitCount_0f7a4 : Int32 → qM → Option (Int32 × qM) := Classical.choose fJ6_bitCount_0f7a4_x
theorem fJ6_bitCount_0f7a4_d : fJ6_bitCount_0f7a4 = fun a0 m => fJ6_bitCount_0f7a4_0 a0 m := Classical.choose_spec fJ6_bitCount_0f7a4_x
noncomputable def fX11_leastOf_0 (a0 : Int32) (m : qM) : Option (Int32 × qM) :=
  qbI (fJ6_bitCount_0f7a4 (((a0 &&& (-a0)) - (1 : Int32))) m) (fun x1 m2 => some (x1, m2))
theorem fX11_leastOf_x : ∃ f : Int32 → qM → Option (Int32 × qM), f = fun a0 m => fX11_leastOf_0 a0 m := ⟨_, rfl⟩
noncomputable def fX11_leastOf : Int32 → qM → Option (Int32 × qM) := Classical.choose fX11_leastOf_x
theorem fX11_leastOf_d : fX11_leastOf = fun a0 m => fX11_leastOf_0 a0 m := Classical.choose_spec fX11_leastOf_x
noncomputable def fX11_gapsIn_0 (a0 : Int32) (m : qM) : Option (Int32 × qM) :=
  let x1 : Int32 := ((a0 ||| (a0 >>> ((1 : Int32) &&& 31))) ||| ((a0 ||| (a0 >>> ((1 : Int32) &&& 31))) >>> ((2 : Int32) &&& 31))); let x2 : Int32 := ((x1 ||| (x1 >>> ((4 : Int32) &&& 31))) ||| ((x1 ||| (x1 >>> ((4 : Int32) &&& 31))) >>> ((8 : Int32) &&& 31))); qbI (fJ6_bitCount_0f7a4 ((((x2 ||| (x2 >>> ((16 : Int32) &&& 31))) &&& (a0 ||| (-a0))) &&& (a0 ^^^ (-1 : Int32)))) m) (fun x3 m4 => some (x3, m4))
theorem fX11_gapsIn_x : ∃ f : Int32 → qM → Option (Int32 × qM), f = fun a0 m => fX11_gapsIn_0 a0 m := ⟨_, rfl⟩
noncomputable def fX11_gapsIn : Int32 → qM → Option (Int32 × qM) := Classical.choose fX11_gapsIn_x
theorem fX11_gapsIn_d : fX11_gapsIn = fun a0 m => fX11_gapsIn_0 a0 m := Classical.choose_spec fX11_gapsIn_x
noncomputable def fX4_mark_64 (m : qM) : Option (Unit × qM) :=
  some ((), m)
noncomputable def fX4_mark_0 (a1 : Int32) (a2 : Int32) (m : qM) : Option (Unit × qM) :=
  bif inb a1 40 then bif inb ((gI m 59 (ix a1))) 15 then qbI (fX11_gapsIn ((gI m 65 (ix ((gI m 59 (ix a1)))))) m) (fun x1 m2 => let m3 := (sI m2 58 15 (((gI m 58 15) - x1))); bif inb ((gI m 59 (ix a1))) 15 then bif inb ((gI m 59 (ix a1))) 15 then let m4 := (sI m3 65 (ix ((gI m 59 (ix a1)))) (((gI m3 65 (ix ((gI m 59 (ix a1))))) ^^^ ((1 : Int32) <<< (a2 &&& 31))))); bif inb ((gI m 59 (ix a1))) 15 then qbI (fX11_gapsIn ((gI m4 65 (ix ((gI m 59 (ix a1)))))) m4) (fun x5 m6 => let m7 := (sI m6 58 15 (((gI m4 58 15) + x5))); bif inb a1 40 then bif inb ((gI m7 60 (ix a1))) 10 then bif inb ((gI m7 60 (ix a1))) 10 then let m8 := (sI m7 66 (ix ((gI m7 60 (ix a1)))) (((gI m7 66 (ix ((gI m7 60 (ix a1))))) ^^^ ((1 : Int32) <<< (a2 &&& 31))))); qbI (fX3_tongueOf ((gI m 59 (ix a1))) m8) (fun x9 m10 => bif leb x9 ((0 : Int32)) then fX4_mark_64 m10 else qbI (fX3_tongueOf ((gI m 59 (ix a1))) m10) (fun x11 m12 => bif inb x11 4 then bif inb x11 4 then let m13 := (sI m12 67 (ix x11) (((gI m12 67 (ix x11)) ^^^ ((1 : Int32) <<< (a2 &&& 31))))); fX4_mark_64 m13 else none else none)) else none else none else none) else none else none else none) else none else none
theorem fX4_mark_x : ∃ f : Int32 → Int32 → qM → Option (Unit × qM), f = fun a1 a2 m => fX4_mark_0 a1 a2 m := ⟨_, rfl⟩
noncomputable def fX4_mark : Int32 → Int32 → qM → Option (Unit × qM) := Classical.choose fX4_mark_x
theorem fX4_mark_d : fX4_mark = fun a1 a2 m => fX4_mark_0 a1 a2 m := Classical.choose_spec fX4_mark_x
noncomputable def fX4_pointsIn_20 (s0 : Int32) (m : qM) : Option (Int32 × qM) :=
  some (s0, m)
noncomputable def fX4_pointsIn_0 (a1 : Int32) (a2 : Int32) (m : qM) : Option (Int32 × qM) :=
  bif inb a1 40 then qbI (fX3_wishOf ((gI m 59 (ix a1))) m) (fun x1 m2 => qbI (fX11_has x1 a2 m2) (fun x3 m4 => bif eqb x3 ((0 : Int32)) then fX4_pointsIn_20 ((0 : Int32)) m4 else qbI (fX3_yearsOf ((gI m 59 (ix a1))) m4) (fun x5 m6 => fX4_pointsIn_20 (((1 : Int32) + x5)) m6))) else none
theorem fX4_pointsIn_x : ∃ f : Int32 → Int32 → qM → Option (Int32 × qM), f = fun a1 a2 m => fX4_pointsIn_0 a1 a2 m := ⟨_, rfl⟩
noncomputable def fX4_pointsIn : Int32 → Int32 → qM → Option (Int32 × qM) := Classical.choose fX4_pointsIn_x
theorem fX4_pointsIn_d : fX4_pointsIn = fun a1 a2 m => fX4_pointsIn_0 a1 a2 m := Classical.choose_spec fX4_pointsIn_x
noncomputable def fX4_put_38 (a1 : Int32) (a2 : Int32) (s0 : Int32) (s1 : Int32) (m : qM) : Option (Unit × qM) :=
  let m5 := (sI m 58 14 ((s1 + s0))); qbI (fX4_pointsIn a1 a2 m5) (fun x6 m7 => let m8 := (sI m7 58 16 (((gI m5 58 16) + x6))); some ((), m8))
noncomputable def fX4_put_0 (a1 : Int32) (a2 : Int32) (m : qM) : Option (Unit × qM) :=
  qbV (fX4_mark a1 a2 m) (fun m1 => bif inb a1 40 then let m2 := (sI m1 62 (ix a1) a2); bif inb a1 40 then bif inb ((((gI m2 60 (ix a1)) * (20 : Int32)) + a2)) 200 then let m3 := (sI m2 64 (ix ((((gI m2 60 (ix a1)) * (20 : Int32)) + a2))) a1); let m4 := (sI m3 58 13 (((gI m3 58 13) + (1 : Int32)))); bif inb a1 40 then bif eqb ((gI m4 61 (ix a1))) ((0 : Int32)) then fX4_put_38 a1 a2 ((0 : Int32)) ((gI m4 58 14)) m4 else fX4_put_38 a1 a2 ((1 : Int32)) ((gI m4 58 14)) m4 else none else none else none else none)
theorem fX4_put_x : ∃ f : Int32 → Int32 → qM → Option (Unit × qM), f = fun a1 a2 m => fX4_put_0 a1 a2 m := ⟨_, rfl⟩
noncomputable def fX4_put : Int32 → Int32 → qM → Option (Unit × qM) := Classical.choose fX4_put_x
theorem fX4_put_d : fX4_put = fun a1 a2 m => fX4_put_0 a1 a2 m := Classical.choose_spec fX4_put_x
noncomputable def fX0_layFirst_27 (m : qM) : Option (Unit × qM) :=
  some ((), m)
noncomputable def fX0_layFirst_25 (s0 : Int32) (s1 : Int32) (m : qM) : Option (Unit × qM) :=
  qbI (fX11_leastOf s0 m) (fun x7 m8 => qbV (fX4_put s1 x7 m8) (fun m9 => fX0_layFirst_27 m9))
noncomputable def fX0_layFirst_0 (a1 : Int32) (m : qM) : Option (Unit × qM) :=
  qbI (fX4_openSlots a1 m) (fun x1 m2 => qbI (fX4_familyOf a1 m2) (fun x3 m4 => qbI (fX3_wishOf x3 m4) (fun x5 m6 => bif eqb x1 ((0 : Int32)) then fX0_layFirst_27 m6 else bif eqb ((x1 &&& x5)) ((0 : Int32)) then fX0_layFirst_25 x1 a1 m6 else fX0_layFirst_25 ((x1 &&& x5)) a1 m6)))
theorem fX0_layFirst_x : ∃ f : Int32 → qM → Option (Unit × qM), f = fun a1 m => fX0_layFirst_0 a1 m := ⟨_, rfl⟩
noncomputable def fX0_layFirst : Int32 → qM → Option (Unit × qM) := Classical.choose fX0_layFirst_x
theorem fX0_layFirst_d : fX0_layFirst = fun a1 m => fX0_layFirst_0 a1 m := Classical.choose_spec fX0_layFirst_x
noncomputable def fX0_layThose_40 (k6 : Int32 → Int32 → Int32 → qM → Option (Unit × qM)) (a1 : Int32) (a2 : Int32) (a3 : Int32) (m : qM) : Option (Unit × qM) :=
  k6 a1 a2 ((a3 + (1 : Int32))) m
noncomputable def fX0_layThose_29 (k6 : Int32 → Int32 → Int32 → qM → Option (Unit × qM)) (a1 : Int32) (a2 : Int32) (a3 : Int32) (s0 : Int32) (m : qM) : Option (Unit × qM) :=
  bif eqb s0 ((0 : Int32)) then fX0_layThose_40 k6 a1 a2 a3 m else qbI (fX4_isLaid a3 m) (fun x9 m10 => bif eqb x9 ((0 : Int32)) then qbV (fX0_layFirst a3 m10) (fun m11 => fX0_layThose_40 k6 a1 a2 a3 m11) else fX0_layThose_40 k6 a1 a2 a3 m10)
noncomputable def fX0_layThose_28 (k6 : Int32 → Int32 → Int32 → qM → Option (Unit × qM)) (a1 : Int32) (a2 : Int32) (a3 : Int32) (m : qM) : Option (Unit × qM) :=
  fX0_layThose_29 k6 a1 a2 a3 ((0 : Int32)) m
noncomputable def fX0_layThose_6 (k2 : Int32 → Int32 → qM → Option (Unit × qM)) : Nat → Int32 → Int32 → Int32 → qM → Option (Unit × qM)
  | 0, _, _, _, _ => none
  | n + 1, a1, a2, a3, m =>
    qbI (fX4_asks m) (fun x1 m2 => bif leb x1 a3 then k2 a1 ((a2 + (-1 : Int32))) m2 else qbI (fX4_isMust a3 m2) (fun x3 m4 => bif eqb x3 a1 then qbI (fX4_familyOf a3 m4) (fun x5 m6 => qbI (fX3_yearsOf x5 m6) (fun x7 m8 => bif eqb x7 a2 then fX0_layThose_29 (fX0_layThose_6 k2 n) a1 a2 a3 ((1 : Int32)) m8 else fX0_layThose_28 (fX0_layThose_6 k2 n) a1 a2 a3 m8)) else fX0_layThose_28 (fX0_layThose_6 k2 n) a1 a2 a3 m4))
noncomputable def fX0_layThose_2 : Nat → Int32 → Int32 → qM → Option (Unit × qM)
  | 0, _, _, _ => none
  | n + 1, a1, a2, m =>
    bif ltb a2 ((0 : Int32)) then some ((), m) else fX0_layThose_6 (fX0_layThose_2 n) FU a1 a2 ((0 : Int32)) m
noncomputable def fX0_layThose_0 (a1 : Int32) (m : qM) : Option (Unit × qM) :=
  fX0_layThose_2 FU a1 ((9 : Int32)) m
theorem fX0_layThose_x : ∃ f : Int32 → qM → Option (Unit × qM), f = fun a1 m => fX0_layThose_0 a1 m := ⟨_, rfl⟩
noncomputable def fX0_layThose : Int32 → qM → Option (Unit × qM) := Classical.choose fX0_layThose_x
theorem fX0_layThose_d : fX0_layThose = fun a1 m => fX0_layThose_0 a1 m := Classical.choose_spec fX0_layThose_x
noncomputable def fX0_layEveryOne_0 (m : qM) : Option (Int32 × qM) :=
  qbI (fX4_laid m) (fun x1 m2 => qbV (fX0_layThose ((1 : Int32)) m2) (fun m3 => qbV (fX0_layThose ((0 : Int32)) m3) (fun m4 => qbI (fX4_laid m4) (fun x5 m6 => some ((x5 - x1), m6)))))
theorem fX0_layEveryOne_x : ∃ f : qM → Option (Int32 × qM), f = fun m => fX0_layEveryOne_0 m := ⟨_, rfl⟩
noncomputable def fX0_layEveryOne : qM → Option (Int32 × qM) := Classical.choose fX0_layEveryOne_x
theorem fX0_layEveryOne_d : fX0_layEveryOne = fun m => fX0_layEveryOne_0 m := Classical.choose_spec fX0_layEveryOne_x
noncomputable def fX0_clear_0 (m : qM) : Option (Unit × qM) :=
  let m1 := (sI m 68 7 ((0 : Int32))); some ((), m1)
theorem fX0_clear_x : ∃ f : qM → Option (Unit × qM), f = fun m => fX0_clear_0 m := ⟨_, rfl⟩
noncomputable def fX0_clear : qM → Option (Unit × qM) := Classical.choose fX0_clear_x
theorem fX0_clear_d : fX0_clear = fun m => fX0_clear_0 m := Classical.choose_spec fX0_clear_x
noncomputable def fX0_pick_16 (m : qM) : Option (Unit × qM) :=
  some ((), m)
noncomputable def fX0_pick_0 (a1 : Int32) (m : qM) : Option (Unit × qM) :=
  bif leb ((4 : Int32)) ((gI m 68 7)) then fX0_pick_16 m else bif inb ((gI m 68 7)) 4 then let m1 := (sI m 69 (ix ((gI m 68 7))) a1); let m2 := (sI m1 68 7 (((gI m1 68 7) + (1 : Int32)))); fX0_pick_16 m2 else none
theorem fX0_pick_x : ∃ f : Int32 → qM → Option (Unit × qM), f = fun a1 m => fX0_pick_0 a1 m := ⟨_, rfl⟩
noncomputable def fX0_pick : Int32 → qM → Option (Unit × qM) := Classical.choose fX0_pick_x
theorem fX0_pick_d : fX0_pick = fun a1 m => fX0_pick_0 a1 m := Classical.choose_spec fX0_pick_x
noncomputable def fX4_greatestGain_9 (a1 : Int32) (s0 : Int64) (s1 : Int64) (m : qM) : Option (Int64 × qM) :=
  bif inb a1 40 then qbI (fX3_yearsOf ((gI m 59 (ix a1))) m) (fun x1 m2 => some (((((s1 + s0) + (1024 : Int64)) + (1 : Int64)) + (Int32.toInt64 x1)), m2)) else none
noncomputable def fX4_greatestGain_0 (a1 : Int32) (m : qM) : Option (Int64 × qM) :=
  bif inb a1 40 then bif eqb ((gI m 61 (ix a1))) ((0 : Int32)) then fX4_greatestGain_9 a1 ((0 : Int64)) ((1048576 : Int64)) m else fX4_greatestGain_9 a1 ((67108864 : Int64)) ((1048576 : Int64)) m else none
theorem fX4_greatestGain_x : ∃ f : Int32 → qM → Option (Int64 × qM), f = fun a1 m => fX4_greatestGain_0 a1 m := ⟨_, rfl⟩
noncomputable def fX4_greatestGain : Int32 → qM → Option (Int64 × qM) := Classical.choose fX4_greatestGain_x
theorem fX4_greatestGain_d : fX4_greatestGain = fun a1 m => fX4_greatestGain_0 a1 m := Classical.choose_spec fX4_greatestGain_x
noncomputable def fX4_gain_62 (a3 : Int32) (a4 : Int32) (a6 : Int64) (m : qM) : Option (Int64 × qM) :=
  qbI (fX11_gapsIn a4 m) (fun x8 m9 => qbI (fX11_gapsIn a3 m9) (fun x10 m11 => some ((a6 - ((Int32.toInt64 ((x8 - x10))) * (1024 : Int64))), m11)))
noncomputable def fX4_gain_38 (a3 : Int32) (a4 : Int32) (s0 : Int64) (s1 : Int64) (s2 : Int64) (m : qM) : Option (Int64 × qM) :=
  fX4_gain_62 a3 a4 ((s2 + (s1 + s0))) m
noncomputable def fX4_gain_0 (a1 : Int32) (a2 : Int32) (m : qM) : Option (Int64 × qM) :=
  bif inb a1 40 then bif inb ((gI m 59 (ix a1))) 15 then let x1 : Int32 := ((gI m 65 (ix ((gI m 59 (ix a1))))) ||| ((1 : Int32) <<< (a2 &&& 31))); bif inb a1 40 then qbI (fX4_pointsIn a1 a2 m) (fun x2 m3 => bif eqb ((gI m 62 (ix a1))) ((-1 : Int32)) then bif inb a1 40 then bif eqb ((gI m3 61 (ix a1))) ((0 : Int32)) then fX4_gain_38 ((gI m 65 (ix ((gI m 59 (ix a1)))))) x1 ((0 : Int64)) ((1048576 : Int64)) ((Int32.toInt64 x2)) m3 else fX4_gain_38 ((gI m 65 (ix ((gI m 59 (ix a1)))))) x1 ((67108864 : Int64)) ((1048576 : Int64)) ((Int32.toInt64 x2)) m3 else none else let x4 : Int32 := (((gI m 65 (ix ((gI m 59 (ix a1))))) &&& (((1 : Int32) <<< ((gI m 62 (ix a1)) &&& 31)) ^^^ (-1 : Int32))) ||| ((1 : Int32) <<< (a2 &&& 31))); qbI (fX4_pointsIn a1 ((gI m 62 (ix a1))) m3) (fun x5 m6 => let x7 : Int64 := ((Int32.toInt64 x2) - (Int32.toInt64 x5)); fX4_gain_62 ((gI m 65 (ix ((gI m 59 (ix a1)))))) x4 x7 m6)) else none else none else none
theorem fX4_gain_x : ∃ f : Int32 → Int32 → qM → Option (Int64 × qM), f = fun a1 a2 m => fX4_gain_0 a1 a2 m := ⟨_, rfl⟩
noncomputable def fX4_gain : Int32 → Int32 → qM → Option (Int64 × qM) := Classical.choose fX4_gain_x
theorem fX4_gain_d : fX4_gain = fun a1 a2 m => fX4_gain_0 a1 a2 m := Classical.choose_spec fX4_gain_x
noncomputable def fJ9_max_f86c9_7 (s0 : Int64) (m : qM) : Option (Int64 × qM) :=
  some (s0, m)
noncomputable def fJ9_max_f86c9_0 (a0 : Int64) (a1 : Int64) (m : qM) : Option (Int64 × qM) :=
  bif ltb ((lg_cmp a0 a1)) ((0 : Int32)) then fJ9_max_f86c9_7 a1 m else fJ9_max_f86c9_7 a0 m
theorem fJ9_max_f86c9_x : ∃ f : Int64 → Int64 → qM → Option (Int64 × qM), f = fun a0 a1 m => fJ9_max_f86c9_0 a0 a1 m := ⟨_, rfl⟩
noncomputable def fJ9_max_f86c9 : Int64 → Int64 → qM → Option (Int64 × qM) := Classical.choose fJ9_max_f86c9_x
theorem fJ9_max_f86c9_d : fJ9_max_f86c9 = fun a0 a1 m => fJ9_max_f86c9_0 a0 a1 m := Classical.choose_spec fJ9_max_f86c9_x
noncomputable def fX0_hopeOf_31 (k7 : Int32 → Int32 → Int32 → qM → Option (Int64 × qM)) (a1 : Int32) (a2 : Int32) (a3 : Int32) (m : qM) : Option (Int64 × qM) :=
  k7 a1 a2 ((a3 + (1 : Int32))) m
noncomputable def fX0_hopeOf_7 (k45 : Int32 → Int64 → Int32 → Int32 → qM → Option (Int64 × qM)) : Nat → Int32 → Int32 → Int32 → qM → Option (Int64 × qM)
  | 0, _, _, _, _ => none
  | n + 1, a1, a2, a3, m =>
    bif leb ((gI m 68 7)) a3 then qbI (fX4_openSlots a2 m) (fun x1 m2 => k45 a2 ((0 : Int64)) ((x1 &&& (gI m2 68 8))) ((0 : Int32)) m2) else bif eqb a3 a1 then fX0_hopeOf_31 (fX0_hopeOf_7 k45 n) a1 a2 a3 m else bif inb a3 4 then qbI (fX4_familyOf ((gI m 69 (ix a3))) m) (fun x3 m4 => qbI (fX4_familyOf a2 m4) (fun x5 m6 => bif eqb x3 x5 then qbL (fX4_greatestGain a2 m6) (fun x7 m8 => some (x7, m8)) else fX0_hopeOf_31 (fX0_hopeOf_7 k45 n) a1 a2 a3 m6)) else none
noncomputable def fX0_hopeOf_60 (k45 : Int32 → Int64 → Int32 → Int32 → qM → Option (Int64 × qM)) (a2 : Int32) (a3 : Int64) (a5 : Int32) (a6 : Int32) (m : qM) : Option (Int64 × qM) :=
  k45 a2 a3 a5 ((a6 + (1 : Int32))) m
noncomputable def fX0_hopeOf_45 : Nat → Int32 → Int64 → Int32 → Int32 → qM → Option (Int64 × qM)
  | 0, _, _, _, _, _ => none
  | n + 1, a2, a3, a5, a6, m =>
    bif leb ((20 : Int32)) a6 then some (a3, m) else qbI (fX11_has a5 a6 m) (fun x9 m10 => bif eqb x9 ((0 : Int32)) then fX0_hopeOf_60 (fX0_hopeOf_45 n) a2 a3 a5 a6 m10 else qbL (fX4_gain a2 a6 m10) (fun x11 m12 => qbL (fJ9_max_f86c9 a3 x11 m12) (fun x13 m14 => fX0_hopeOf_60 (fX0_hopeOf_45 n) a2 x13 a5 a6 m14)))
noncomputable def fX0_hopeOf_0 (a1 : Int32) (m : qM) : Option (Int64 × qM) :=
  bif inb a1 4 then fX0_hopeOf_7 (fX0_hopeOf_45 FU) FU a1 ((gI m 69 (ix a1))) ((0 : Int32)) m else none
theorem fX0_hopeOf_x : ∃ f : Int32 → qM → Option (Int64 × qM), f = fun a1 m => fX0_hopeOf_0 a1 m := ⟨_, rfl⟩
noncomputable def fX0_hopeOf : Int32 → qM → Option (Int64 × qM) := Classical.choose fX0_hopeOf_x
theorem fX0_hopeOf_d : fX0_hopeOf = fun a1 m => fX0_hopeOf_0 a1 m := Classical.choose_spec fX0_hopeOf_x
noncomputable def fX4_worth_0 (m : qM) : Option (Int64 × qM) :=
  some ((((((Int32.toInt64 ((gI m 58 14))) * (67108864 : Int64)) + ((Int32.toInt64 ((gI m 58 13))) * (1048576 : Int64))) - ((Int32.toInt64 ((gI m 58 15))) * (1024 : Int64))) + (Int32.toInt64 ((gI m 58 16)))), m)
theorem fX4_worth_x : ∃ f : qM → Option (Int64 × qM), f = fun m => fX4_worth_0 m := ⟨_, rfl⟩
noncomputable def fX4_worth : qM → Option (Int64 × qM) := Classical.choose fX4_worth_x
theorem fX4_worth_d : fX4_worth = fun m => fX4_worth_0 m := Classical.choose_spec fX4_worth_x
noncomputable def fX4_take_43 (a1 : Int32) (a2 : Int32) (s0 : Int32) (s1 : Int32) (m : qM) : Option (Int32 × qM) :=
  let m5 := (sI m 58 14 ((s1 - s0))); qbI (fX4_pointsIn a1 a2 m5) (fun x6 m7 => let m8 := (sI m7 58 16 (((gI m5 58 16) - x6))); some (a2, m8))
noncomputable def fX4_take_0 (a1 : Int32) (m : qM) : Option (Int32 × qM) :=
  bif inb a1 40 then qbV (fX4_mark a1 ((gI m 62 (ix a1))) m) (fun m1 => bif inb a1 40 then let m2 := (sI m1 62 (ix a1) ((-1 : Int32))); bif inb a1 40 then bif inb ((((gI m2 60 (ix a1)) * (20 : Int32)) + (gI m 62 (ix a1)))) 200 then let m3 := (sI m2 64 (ix ((((gI m2 60 (ix a1)) * (20 : Int32)) + (gI m 62 (ix a1))))) ((-1 : Int32))); let m4 := (sI m3 58 13 (((gI m3 58 13) - (1 : Int32)))); bif inb a1 40 then bif eqb ((gI m4 61 (ix a1))) ((0 : Int32)) then fX4_take_43 a1 ((gI m 62 (ix a1))) ((0 : Int32)) ((gI m4 58 14)) m4 else fX4_take_43 a1 ((gI m 62 (ix a1))) ((1 : Int32)) ((gI m4 58 14)) m4 else none else none else none else none) else none
theorem fX4_take_x : ∃ f : Int32 → qM → Option (Int32 × qM), f = fun a1 m => fX4_take_0 a1 m := ⟨_, rfl⟩
noncomputable def fX4_take : Int32 → qM → Option (Int32 × qM) := Classical.choose fX4_take_x
theorem fX4_take_d : fX4_take = fun a1 m => fX4_take_0 a1 m := Classical.choose_spec fX4_take_x
noncomputable def fX0_tryFrom_73 (G : qG Unit) (k46 : Int32 → Int32 → Int32 → Int32 → qM → Option (Unit × qM)) (a1 : Int32) (a2 : Int32) (a3 : Int32) (a4 : Int32) (m : qM) : Option (Unit × qM) :=
  k46 a1 a2 a3 ((a4 + (1 : Int32))) m
noncomputable def fX0_tryFrom_46 (G : qG Unit) : Nat → Int32 → Int32 → Int32 → Int32 → qM → Option (Unit × qM)
  | 0, _, _, _, _, _ => none
  | n + 1, a1, a2, a3, a4, m =>
    bif leb ((20 : Int32)) a4 then bif inb a1 4 then let m9 := (sI m 71 (ix a1) ((20 : Int32))); qbV (G [.ref 68, .int ((a1 + (1 : Int32)))] m9) (fun m10 => some ((), m10)) else none else qbI (fX11_has a3 a4 m) (fun x11 m12 => bif eqb x11 ((0 : Int32)) then fX0_tryFrom_73 G (fX0_tryFrom_46 G n) a1 a2 a3 a4 m12 else bif inb a1 4 then let m13 := (sI m12 71 (ix a1) a4); qbV (fX4_put a2 a4 m13) (fun m14 => qbV (G [.ref 68, .int ((a1 + (1 : Int32)))] m14) (fun m15 => qbI (fX4_take a2 m15) (fun x16 m17 => fX0_tryFrom_73 G (fX0_tryFrom_46 G n) a1 a2 a3 a4 m17))) else none)
noncomputable def fX0_tryFrom_0 (G : qG Unit) (a1 : Int32) (m : qM) : Option (Unit × qM) :=
  qbL (fX4_worth m) (fun x1 m2 => bif inb a1 5 then bif ltb ((0 : Int32)) ((lg_cmp ((x1 + (gL m2 73 (ix a1)))) ((gL m2 68 9)))) then bif ltb a1 ((gI m2 68 7)) then bif inb a1 4 then qbI (fX4_openSlots ((gI m2 69 (ix a1))) m2) (fun x3 m4 => fX0_tryFrom_46 G FU a1 ((gI m2 69 (ix a1))) ((x3 &&& (gI m4 68 8))) ((0 : Int32)) m4) else none else qbL (fX4_worth m2) (fun x5 m6 => let m7 := (sL m6 68 9 x5); bif eqb ((0 : Int32)) (0 : Int32) then (bif eqb ((0 : Int32)) (0 : Int32) then (bif ltb ((4 : Int32)) (0 : Int32) then none else (bif Nat.ble (ix ((4 : Int32))) 4 then (bif Nat.ble (ix ((4 : Int32))) 4 then (let m8 := (sC m7 71 72 (ix ((4 : Int32)))); some ((), m8)) else none) else none)) else none) else none) else some ((), m2) else none)
noncomputable def GX0_tryFrom : Nat → qG Unit
  | 0 => fun _ _ => none
  | n + 1 => fun av m => match av with
    | [.ref 68, .int a1] => fX0_tryFrom_0 (GX0_tryFrom n) a1 m
    | _ => none
noncomputable def fX0_tryFrom (n : Nat) (a1 : Int32) (m : qM) : Option (Unit × qM) := GX0_tryFrom n [.ref 68, .int a1] m
noncomputable def fX0_layPicked_14 (k42 : Int32 → Int32 → qM → Option (Int32 × qM)) : Nat → Int32 → qM → Option (Int32 × qM)
  | 0, _, _ => none
  | n + 1, a2, m =>
    bif ltb a2 ((0 : Int32)) then let m3 := (sL m 68 9 ((-1 : Int64))); qbV (fX0_tryFrom FG ((0 : Int32)) m3) (fun m4 => k42 ((0 : Int32)) ((0 : Int32)) m4) else bif inb ((a2 + (1 : Int32))) 5 then qbL (fX0_hopeOf a2 m) (fun x5 m6 => bif inb a2 5 then let m7 := (sL m6 73 (ix a2) (((gL m 73 (ix ((a2 + (1 : Int32))))) + x5))); (fX0_layPicked_14 k42 n) ((a2 + (-1 : Int32))) m7 else none) else none
noncomputable def fX0_layPicked_64 (k42 : Int32 → Int32 → qM → Option (Int32 × qM)) (a2 : Int32) (a3 : Int32) (m : qM) : Option (Int32 × qM) :=
  k42 a2 ((a3 + (1 : Int32))) m
noncomputable def fX0_layPicked_42 : Nat → Int32 → Int32 → qM → Option (Int32 × qM)
  | 0, _, _, _ => none
  | n + 1, a2, a3, m =>
    bif leb ((gI m 68 7)) a3 then some (a2, m) else bif inb a3 4 then bif leb ((20 : Int32)) ((gI m 72 (ix a3))) then fX0_layPicked_64 (fX0_layPicked_42 n) a2 a3 m else bif inb a3 4 then bif inb a3 4 then qbV (fX4_put ((gI m 69 (ix a3))) ((gI m 72 (ix a3))) m) (fun m8 => fX0_layPicked_64 (fX0_layPicked_42 n) ((a2 + (1 : Int32))) a3 m8) else none else none else none
noncomputable def fX0_layPicked_0 (a1 : Int32) (m : qM) : Option (Int32 × qM) :=
  let m1 := (sI m 68 8 a1); bif inb ((gI m1 68 7)) 5 then let m2 := (sL m1 73 (ix ((gI m1 68 7))) ((0 : Int64))); fX0_layPicked_14 (fX0_layPicked_42 FU) FU (((gI m2 68 7) - (1 : Int32))) m2 else none
theorem fX0_layPicked_x : ∃ f : Int32 → qM → Option (Int32 × qM), f = fun a1 m => fX0_layPicked_0 a1 m := ⟨_, rfl⟩
noncomputable def fX0_layPicked : Int32 → qM → Option (Int32 × qM) := Classical.choose fX0_layPicked_x
theorem fX0_layPicked_d : fX0_layPicked = fun a1 m => fX0_layPicked_0 a1 m := Classical.choose_spec fX0_layPicked_x
noncomputable def fX4_slotOf_0 (a1 : Int32) (m : qM) : Option (Int32 × qM) :=
  bif inb a1 40 then some ((gI m 62 (ix a1)), m) else none
theorem fX4_slotOf_x : ∃ f : Int32 → qM → Option (Int32 × qM), f = fun a1 m => fX4_slotOf_0 a1 m := ⟨_, rfl⟩
noncomputable def fX4_slotOf : Int32 → qM → Option (Int32 × qM) := Classical.choose fX4_slotOf_x
theorem fX4_slotOf_d : fX4_slotOf = fun a1 m => fX4_slotOf_0 a1 m := Classical.choose_spec fX4_slotOf_x
noncomputable def fX0_layPickedAnew_2 (k27 : Int32 → Int32 → qM → Option (Int32 × qM)) : Nat → Int32 → Int32 → qM → Option (Int32 × qM)
  | 0, _, _, _ => none
  | n + 1, a1, a2, m =>
    bif leb ((gI m 68 7)) a2 then qbI (fX0_layPicked a1 m) (fun x1 m2 => k27 ((0 : Int32)) ((0 : Int32)) m2) else bif inb a2 4 then qbI (fX4_take ((gI m 69 (ix a2))) m) (fun x3 m4 => bif inb a2 4 then let m5 := (sI m4 70 (ix a2) x3); (fX0_layPickedAnew_2 k27 n) a1 ((a2 + (1 : Int32))) m5 else none) else none
noncomputable def fX0_layPickedAnew_44 (k27 : Int32 → Int32 → qM → Option (Int32 × qM)) (a2 : Int32) (a3 : Int32) (m : qM) : Option (Int32 × qM) :=
  k27 a2 ((a3 + (1 : Int32))) m
noncomputable def fX0_layPickedAnew_27 : Nat → Int32 → Int32 → qM → Option (Int32 × qM)
  | 0, _, _, _ => none
  | n + 1, a2, a3, m =>
    bif leb ((gI m 68 7)) a3 then some (a2, m) else bif inb a3 4 then qbI (fX4_slotOf ((gI m 69 (ix a3))) m) (fun x6 m7 => bif inb a3 4 then bif eqb x6 ((gI m7 70 (ix a3))) then fX0_layPickedAnew_44 (fX0_layPickedAnew_27 n) a2 a3 m7 else fX0_layPickedAnew_44 (fX0_layPickedAnew_27 n) ((a2 + (1 : Int32))) a3 m7 else none) else none
noncomputable def fX0_layPickedAnew_0 (a1 : Int32) (m : qM) : Option (Int32 × qM) :=
  fX0_layPickedAnew_2 (fX0_layPickedAnew_27 FU) FU a1 ((0 : Int32)) m
theorem fX0_layPickedAnew_x : ∃ f : Int32 → qM → Option (Int32 × qM), f = fun a1 m => fX0_layPickedAnew_0 a1 m := ⟨_, rfl⟩
noncomputable def fX0_layPickedAnew : Int32 → qM → Option (Int32 × qM) := Classical.choose fX0_layPickedAnew_x
theorem fX0_layPickedAnew_d : fX0_layPickedAnew = fun a1 m => fX0_layPickedAnew_0 a1 m := Classical.choose_spec fX0_layPickedAnew_x
noncomputable def fX0_openIfNotLaid_0 (a1 : Int32) (m : qM) : Option (Int32 × qM) :=
  qbI (fX4_isLaid a1 m) (fun x1 m2 => bif eqb x1 ((0 : Int32)) then qbI (fX4_openSlots a1 m2) (fun x8 m9 => some (x8, m9)) else qbI (fX4_take a1 m2) (fun x3 m4 => qbI (fX4_openSlots a1 m4) (fun x5 m6 => qbV (fX4_put a1 x3 m6) (fun m7 => some (x5, m7)))))
theorem fX0_openIfNotLaid_x : ∃ f : Int32 → qM → Option (Int32 × qM), f = fun a1 m => fX0_openIfNotLaid_0 a1 m := ⟨_, rfl⟩
noncomputable def fX0_openIfNotLaid : Int32 → qM → Option (Int32 × qM) := Classical.choose fX0_openIfNotLaid_x
theorem fX0_openIfNotLaid_d : fX0_openIfNotLaid = fun a1 m => fX0_openIfNotLaid_0 a1 m := Classical.choose_spec fX0_openIfNotLaid_x
noncomputable def fX0_keepChange_0 (a1 : Int32) (a2 : Int32) (a3 : Int32) (a4 : Int64) (m : qM) : Option (Unit × qM) :=
  let m1 := (sI m 68 10 a1); let m2 := (sI m1 68 11 a2); let m3 := (sI m2 68 12 a3); let m4 := (sL m3 68 13 a4); some ((), m4)
theorem fX0_keepChange_x : ∃ f : Int32 → Int32 → Int32 → Int64 → qM → Option (Unit × qM), f = fun a1 a2 a3 a4 m => fX0_keepChange_0 a1 a2 a3 a4 m := ⟨_, rfl⟩
noncomputable def fX0_keepChange : Int32 → Int32 → Int32 → Int64 → qM → Option (Unit × qM) := Classical.choose fX0_keepChange_x
theorem fX0_keepChange_d : fX0_keepChange = fun a1 a2 a3 a4 m => fX0_keepChange_0 a1 a2 a3 a4 m := Classical.choose_spec fX0_keepChange_x
noncomputable def fX0_seekPuts_47 (k2 : Int32 → Int32 → qM → Option (Unit × qM)) (a1 : Int32) (a2 : Int32) (m : qM) : Option (Unit × qM) :=
  k2 a1 ((a2 + (1 : Int32))) m
noncomputable def fX0_seekPuts_45 (k19 : Int32 → Int32 → Int32 → Int32 → qM → Option (Unit × qM)) (a1 : Int32) (a2 : Int32) (a3 : Int32) (a4 : Int32) (m : qM) : Option (Unit × qM) :=
  k19 a1 a2 a3 ((a4 + (1 : Int32))) m
noncomputable def fX0_seekPuts_19 (k47 : Int32 → Int32 → qM → Option (Unit × qM)) : Nat → Int32 → Int32 → Int32 → Int32 → qM → Option (Unit × qM)
  | 0, _, _, _, _, _ => none
  | n + 1, a1, a2, a3, a4, m =>
    bif leb ((20 : Int32)) a4 then k47 a1 a2 m else qbI (fX11_has a3 a4 m) (fun x7 m8 => bif eqb x7 ((0 : Int32)) then fX0_seekPuts_45 (fX0_seekPuts_19 k47 n) a1 a2 a3 a4 m8 else qbL (fX4_gain a2 a4 m8) (fun x9 m10 => bif leb ((lg_cmp x9 ((gL m10 68 13)))) ((0 : Int32)) then fX0_seekPuts_45 (fX0_seekPuts_19 k47 n) a1 a2 a3 a4 m10 else qbL (fX4_gain a2 a4 m10) (fun x11 m12 => qbV (fX0_keepChange a2 ((-1 : Int32)) a4 x11 m12) (fun m13 => fX0_seekPuts_45 (fX0_seekPuts_19 k47 n) a1 a2 a3 a4 m13))))
noncomputable def fX0_seekPuts_2 : Nat → Int32 → Int32 → qM → Option (Unit × qM)
  | 0, _, _, _ => none
  | n + 1, a1, a2, m =>
    qbI (fX4_asks m) (fun x1 m2 => bif leb x1 a2 then some ((), m2) else qbI (fX4_isLaid a2 m2) (fun x3 m4 => bif eqb x3 a1 then qbI (fX0_openIfNotLaid a2 m4) (fun x5 m6 => fX0_seekPuts_19 (fX0_seekPuts_47 (fX0_seekPuts_2 n)) FU a1 a2 x5 ((0 : Int32)) m6) else fX0_seekPuts_47 (fX0_seekPuts_2 n) a1 a2 m4))
noncomputable def fX0_seekPuts_0 (a1 : Int32) (m : qM) : Option (Unit × qM) :=
  fX0_seekPuts_2 FU a1 ((0 : Int32)) m
theorem fX0_seekPuts_x : ∃ f : Int32 → qM → Option (Unit × qM), f = fun a1 m => fX0_seekPuts_0 a1 m := ⟨_, rfl⟩
noncomputable def fX0_seekPuts : Int32 → qM → Option (Unit × qM) := Classical.choose fX0_seekPuts_x
theorem fX0_seekPuts_d : fX0_seekPuts = fun a1 m => fX0_seekPuts_0 a1 m := Classical.choose_spec fX0_seekPuts_x
noncomputable def fX0_maySwap_36 (a1 : Int32) (a2 : Int32) (a3 : Int32) (a4 : Int32) (a5 : Int32) (m : qM) : Option (Int32 × qM) :=
  qbV (fX4_put a1 a3 m) (fun m16 => qbV (fX4_put a2 a4 m16) (fun m17 => some (nz a5, m17)))
noncomputable def fX0_maySwap_0 (a1 : Int32) (a2 : Int32) (m : qM) : Option (Int32 × qM) :=
  qbI (fX4_take a1 m) (fun x1 m2 => qbI (fX4_take a2 m2) (fun x3 m4 => qbI (fX4_openSlots a1 m4) (fun x5 m6 => qbI (fX11_has x5 x3 m6) (fun x7 m8 => bif eqb x7 ((0 : Int32)) then fX0_maySwap_36 a1 a2 x1 x3 x7 m8 else qbV (fX4_put a1 x3 m8) (fun m9 => qbI (fX4_openSlots a2 m9) (fun x10 m11 => qbI (fX11_has x10 x1 m11) (fun x12 m13 => qbI (fX4_take a1 m13) (fun x14 m15 => fX0_maySwap_36 a1 a2 x1 x3 x12 m15))))))))
theorem fX0_maySwap_x : ∃ f : Int32 → Int32 → qM → Option (Int32 × qM), f = fun a1 a2 m => fX0_maySwap_0 a1 a2 m := ⟨_, rfl⟩
noncomputable def fX0_maySwap : Int32 → Int32 → qM → Option (Int32 × qM) := Classical.choose fX0_maySwap_x
theorem fX0_maySwap_d : fX0_maySwap = fun a1 a2 m => fX0_maySwap_0 a1 a2 m := Classical.choose_spec fX0_maySwap_x
noncomputable def fX0_seekSwaps_69 (k11 : Int32 → Int32 → qM → Option (Unit × qM)) (a1 : Int32) (a2 : Int32) (m : qM) : Option (Unit × qM) :=
  k11 a1 ((a2 + (1 : Int32))) m
noncomputable def fX0_seekSwaps_11 (k2 : Int32 → qM → Option (Unit × qM)) : Nat → Int32 → Int32 → qM → Option (Unit × qM)
  | 0, _, _, _ => none
  | n + 1, a1, a2, m =>
    qbI (fX4_asks m) (fun x3 m4 => bif leb x3 a2 then k2 ((a1 + (1 : Int32))) m4 else qbI (fX4_isLaid a1 m4) (fun x5 m6 => bif eqb x5 ((0 : Int32)) then fX0_seekSwaps_69 (fX0_seekSwaps_11 k2 n) a1 a2 m6 else qbI (fX4_isLaid a2 m6) (fun x7 m8 => bif eqb x7 ((0 : Int32)) then fX0_seekSwaps_69 (fX0_seekSwaps_11 k2 n) a1 a2 m8 else qbI (fX4_familyOf a1 m8) (fun x9 m10 => qbI (fX4_familyOf a2 m10) (fun x11 m12 => bif eqb x9 x11 then fX0_seekSwaps_69 (fX0_seekSwaps_11 k2 n) a1 a2 m12 else qbI (fX4_slotOf a2 m12) (fun x13 m14 => qbL (fX4_gain a1 x13 m14) (fun x15 m16 => qbI (fX4_slotOf a1 m16) (fun x17 m18 => qbL (fX4_gain a2 x17 m18) (fun x19 m20 => bif leb ((lg_cmp ((x15 + x19)) ((gL m20 68 13)))) ((0 : Int32)) then fX0_seekSwaps_69 (fX0_seekSwaps_11 k2 n) a1 a2 m20 else qbI (fX0_maySwap a1 a2 m20) (fun x21 m22 => bif eqb x21 ((0 : Int32)) then fX0_seekSwaps_69 (fX0_seekSwaps_11 k2 n) a1 a2 m22 else qbV (fX0_keepChange a1 a2 ((-1 : Int32)) ((x15 + x19)) m22) (fun m23 => fX0_seekSwaps_69 (fX0_seekSwaps_11 k2 n) a1 a2 m23)))))))))))
noncomputable def fX0_seekSwaps_2 : Nat → Int32 → qM → Option (Unit × qM)
  | 0, _, _ => none
  | n + 1, a1, m =>
    qbI (fX4_asks m) (fun x1 m2 => bif leb x1 a1 then some ((), m2) else fX0_seekSwaps_11 (fX0_seekSwaps_2 n) FU a1 ((a1 + (1 : Int32))) m2)
noncomputable def fX0_seekSwaps_0 (m : qM) : Option (Unit × qM) :=
  fX0_seekSwaps_2 FU ((0 : Int32)) m
theorem fX0_seekSwaps_x : ∃ f : qM → Option (Unit × qM), f = fun m => fX0_seekSwaps_0 m := ⟨_, rfl⟩
noncomputable def fX0_seekSwaps : qM → Option (Unit × qM) := Classical.choose fX0_seekSwaps_x
theorem fX0_seekSwaps_d : fX0_seekSwaps = fun m => fX0_seekSwaps_0 m := Classical.choose_spec fX0_seekSwaps_x
noncomputable def fX0_swap_0 (a1 : Int32) (a2 : Int32) (m : qM) : Option (Unit × qM) :=
  qbI (fX4_take a1 m) (fun x1 m2 => qbI (fX4_take a2 m2) (fun x3 m4 => qbV (fX4_put a1 x3 m4) (fun m5 => qbV (fX4_put a2 x1 m5) (fun m6 => some ((), m6)))))
theorem fX0_swap_x : ∃ f : Int32 → Int32 → qM → Option (Unit × qM), f = fun a1 a2 m => fX0_swap_0 a1 a2 m := ⟨_, rfl⟩
noncomputable def fX0_swap : Int32 → Int32 → qM → Option (Unit × qM) := Classical.choose fX0_swap_x
theorem fX0_swap_d : fX0_swap = fun a1 a2 m => fX0_swap_0 a1 a2 m := Classical.choose_spec fX0_swap_x
noncomputable def fX0_changeOnce_42 (m : qM) : Option (Int32 × qM) :=
  qbV (fX4_put ((gI m 68 10)) ((gI m 68 12)) m) (fun m10 => some (nz ((1 : Int32)), m10))
noncomputable def fX0_changeOnce_0 (m : qM) : Option (Int32 × qM) :=
  let m1 := (sL m 68 13 ((0 : Int64))); qbV (fX0_seekPuts ((0 : Int32)) m1) (fun m2 => qbV (fX0_seekPuts ((1 : Int32)) m2) (fun m3 => qbV (fX0_seekSwaps m3) (fun m4 => bif eqb ((lg_cmp ((gL m4 68 13)) ((0 : Int64)))) ((0 : Int32)) then some (nz ((0 : Int32)), m4) else bif eqb ((gI m4 68 11)) ((-1 : Int32)) then qbI (fX4_isLaid ((gI m4 68 10)) m4) (fun x5 m6 => bif eqb x5 ((0 : Int32)) then fX0_changeOnce_42 m6 else qbI (fX4_take ((gI m6 68 10)) m6) (fun x7 m8 => fX0_changeOnce_42 m8)) else qbV (fX0_swap ((gI m4 68 10)) ((gI m4 68 11)) m4) (fun m9 => some (nz ((1 : Int32)), m9)))))
theorem fX0_changeOnce_x : ∃ f : qM → Option (Int32 × qM), f = fun m => fX0_changeOnce_0 m := ⟨_, rfl⟩
noncomputable def fX0_changeOnce : qM → Option (Int32 × qM) := Classical.choose fX0_changeOnce_x
theorem fX0_changeOnce_d : fX0_changeOnce = fun m => fX0_changeOnce_0 m := Classical.choose_spec fX0_changeOnce_x
noncomputable def fX1_forget_2 : Nat → Int32 → qM → Option (Unit × qM)
  | 0, _, _ => none
  | n + 1, a1, m =>
    bif leb ((81 : Int32)) a1 then some ((), m) else bif inb a1 81 then let m1 := (sI m 83 (ix a1) ((nz ((0 : Int32))))); (fX1_forget_2 n) ((a1 + (1 : Int32))) m1 else none
noncomputable def fX1_forget_0 (m : qM) : Option (Unit × qM) :=
  fX1_forget_2 FU ((0 : Int32)) m
theorem fX1_forget_x : ∃ f : qM → Option (Unit × qM), f = fun m => fX1_forget_0 m := ⟨_, rfl⟩
noncomputable def fX1_forget : qM → Option (Unit × qM) := Classical.choose fX1_forget_x
theorem fX1_forget_d : fX1_forget = fun m => fX1_forget_0 m := Classical.choose_spec fX1_forget_x
noncomputable def fX4_laidOfTeacher_0 (a1 : Int32) (m : qM) : Option (Int32 × qM) :=
  bif inb a1 10 then some ((gI m 66 (ix a1)), m) else none
theorem fX4_laidOfTeacher_x : ∃ f : Int32 → qM → Option (Int32 × qM), f = fun a1 m => fX4_laidOfTeacher_0 a1 m := ⟨_, rfl⟩
noncomputable def fX4_laidOfTeacher : Int32 → qM → Option (Int32 × qM) := Classical.choose fX4_laidOfTeacher_x
theorem fX4_laidOfTeacher_d : fX4_laidOfTeacher = fun a1 m => fX4_laidOfTeacher_0 a1 m := Classical.choose_spec fX4_laidOfTeacher_x
noncomputable def fX7_slotMinutes_11 (s0 : Int32) (m : qM) : Option (Int32 × qM) :=
  some (s0, m)
noncomputable def fX7_slotMinutes_0 (m : qM) : Option (Int32 × qM) :=
  bif inb ((0 : Int32)) 6 then bif leb ((gI m 5 (ix ((0 : Int32))))) ((0 : Int32)) then fX7_slotMinutes_11 ((1 : Int32)) m else bif inb ((0 : Int32)) 6 then fX7_slotMinutes_11 ((gI m 5 (ix ((0 : Int32))))) m else none else none
theorem fX7_slotMinutes_x : ∃ f : qM → Option (Int32 × qM), f = fun m => fX7_slotMinutes_0 m := ⟨_, rfl⟩
noncomputable def fX7_slotMinutes : qM → Option (Int32 × qM) := Classical.choose fX7_slotMinutes_x
theorem fX7_slotMinutes_d : fX7_slotMinutes = fun m => fX7_slotMinutes_0 m := Classical.choose_spec fX7_slotMinutes_x
noncomputable def fX9_fill_90_36 (k2 : Int32 → Int32 → Int32 → qM → Option (Unit × qM)) (a1 : Int32) (a2 : Int32) (a4 : Int32) (m : qM) : Option (Unit × qM) :=
  k2 a1 a2 ((a4 + (1 : Int32))) m
noncomputable def fX9_fill_90_2 (k38 : qM → Option (Unit × qM)) : Nat → Int32 → Int32 → Int32 → qM → Option (Unit × qM)
  | 0, _, _, _, _ => none
  | n + 1, a1, a2, a4, m =>
    bif leb a2 a4 then k38 m else bif leb ((gI m 74 5)) a4 then k38 m else bif inb a4 80 then bif eqb ((gI m 75 (ix a4))) a1 then bif inb a4 80 then qbI (fX11_within ((gI m 77 (ix a4))) ((0 : Int32)) (((Int32.ofNat 40) - (1 : Int32))) m) (fun x1 m2 => bif eqb x1 ((0 : Int32)) then fX9_fill_90_36 (fX9_fill_90_2 k38 n) a1 a2 a4 m2 else bif inb a4 80 then bif inb a4 80 then bif inb ((gI m2 77 (ix a4))) 40 then let m3 := (sI m2 90 (ix ((gI m2 77 (ix a4)))) ((gI m2 78 (ix a4)))); fX9_fill_90_36 (fX9_fill_90_2 k38 n) a1 a2 a4 m3 else none else none else none) else none else fX9_fill_90_36 (fX9_fill_90_2 k38 n) a1 a2 a4 m else none
noncomputable def fX9_fill_90_38 (m : qM) : Option (Unit × qM) :=
  some ((), m)
noncomputable def fX9_fill_90_0 (a1 : Int32) (a2 : Int32) (m : qM) : Option (Unit × qM) :=
  fX9_fill_90_2 fX9_fill_90_38 FU a1 a2 ((0 : Int32)) m
theorem fX9_fill_90_x : ∃ f : Int32 → Int32 → qM → Option (Unit × qM), f = fun a1 a2 m => fX9_fill_90_0 a1 a2 m := ⟨_, rfl⟩
noncomputable def fX9_fill_90 : Int32 → Int32 → qM → Option (Unit × qM) := Classical.choose fX9_fill_90_x
theorem fX9_fill_90_d : fX9_fill_90 = fun a1 a2 m => fX9_fill_90_0 a1 a2 m := Classical.choose_spec fX9_fill_90_x
noncomputable def fX9_fill_91_36 (k2 : Int32 → Int32 → Int32 → qM → Option (Unit × qM)) (a1 : Int32) (a2 : Int32) (a4 : Int32) (m : qM) : Option (Unit × qM) :=
  k2 a1 a2 ((a4 + (1 : Int32))) m
noncomputable def fX9_fill_91_2 (k38 : qM → Option (Unit × qM)) : Nat → Int32 → Int32 → Int32 → qM → Option (Unit × qM)
  | 0, _, _, _, _ => none
  | n + 1, a1, a2, a4, m =>
    bif leb a2 a4 then k38 m else bif leb ((gI m 74 5)) a4 then k38 m else bif inb a4 80 then bif eqb ((gI m 75 (ix a4))) a1 then bif inb a4 80 then qbI (fX11_within ((gI m 77 (ix a4))) ((0 : Int32)) (((Int32.ofNat 40) - (1 : Int32))) m) (fun x1 m2 => bif eqb x1 ((0 : Int32)) then fX9_fill_91_36 (fX9_fill_91_2 k38 n) a1 a2 a4 m2 else bif inb a4 80 then bif inb a4 80 then bif inb ((gI m2 77 (ix a4))) 40 then let m3 := (sI m2 91 (ix ((gI m2 77 (ix a4)))) ((gI m2 78 (ix a4)))); fX9_fill_91_36 (fX9_fill_91_2 k38 n) a1 a2 a4 m3 else none else none else none) else none else fX9_fill_91_36 (fX9_fill_91_2 k38 n) a1 a2 a4 m else none
noncomputable def fX9_fill_91_38 (m : qM) : Option (Unit × qM) :=
  some ((), m)
noncomputable def fX9_fill_91_0 (a1 : Int32) (a2 : Int32) (m : qM) : Option (Unit × qM) :=
  fX9_fill_91_2 fX9_fill_91_38 FU a1 a2 ((0 : Int32)) m
theorem fX9_fill_91_x : ∃ f : Int32 → Int32 → qM → Option (Unit × qM), f = fun a1 a2 m => fX9_fill_91_0 a1 a2 m := ⟨_, rfl⟩
noncomputable def fX9_fill_91 : Int32 → Int32 → qM → Option (Unit × qM) := Classical.choose fX9_fill_91_x
theorem fX9_fill_91_d : fX9_fill_91 = fun a1 a2 m => fX9_fill_91_0 a1 a2 m := Classical.choose_spec fX9_fill_91_x
noncomputable def fX9_fill_92_36 (k2 : Int32 → Int32 → Int32 → qM → Option (Unit × qM)) (a1 : Int32) (a2 : Int32) (a4 : Int32) (m : qM) : Option (Unit × qM) :=
  k2 a1 a2 ((a4 + (1 : Int32))) m
noncomputable def fX9_fill_92_2 (k38 : qM → Option (Unit × qM)) : Nat → Int32 → Int32 → Int32 → qM → Option (Unit × qM)
  | 0, _, _, _, _ => none
  | n + 1, a1, a2, a4, m =>
    bif leb a2 a4 then k38 m else bif leb ((gI m 74 5)) a4 then k38 m else bif inb a4 80 then bif eqb ((gI m 75 (ix a4))) a1 then bif inb a4 80 then qbI (fX11_within ((gI m 77 (ix a4))) ((0 : Int32)) (((Int32.ofNat 15) - (1 : Int32))) m) (fun x1 m2 => bif eqb x1 ((0 : Int32)) then fX9_fill_92_36 (fX9_fill_92_2 k38 n) a1 a2 a4 m2 else bif inb a4 80 then bif inb a4 80 then bif inb ((gI m2 77 (ix a4))) 15 then let m3 := (sI m2 92 (ix ((gI m2 77 (ix a4)))) ((gI m2 78 (ix a4)))); fX9_fill_92_36 (fX9_fill_92_2 k38 n) a1 a2 a4 m3 else none else none else none) else none else fX9_fill_92_36 (fX9_fill_92_2 k38 n) a1 a2 a4 m else none
noncomputable def fX9_fill_92_38 (m : qM) : Option (Unit × qM) :=
  some ((), m)
noncomputable def fX9_fill_92_0 (a1 : Int32) (a2 : Int32) (m : qM) : Option (Unit × qM) :=
  fX9_fill_92_2 fX9_fill_92_38 FU a1 a2 ((0 : Int32)) m
theorem fX9_fill_92_x : ∃ f : Int32 → Int32 → qM → Option (Unit × qM), f = fun a1 a2 m => fX9_fill_92_0 a1 a2 m := ⟨_, rfl⟩
noncomputable def fX9_fill_92 : Int32 → Int32 → qM → Option (Unit × qM) := Classical.choose fX9_fill_92_x
theorem fX9_fill_92_d : fX9_fill_92 = fun a1 a2 m => fX9_fill_92_0 a1 a2 m := Classical.choose_spec fX9_fill_92_x
noncomputable def fX1_prepare_10 (k43 : Int32 → qM → Option (Unit × qM)) : Nat → Int32 → qM → Option (Unit × qM)
  | 0, _, _ => none
  | n + 1, a2, m =>
    bif leb ((40 : Int32)) a2 then k43 ((0 : Int32)) m else bif inb (((gI m 80 8) + a2)) 3240 then let m3 := (sI m 81 (ix (((gI m 80 8) + a2))) ((-1 : Int32))); bif inb (((gI m3 80 8) + a2)) 3240 then let m4 := (sI m3 82 (ix (((gI m3 80 8) + a2))) ((-1 : Int32))); bif inb a2 40 then let m5 := (sI m4 90 (ix a2) ((-1 : Int32))); bif inb a2 40 then let m6 := (sI m5 91 (ix a2) ((0 : Int32))); (fX1_prepare_10 k43 n) ((a2 + (1 : Int32))) m6 else none else none else none else none
noncomputable def fX1_prepare_43 (k63 : Int32 → qM → Option (Unit × qM)) : Nat → Int32 → qM → Option (Unit × qM)
  | 0, _, _ => none
  | n + 1, a2, m =>
    bif leb ((10 : Int32)) a2 then k63 ((0 : Int32)) m else qbI (fX4_laidOfTeacher a2 m) (fun x7 m8 => bif inb a2 10 then let m9 := (sI m8 85 (ix a2) x7); bif inb a2 10 then let m10 := (sI m9 86 (ix a2) ((0 : Int32))); (fX1_prepare_43 k63 n) ((a2 + (1 : Int32))) m10 else none else none)
noncomputable def fX1_prepare_63 (k93 : Int32 → qM → Option (Unit × qM)) : Nat → Int32 → qM → Option (Unit × qM)
  | 0, _, _ => none
  | n + 1, a2, m =>
    bif leb ((15 : Int32)) a2 then k93 ((0 : Int32)) m else bif inb a2 15 then let m11 := (sI m 87 (ix a2) ((0 : Int32))); bif inb a2 15 then let m12 := (sI m11 88 (ix a2) ((-1 : Int32))); qbI (fX3_familySlots a2 m12) (fun x13 m14 => qbI (fX11_leastOf x13 m14) (fun x15 m16 => qbI (fX7_slotMinutes m16) (fun x17 m18 => bif inb a2 15 then let m19 := (sI m18 92 (ix a2) ((x15 * x17))); (fX1_prepare_63 k93 n) ((a2 + (1 : Int32))) m19 else none))) else none else none
noncomputable def fX1_prepare_93 : Nat → Int32 → qM → Option (Unit × qM)
  | 0, _, _ => none
  | n + 1, a2, m =>
    bif leb ((4 : Int32)) a2 then qbV (fX9_fill_90 ((0 : Int32)) ((gI m 80 9)) m) (fun m20 => qbV (fX9_fill_91 ((1 : Int32)) ((gI m20 80 9)) m20) (fun m21 => qbV (fX9_fill_92 ((2 : Int32)) ((gI m21 80 9)) m21) (fun m22 => some ((), m22)))) else bif inb a2 4 then let m23 := (sI m 89 (ix a2) ((0 : Int32))); (fX1_prepare_93 n) ((a2 + (1 : Int32))) m23 else none
noncomputable def fX1_prepare_0 (a1 : Int32) (m : qM) : Option (Unit × qM) :=
  let m1 := (sI m 80 9 a1); let m2 := (sI m1 80 8 ((a1 * (40 : Int32)))); fX1_prepare_10 (fX1_prepare_43 (fX1_prepare_63 (fX1_prepare_93 FU) FU) FU) FU ((0 : Int32)) m2
theorem fX1_prepare_x : ∃ f : Int32 → qM → Option (Unit × qM), f = fun a1 m => fX1_prepare_0 a1 m := ⟨_, rfl⟩
noncomputable def fX1_prepare : Int32 → qM → Option (Unit × qM) := Classical.choose fX1_prepare_x
theorem fX1_prepare_d : fX1_prepare = fun a1 m => fX1_prepare_0 a1 m := Classical.choose_spec fX1_prepare_x
noncomputable def fX9_awayUpTo_37 (k2 : Int32 → Int32 → Int32 → Int32 → qM → Option (Int32 × qM)) (a1 : Int32) (a2 : Int32) (a3 : Int32) (a4 : Int32) (m : qM) : Option (Int32 × qM) :=
  k2 a1 a2 a3 ((a4 + (1 : Int32))) m
noncomputable def fX9_awayUpTo_2 (k39 : qM → Option (Int32 × qM)) : Nat → Int32 → Int32 → Int32 → Int32 → qM → Option (Int32 × qM)
  | 0, _, _, _, _, _ => none
  | n + 1, a1, a2, a3, a4, m =>
    bif leb a3 a4 then k39 m else bif leb ((gI m 74 5)) a4 then k39 m else bif inb a4 80 then bif eqb ((gI m 75 (ix a4))) ((3 : Int32)) then bif inb a4 80 then bif eqb ((gI m 77 (ix a4))) a1 then bif inb a4 80 then bif inb a4 80 then qbI (fX11_within a2 ((gI m 78 (ix a4))) ((gI m 79 (ix a4))) m) (fun x1 m2 => bif eqb x1 ((0 : Int32)) then fX9_awayUpTo_37 (fX9_awayUpTo_2 k39 n) a1 a2 a3 a4 m2 else bif inb a4 80 then some ((gI m2 79 (ix a4)), m2) else none) else none else none else fX9_awayUpTo_37 (fX9_awayUpTo_2 k39 n) a1 a2 a3 a4 m else none else fX9_awayUpTo_37 (fX9_awayUpTo_2 k39 n) a1 a2 a3 a4 m else none
noncomputable def fX9_awayUpTo_39 (m : qM) : Option (Int32 × qM) :=
  some ((-1 : Int32), m)
noncomputable def fX9_awayUpTo_0 (a1 : Int32) (a2 : Int32) (a3 : Int32) (m : qM) : Option (Int32 × qM) :=
  fX9_awayUpTo_2 fX9_awayUpTo_39 FU a1 a2 a3 ((0 : Int32)) m
theorem fX9_awayUpTo_x : ∃ f : Int32 → Int32 → Int32 → qM → Option (Int32 × qM), f = fun a1 a2 a3 m => fX9_awayUpTo_0 a1 a2 a3 m := ⟨_, rfl⟩
noncomputable def fX9_awayUpTo : Int32 → Int32 → Int32 → qM → Option (Int32 × qM) := Classical.choose fX9_awayUpTo_x
theorem fX9_awayUpTo_d : fX9_awayUpTo = fun a1 a2 a3 m => fX9_awayUpTo_0 a1 a2 a3 m := Classical.choose_spec fX9_awayUpTo_x
noncomputable def fX4_askIn_15 (s0 : Int32) (m : qM) : Option (Int32 × qM) :=
  some (s0, m)
noncomputable def fX4_askIn_0 (a1 : Int32) (a2 : Int32) (m : qM) : Option (Int32 × qM) :=
  qbI (fX11_within a2 ((0 : Int32)) ((19 : Int32)) m) (fun x1 m2 => bif eqb x1 ((0 : Int32)) then fX4_askIn_15 ((-1 : Int32)) m2 else bif inb (((a1 * (20 : Int32)) + a2)) 200 then fX4_askIn_15 ((gI m2 64 (ix (((a1 * (20 : Int32)) + a2))))) m2 else none)
theorem fX4_askIn_x : ∃ f : Int32 → Int32 → qM → Option (Int32 × qM), f = fun a1 a2 m => fX4_askIn_0 a1 a2 m := ⟨_, rfl⟩
noncomputable def fX4_askIn : Int32 → Int32 → qM → Option (Int32 × qM) := Classical.choose fX4_askIn_x
theorem fX4_askIn_d : fX4_askIn = fun a1 a2 m => fX4_askIn_0 a1 a2 m := Classical.choose_spec fX4_askIn_x
noncomputable def fX11_isPolicy_0 (a0 : Int32) (m : qM) : Option (Int32 × qM) :=
  qbI (fX11_within a0 ((0 : Int32)) ((3 : Int32)) m) (fun x1 m2 => some (nz x1, m2))
theorem fX11_isPolicy_x : ∃ f : Int32 → qM → Option (Int32 × qM), f = fun a0 m => fX11_isPolicy_0 a0 m := ⟨_, rfl⟩
noncomputable def fX11_isPolicy : Int32 → qM → Option (Int32 × qM) := Classical.choose fX11_isPolicy_x
theorem fX11_isPolicy_d : fX11_isPolicy = fun a0 m => fX11_isPolicy_0 a0 m := Classical.choose_spec fX11_isPolicy_x
noncomputable def fX10_policyOf_14 (m : qM) : Option (Option Nat × qM) :=
  some (none, m)
noncomputable def fX10_policyOf_14a (s0 : Nat) (m : qM) : Option (Option Nat × qM) :=
  some (some s0, m)
noncomputable def fX10_policyOf_0 (a1 : Int32) (m : qM) : Option (Option Nat × qM) :=
  bif inb a1 10 then qbI (fX11_isPolicy ((gI m 16 (ix a1))) m) (fun x1 m2 => bif eqb x1 ((0 : Int32)) then fX10_policyOf_14 m2 else bif inb ((gI m 16 (ix a1))) 4 then (qbN (gR m2 8 (ix ((gI m 16 (ix a1))))) (fun q3 => bif qpol q3 then fX10_policyOf_14a q3 m2 else none) (none)) else none) else none
theorem fX10_policyOf_x : ∃ f : Int32 → qM → Option (Option Nat × qM), f = fun a1 m => fX10_policyOf_0 a1 m := ⟨_, rfl⟩
noncomputable def fX10_policyOf : Int32 → qM → Option (Option Nat × qM) := Classical.choose fX10_policyOf_x
theorem fX10_policyOf_d : fX10_policyOf = fun a1 m => fX10_policyOf_0 a1 m := Classical.choose_spec fX10_policyOf_x
noncomputable def fX4_teacherOf_0 (a1 : Int32) (m : qM) : Option (Int32 × qM) :=
  bif inb a1 40 then some ((gI m 60 (ix a1)), m) else none
theorem fX4_teacherOf_x : ∃ f : Int32 → qM → Option (Int32 × qM), f = fun a1 m => fX4_teacherOf_0 a1 m := ⟨_, rfl⟩
noncomputable def fX4_teacherOf : Int32 → qM → Option (Int32 × qM) := Classical.choose fX4_teacherOf_x
theorem fX4_teacherOf_d : fX4_teacherOf = fun a1 m => fX4_teacherOf_0 a1 m := Classical.choose_spec fX4_teacherOf_x
noncomputable def fX4_isAsk_9 (s0 : Int32) (m : qM) : Option (Int32 × qM) :=
  some (nz s0, m)
noncomputable def fX4_isAsk_8 (m : qM) : Option (Int32 × qM) :=
  fX4_isAsk_9 ((0 : Int32)) m
noncomputable def fX4_isAsk_0 (a1 : Int32) (m : qM) : Option (Int32 × qM) :=
  bif ltb a1 ((0 : Int32)) then fX4_isAsk_8 m else bif leb ((gI m 58 11)) a1 then fX4_isAsk_8 m else fX4_isAsk_9 ((1 : Int32)) m
theorem fX4_isAsk_x : ∃ f : Int32 → qM → Option (Int32 × qM), f = fun a1 m => fX4_isAsk_0 a1 m := ⟨_, rfl⟩
noncomputable def fX4_isAsk : Int32 → qM → Option (Int32 × qM) := Classical.choose fX4_isAsk_x
theorem fX4_isAsk_d : fX4_isAsk = fun a1 m => fX4_isAsk_0 a1 m := Classical.choose_spec fX4_isAsk_x
noncomputable def fX3_walkBetween_0 (a1 : Int32) (a2 : Int32) (m : qM) : Option (Int32 × qM) :=
  bif inb (((a1 * (10 : Int32)) + a2)) 100 then some ((gI m 56 (ix (((a1 * (10 : Int32)) + a2)))), m) else none
theorem fX3_walkBetween_x : ∃ f : Int32 → Int32 → qM → Option (Int32 × qM), f = fun a1 a2 m => fX3_walkBetween_0 a1 a2 m := ⟨_, rfl⟩
noncomputable def fX3_walkBetween : Int32 → Int32 → qM → Option (Int32 × qM) := Classical.choose fX3_walkBetween_x
theorem fX3_walkBetween_d : fX3_walkBetween = fun a1 a2 m => fX3_walkBetween_0 a1 a2 m := Classical.choose_spec fX3_walkBetween_x
noncomputable def fX1_isHere_38 (m : qM) : Option (Int32 × qM) :=
  some (nz ((0 : Int32)), m)
noncomputable def fX1_isHere_66 (s0 : Int32) (m : qM) : Option (Int32 × qM) :=
  some (nz s0, m)
noncomputable def fX1_isHere_63 (m : qM) : Option (Int32 × qM) :=
  fX1_isHere_66 ((1 : Int32)) m
noncomputable def fX1_isHere_0 (a1 : Int32) (a2 : Int32) (m : qM) : Option (Int32 × qM) :=
  qbI (fX4_isAsk a1 m) (fun x1 m2 => bif eqb x1 ((0 : Int32)) then some (nz ((0 : Int32)), m2) else qbI (fX4_familyOf a1 m2) (fun x3 m4 => bif inb a1 40 then bif eqb ((gI m4 91 (ix a1))) ((0 : Int32)) then bif inb x3 15 then bif ltb a2 ((gI m4 92 (ix x3))) then fX1_isHere_38 m4 else bif inb x3 15 then bif ltb a2 ((gI m4 87 (ix x3))) then fX1_isHere_38 m4 else qbI (fX3_tongueOf x3 m4) (fun x5 m6 => bif inb x5 4 then bif leb ((gI m6 89 (ix x5))) a2 then bif inb x3 15 then bif eqb ((gI m6 88 (ix x3))) ((-1 : Int32)) then fX1_isHere_63 m6 else bif inb x3 15 then qbI (fX4_teacherOf a1 m6) (fun x7 m8 => qbI (fX3_walkBetween ((gI m6 88 (ix x3))) x7 m8) (fun x9 m10 => bif ltb a2 (((gI m6 87 (ix x3)) + x9)) then fX1_isHere_66 ((0 : Int32)) m10 else fX1_isHere_63 m10)) else none else none else fX1_isHere_38 m6 else none) else none else none else fX1_isHere_38 m4 else none))
theorem fX1_isHere_x : ∃ f : Int32 → Int32 → qM → Option (Int32 × qM), f = fun a1 a2 m => fX1_isHere_0 a1 a2 m := ⟨_, rfl⟩
noncomputable def fX1_isHere : Int32 → Int32 → qM → Option (Int32 × qM) := Classical.choose fX1_isHere_x
theorem fX1_isHere_d : fX1_isHere = fun a1 a2 m => fX1_isHere_0 a1 a2 m := Classical.choose_spec fX1_isHere_x
noncomputable def fX1_gatherFacts_38 (k13 : Int32 → Int32 → Int32 → Int32 → Int32 → Int32 → qM → Option (Unit × qM)) (a1 : Int32) (a2 : Int32) (a3 : Int32) (a4 : Int32) (a5 : Int32) (a6 : Int32) (m : qM) : Option (Unit × qM) :=
  k13 a1 a2 a3 a4 a5 ((a6 + (1 : Int32))) m
noncomputable def fX1_gatherFacts_13 (k40 : Int32 → Int32 → Int32 → Int32 → Int32 → qM → Option (Unit × qM)) : Nat → Int32 → Int32 → Int32 → Int32 → Int32 → Int32 → qM → Option (Unit × qM)
  | 0, _, _, _, _, _, _, _ => none
  | n + 1, a1, a2, a3, a4, a5, a6, m =>
    bif leb ((20 : Int32)) a6 then k40 a1 a2 a3 a4 a5 m else bif ltb a2 ((a6 * a4)) then k40 a1 a2 a3 a4 a5 m else bif inb a3 10 then qbI (fX11_has ((gI m 85 (ix a3))) a6 m) (fun x5 m6 => bif eqb x5 ((0 : Int32)) then fX1_gatherFacts_38 (fX1_gatherFacts_13 k40 n) a1 a2 a3 a4 a5 a6 m6 else qbI (fX4_askIn a3 a6 m6) (fun x7 m8 => qbI (fX1_isHere x7 a2 m8) (fun x9 m10 => bif eqb x9 ((0 : Int32)) then fX1_gatherFacts_38 (fX1_gatherFacts_13 k40 n) a1 a2 a3 a4 a5 a6 m10 else fX1_gatherFacts_38 (fX1_gatherFacts_13 k40 n) a1 a2 a3 a4 ((a5 + (1 : Int32))) a6 m10))) else none
noncomputable def fX1_gatherFacts_89 (a1 : Int32) (s0 : Int32) (s1 : Int32) (m : qM) : Option (Unit × qM) :=
  bif inb s1 6 then let m23 := (sI m 84 (ix s1) s0); qbI (fX4_slotOf a1 m23) (fun x24 m25 => bif inb ((5 : Int32)) 6 then let m26 := (sI m25 84 (ix ((5 : Int32))) x24); some ((), m26) else none) else none
noncomputable def fX1_gatherFacts_77 (a1 : Int32) (a2 : Int32) (s0 : Int32) (s1 : Int32) (m : qM) : Option (Unit × qM) :=
  bif inb s1 6 then let m20 := (sI m 84 (ix s1) s0); qbI (fX1_isHere a1 a2 m20) (fun x21 m22 => bif eqb x21 ((0 : Int32)) then fX1_gatherFacts_89 a1 ((0 : Int32)) ((4 : Int32)) m22 else fX1_gatherFacts_89 a1 ((1 : Int32)) ((4 : Int32)) m22) else none
noncomputable def fX1_gatherFacts_40 (a1 : Int32) (a2 : Int32) (a3 : Int32) (a4 : Int32) (a5 : Int32) (m : qM) : Option (Unit × qM) :=
  qbI (fX4_slotOf a1 m) (fun x11 m12 => bif inb ((0 : Int32)) 6 then let m13 := (sI m12 84 (ix ((0 : Int32))) ((a2 - (x11 * a4)))); bif inb ((1 : Int32)) 6 then let m14 := (sI m13 84 (ix ((1 : Int32))) a5); bif inb a3 10 then qbI (fJ6_bitCount_0f7a4 ((gI m14 85 (ix a3))) m14) (fun x15 m16 => bif inb ((2 : Int32)) 6 then let m17 := (sI m16 84 (ix ((2 : Int32))) x15); qbI (fX4_isMust a1 m17) (fun x18 m19 => bif eqb x18 ((0 : Int32)) then fX1_gatherFacts_77 a1 a2 ((0 : Int32)) ((3 : Int32)) m19 else fX1_gatherFacts_77 a1 a2 ((1 : Int32)) ((3 : Int32)) m19) else none) else none else none else none)
noncomputable def fX1_gatherFacts_0 (a1 : Int32) (a2 : Int32) (m : qM) : Option (Unit × qM) :=
  qbI (fX4_teacherOf a1 m) (fun x1 m2 => qbI (fX7_slotMinutes m2) (fun x3 m4 => fX1_gatherFacts_13 fX1_gatherFacts_40 FU a1 a2 x1 x3 ((0 : Int32)) ((0 : Int32)) m4))
theorem fX1_gatherFacts_x : ∃ f : Int32 → Int32 → qM → Option (Unit × qM), f = fun a1 a2 m => fX1_gatherFacts_0 a1 a2 m := ⟨_, rfl⟩
noncomputable def fX1_gatherFacts : Int32 → Int32 → qM → Option (Unit × qM) := Classical.choose fX1_gatherFacts_x
theorem fX1_gatherFacts_d : fX1_gatherFacts = fun a1 a2 m => fX1_gatherFacts_0 a1 a2 m := Classical.choose_spec fX1_gatherFacts_x
noncomputable def fX5_holds_60 (r : Nat) (s0 : Int32) (m : qM) : Option (Int32 × qM) :=
  some (nz s0, m)
noncomputable def fX5_holds_34 (r : Nat) (s0 : Int32) (m : qM) : Option (Int32 × qM) :=
  some (nz s0, m)
noncomputable def fX5_holds_19 (r : Nat) (a1 : Int32) (s0 : Int32) (m : qM) : Option (Int32 × qM) :=
  bif inb a1 32 then bif eqb ((gI m (r + 3) (ix a1))) ((0 : Int32)) then bif inb a1 32 then bif leb s0 ((gI m (r + 4) (ix a1))) then fX5_holds_34 r ((0 : Int32)) m else fX5_holds_34 r ((1 : Int32)) m else none else bif inb a1 32 then bif eqb ((gI m (r + 3) (ix a1))) ((1 : Int32)) then bif inb a1 32 then bif leb ((gI m (r + 4) (ix a1))) s0 then fX5_holds_60 r ((0 : Int32)) m else fX5_holds_60 r ((1 : Int32)) m else none else bif inb a1 32 then bif eqb s0 ((gI m (r + 4) (ix a1))) then fX5_holds_60 r ((1 : Int32)) m else fX5_holds_60 r ((0 : Int32)) m else none else none else none
noncomputable def fX5_holds_0 (r : Nat) (a1 : Int32) (m : qM) : Option (Int32 × qM) :=
  bif inb a1 32 then qbI (fX11_within ((gI m (r + 2) (ix a1))) ((0 : Int32)) (((Int32.ofNat 6) - (1 : Int32))) m) (fun x1 m2 => bif eqb x1 ((0 : Int32)) then fX5_holds_19 r a1 ((0 : Int32)) m2 else bif inb a1 32 then bif inb ((gI m2 (r + 2) (ix a1))) 6 then fX5_holds_19 r a1 ((gI m2 84 (ix ((gI m2 (r + 2) (ix a1)))))) m2 else none else none) else none
theorem fX5_holds_x : ∃ f : Nat → Int32 → qM → Option (Int32 × qM), f = fun r a1 m => fX5_holds_0 r a1 m := ⟨_, rfl⟩
noncomputable def fX5_holds : Nat → Int32 → qM → Option (Int32 × qM) := Classical.choose fX5_holds_x
theorem fX5_holds_d : fX5_holds = fun r a1 m => fX5_holds_0 r a1 m := Classical.choose_spec fX5_holds_x
noncomputable def fX5_lineThatHolds_10 (r : Nat) (k29 : Int32 → Int32 → qM → Option (Int32 × qM)) : Nat → Int32 → Int32 → Int32 → qM → Option (Int32 × qM)
  | 0, _, _, _, _ => none
  | n + 1, a2, a3, a4, m =>
    bif eqb a3 ((0 : Int32)) then k29 a2 a3 m else bif inb a2 8 then bif leb ((gI m (r + 1) (ix a2))) a4 then k29 a2 a3 m else qbI (bif qpol r then fX5_holds r (((a2 * (4 : Int32)) + a4)) m else none) (fun x1 m2 => (fX5_lineThatHolds_10 r k29 n) a2 x1 ((a4 + (1 : Int32))) m2) else none
noncomputable def fX5_lineThatHolds_29 (r : Nat) (k2 : Int32 → qM → Option (Int32 × qM)) (a2 : Int32) (a3 : Int32) (m : qM) : Option (Int32 × qM) :=
  bif eqb a3 ((0 : Int32)) then k2 ((a2 + (1 : Int32))) m else some (a2, m)
noncomputable def fX5_lineThatHolds_2 (r : Nat) : Nat → Int32 → qM → Option (Int32 × qM)
  | 0, _, _ => none
  | n + 1, a2, m =>
    bif leb ((gI m r 6)) a2 then some ((-1 : Int32), m) else fX5_lineThatHolds_10 r (fX5_lineThatHolds_29 r (fX5_lineThatHolds_2 r n)) FU a2 ((1 : Int32)) ((0 : Int32)) m
noncomputable def fX5_lineThatHolds_0 (r : Nat) (m : qM) : Option (Int32 × qM) :=
  fX5_lineThatHolds_2 r FU ((0 : Int32)) m
theorem fX5_lineThatHolds_x : ∃ f : Nat → qM → Option (Int32 × qM), f = fun r m => fX5_lineThatHolds_0 r m := ⟨_, rfl⟩
noncomputable def fX5_lineThatHolds : Nat → qM → Option (Int32 × qM) := Classical.choose fX5_lineThatHolds_x
theorem fX5_lineThatHolds_d : fX5_lineThatHolds = fun r m => fX5_lineThatHolds_0 r m := Classical.choose_spec fX5_lineThatHolds_x
noncomputable def fX10_usualOver_21 (s0 : Int32) (m : qM) : Option (Int32 × qM) :=
  some (s0, m)
noncomputable def fX10_usualOver_0 (a1 : Int32) (m : qM) : Option (Int32 × qM) :=
  bif inb a1 10 then bif eqb ((gI m 18 (ix a1))) ((0 : Int32)) then fX10_usualOver_21 ((0 : Int32)) m else bif eqb ((2 : Int32)) (0 : Int32) then none else bif inb (((a1 * (20 : Int32)) + (((gI m 18 (ix a1)) - (1 : Int32)) / (2 : Int32)))) 200 then fX10_usualOver_21 ((gI m 17 (ix (((a1 * (20 : Int32)) + (((gI m 18 (ix a1)) - (1 : Int32)) / (2 : Int32))))))) m else none else none
theorem fX10_usualOver_x : ∃ f : Int32 → qM → Option (Int32 × qM), f = fun a1 m => fX10_usualOver_0 a1 m := ⟨_, rfl⟩
noncomputable def fX10_usualOver : Int32 → qM → Option (Int32 × qM) := Classical.choose fX10_usualOver_x
theorem fX10_usualOver_d : fX10_usualOver = fun a1 m => fX10_usualOver_0 a1 m := Classical.choose_spec fX10_usualOver_x
noncomputable def fX1_fullMinutes_18 (s0 : Int32) (m : qM) : Option (Int32 × qM) :=
  qbI (fX7_slotMinutes m) (fun x5 m6 => some ((x5 + s0), m6))
noncomputable def fX1_fullMinutes_0 (a1 : Int32) (m : qM) : Option (Int32 × qM) :=
  bif inb a1 40 then bif eqb ((gI m 90 (ix a1))) ((-1 : Int32)) then qbI (fX4_teacherOf a1 m) (fun x1 m2 => qbI (fX10_usualOver x1 m2) (fun x3 m4 => fX1_fullMinutes_18 x3 m4)) else bif inb a1 40 then fX1_fullMinutes_18 ((gI m 90 (ix a1))) m else none else none
theorem fX1_fullMinutes_x : ∃ f : Int32 → qM → Option (Int32 × qM), f = fun a1 m => fX1_fullMinutes_0 a1 m := ⟨_, rfl⟩
noncomputable def fX1_fullMinutes : Int32 → qM → Option (Int32 × qM) := Classical.choose fX1_fullMinutes_x
theorem fX1_fullMinutes_d : fX1_fullMinutes = fun a1 m => fX1_fullMinutes_0 a1 m := Classical.choose_spec fX1_fullMinutes_x
noncomputable def fX1_meet_58 (a1 : Int32) (a5 : Int32) (m : qM) : Option (Unit × qM) :=
  bif inb a5 10 then qbI (fX4_slotOf a1 m) (fun x15 m16 => bif inb a5 10 then let m17 := (sI m16 85 (ix a5) (((gI m 85 (ix a5)) &&& (((1 : Int32) <<< (x15 &&& 31)) ^^^ (-1 : Int32))))); some ((), m17) else none) else none
noncomputable def fX1_meet_0 (a1 : Int32) (a2 : Int32) (a3 : Int32) (m : qM) : Option (Unit × qM) :=
  qbI (fX4_familyOf a1 m) (fun x1 m2 => qbI (fX4_teacherOf a1 m2) (fun x3 m4 => bif inb (((gI m4 80 8) + a1)) 3240 then let m5 := (sI m4 81 (ix (((gI m4 80 8) + a1))) a2); bif inb (((gI m5 80 8) + a1)) 3240 then let m6 := (sI m5 82 (ix (((gI m5 80 8) + a1))) ((a2 + a3))); bif inb x3 10 then let m7 := (sI m6 86 (ix x3) ((a2 + a3))); bif inb x1 15 then let m8 := (sI m7 87 (ix x1) ((a2 + a3))); bif inb x1 15 then let m9 := (sI m8 88 (ix x1) x3); qbI (fX3_tongueOf x1 m9) (fun x10 m11 => bif leb x10 ((0 : Int32)) then fX1_meet_58 a1 x3 m11 else qbI (fX3_tongueOf x1 m11) (fun x12 m13 => bif inb x12 4 then let m14 := (sI m13 89 (ix x12) ((a2 + a3))); fX1_meet_58 a1 x3 m14 else none)) else none else none else none else none else none))
theorem fX1_meet_x : ∃ f : Int32 → Int32 → Int32 → qM → Option (Unit × qM), f = fun a1 a2 a3 m => fX1_meet_0 a1 a2 a3 m := ⟨_, rfl⟩
noncomputable def fX1_meet : Int32 → Int32 → Int32 → qM → Option (Unit × qM) := Classical.choose fX1_meet_x
theorem fX1_meet_d : fX1_meet = fun a1 a2 a3 m => fX1_meet_0 a1 a2 a3 m := Classical.choose_spec fX1_meet_x
noncomputable def fX1_drop_0 (a1 : Int32) (m : qM) : Option (Unit × qM) :=
  qbI (fX4_teacherOf a1 m) (fun x1 m2 => bif inb x1 10 then qbI (fX4_slotOf a1 m2) (fun x3 m4 => bif inb x1 10 then let m5 := (sI m4 85 (ix x1) (((gI m2 85 (ix x1)) &&& (((1 : Int32) <<< (x3 &&& 31)) ^^^ (-1 : Int32))))); some ((), m5) else none) else none)
theorem fX1_drop_x : ∃ f : Int32 → qM → Option (Unit × qM), f = fun a1 m => fX1_drop_0 a1 m := ⟨_, rfl⟩
noncomputable def fX1_drop : Int32 → qM → Option (Unit × qM) := Classical.choose fX1_drop_x
theorem fX1_drop_d : fX1_drop = fun a1 m => fX1_drop_0 a1 m := Classical.choose_spec fX1_drop_x
noncomputable def fX1_actPlainly_22 (m : qM) : Option (Unit × qM) :=
  some ((), m)
noncomputable def fX1_actPlainly_0 (a1 : Int32) (a2 : Int32) (a3 : Int32) (m : qM) : Option (Unit × qM) :=
  qbI (fX1_isHere a1 a2 m) (fun x1 m2 => bif eqb x1 ((0 : Int32)) then qbI (fX7_told ((3 : Int32)) m2) (fun x3 m4 => bif leb a3 x3 then fX1_actPlainly_22 m4 else qbV (fX1_drop a1 m4) (fun m5 => fX1_actPlainly_22 m5)) else qbI (fX1_fullMinutes a1 m2) (fun x6 m7 => qbV (fX1_meet a1 a2 x6 m7) (fun m8 => fX1_actPlainly_22 m8)))
theorem fX1_actPlainly_x : ∃ f : Int32 → Int32 → Int32 → qM → Option (Unit × qM), f = fun a1 a2 a3 m => fX1_actPlainly_0 a1 a2 a3 m := ⟨_, rfl⟩
noncomputable def fX1_actPlainly : Int32 → Int32 → Int32 → qM → Option (Unit × qM) := Classical.choose fX1_actPlainly_x
theorem fX1_actPlainly_d : fX1_actPlainly = fun a1 a2 a3 m => fX1_actPlainly_0 a1 a2 a3 m := Classical.choose_spec fX1_actPlainly_x
noncomputable def fX5_actOf_11 (r : Nat) (s0 : Int32) (m : qM) : Option (Int32 × qM) :=
  some (s0, m)
noncomputable def fX5_actOf_0 (r : Nat) (a1 : Int32) (m : qM) : Option (Int32 × qM) :=
  qbI (fX11_within a1 ((0 : Int32)) ((7 : Int32)) m) (fun x1 m2 => bif eqb x1 ((0 : Int32)) then fX5_actOf_11 r ((-1 : Int32)) m2 else bif inb a1 8 then fX5_actOf_11 r ((gI m2 (r + 5) (ix a1))) m2 else none)
theorem fX5_actOf_x : ∃ f : Nat → Int32 → qM → Option (Int32 × qM), f = fun r a1 m => fX5_actOf_0 r a1 m := ⟨_, rfl⟩
noncomputable def fX5_actOf : Nat → Int32 → qM → Option (Int32 × qM) := Classical.choose fX5_actOf_x
theorem fX5_actOf_d : fX5_actOf = fun r a1 m => fX5_actOf_0 r a1 m := Classical.choose_spec fX5_actOf_x
noncomputable def fX5_actNumberOf_11 (r : Nat) (s0 : Int32) (m : qM) : Option (Int32 × qM) :=
  some (s0, m)
noncomputable def fX5_actNumberOf_0 (r : Nat) (a1 : Int32) (m : qM) : Option (Int32 × qM) :=
  qbI (fX11_within a1 ((0 : Int32)) ((7 : Int32)) m) (fun x1 m2 => bif eqb x1 ((0 : Int32)) then fX5_actNumberOf_11 r ((0 : Int32)) m2 else bif inb a1 8 then fX5_actNumberOf_11 r ((gI m2 (r + 6) (ix a1))) m2 else none)
theorem fX5_actNumberOf_x : ∃ f : Nat → Int32 → qM → Option (Int32 × qM), f = fun r a1 m => fX5_actNumberOf_0 r a1 m := ⟨_, rfl⟩
noncomputable def fX5_actNumberOf : Nat → Int32 → qM → Option (Int32 × qM) := Classical.choose fX5_actNumberOf_x
theorem fX5_actNumberOf_d : fX5_actNumberOf = fun r a1 m => fX5_actNumberOf_0 r a1 m := Classical.choose_spec fX5_actNumberOf_x
noncomputable def fX1_meetIfHere_10 (m : qM) : Option (Unit × qM) :=
  some ((), m)
noncomputable def fX1_meetIfHere_0 (a1 : Int32) (a2 : Int32) (a3 : Int32) (m : qM) : Option (Unit × qM) :=
  qbI (fX1_isHere a1 a2 m) (fun x1 m2 => bif eqb x1 ((0 : Int32)) then fX1_meetIfHere_10 m2 else qbV (fX1_meet a1 a2 a3 m2) (fun m3 => fX1_meetIfHere_10 m3))
theorem fX1_meetIfHere_x : ∃ f : Int32 → Int32 → Int32 → qM → Option (Unit × qM), f = fun a1 a2 a3 m => fX1_meetIfHere_0 a1 a2 a3 m := ⟨_, rfl⟩
noncomputable def fX1_meetIfHere : Int32 → Int32 → Int32 → qM → Option (Unit × qM) := Classical.choose fX1_meetIfHere_x
theorem fX1_meetIfHere_d : fX1_meetIfHere = fun a1 a2 a3 m => fX1_meetIfHere_0 a1 a2 a3 m := Classical.choose_spec fX1_meetIfHere_x
noncomputable def fX1_meetOneBehind_41 (k12 : Int32 → Int32 → Int32 → qM → Option (Unit × qM)) (a2 : Int32) (a3 : Int32) (a4 : Int32) (m : qM) : Option (Unit × qM) :=
  k12 a2 a3 ((a4 + (1 : Int32))) m
noncomputable def fX1_meetOneBehind_12 : Nat → Int32 → Int32 → Int32 → qM → Option (Unit × qM)
  | 0, _, _, _, _ => none
  | n + 1, a2, a3, a4, m =>
    bif leb ((20 : Int32)) a4 then some ((), m) else qbI (fX4_askIn a3 a4 m) (fun x5 m6 => bif inb a3 10 then qbI (fX11_has ((gI m6 85 (ix a3))) a4 m6) (fun x7 m8 => bif eqb x7 ((0 : Int32)) then fX1_meetOneBehind_41 (fX1_meetOneBehind_12 n) a2 a3 a4 m8 else qbI (fX1_isHere x5 a2 m8) (fun x9 m10 => bif eqb x9 ((0 : Int32)) then fX1_meetOneBehind_41 (fX1_meetOneBehind_12 n) a2 a3 a4 m10 else qbI (fX1_fullMinutes x5 m10) (fun x11 m12 => qbV (fX1_meet x5 a2 x11 m12) (fun m13 => some ((), m13))))) else none)
noncomputable def fX1_meetOneBehind_0 (a1 : Int32) (a2 : Int32) (m : qM) : Option (Unit × qM) :=
  qbI (fX4_teacherOf a1 m) (fun x1 m2 => qbI (fX4_slotOf a1 m2) (fun x3 m4 => fX1_meetOneBehind_12 FU a2 x1 ((x3 + (1 : Int32))) m4))
theorem fX1_meetOneBehind_x : ∃ f : Int32 → Int32 → qM → Option (Unit × qM), f = fun a1 a2 m => fX1_meetOneBehind_0 a1 a2 m := ⟨_, rfl⟩
noncomputable def fX1_meetOneBehind : Int32 → Int32 → qM → Option (Unit × qM) := Classical.choose fX1_meetOneBehind_x
theorem fX1_meetOneBehind_d : fX1_meetOneBehind = fun a1 a2 m => fX1_meetOneBehind_0 a1 a2 m := Classical.choose_spec fX1_meetOneBehind_x
noncomputable def fX1_act_40 (m : qM) : Option (Unit × qM) :=
  some ((), m)
noncomputable def fX1_act_0 (a1 : Int32) (a2 : Int32) (a3 : Int32) (a4 : Int32) (m : qM) : Option (Unit × qM) :=
  bif eqb a1 (0 : Int32) then qbV (fX1_drop a3 m) (fun m1 => fX1_act_40 m1) else bif eqb a1 ((0 : Int32) + 1) then qbI (fX1_fullMinutes a3 m) (fun x2 m3 => qbV (fX1_meetIfHere a3 a4 x2 m3) (fun m4 => fX1_act_40 m4)) else bif eqb a1 (((0 : Int32) + 1) + 1) then fX1_act_40 m else bif eqb a1 ((((0 : Int32) + 1) + 1) + 1) then qbV (fX1_meetOneBehind a3 a4 m) (fun m5 => fX1_act_40 m5) else bif eqb a1 (((((0 : Int32) + 1) + 1) + 1) + 1) then qbI (fX7_slotMinutes m) (fun x6 m7 => qbI (fJ9_min_7cf53 a2 x6 m7) (fun x8 m9 => qbV (fX1_meetIfHere a3 a4 x8 m9) (fun m10 => fX1_act_40 m10))) else bif eqb a1 ((((((0 : Int32) + 1) + 1) + 1) + 1) + 1) then qbI (fX4_teacherOf a3 m) (fun x11 m12 => bif inb x11 10 then let m13 := (sI m12 86 (ix x11) ((a4 + a2))); fX1_act_40 m13 else none) else fX1_act_40 m
theorem fX1_act_x : ∃ f : Int32 → Int32 → Int32 → Int32 → qM → Option (Unit × qM), f = fun a1 a2 a3 a4 m => fX1_act_0 a1 a2 a3 a4 m := ⟨_, rfl⟩
noncomputable def fX1_act : Int32 → Int32 → Int32 → Int32 → qM → Option (Unit × qM) := Classical.choose fX1_act_x
theorem fX1_act_d : fX1_act = fun a1 a2 a3 a4 m => fX1_act_0 a1 a2 a3 a4 m := Classical.choose_spec fX1_act_x
noncomputable def fX1_look_98 (m : qM) : Option (Unit × qM) :=
  some ((), m)
noncomputable def fX1_look_80 (a2 : Int32) (a4 : Int32) (a6 : Int32) (m : qM) : Option (Unit × qM) :=
  qbV (fX1_actPlainly a6 a2 ((a2 - a4)) m) (fun m14 => fX1_look_98 m14)
noncomputable def fX1_look_75a (a2 : Int32) (a4 : Int32) (a6 : Int32) (a8 : Int32) (m : qM) : Option (Unit × qM) :=
  fX1_look_80 a2 a4 a6 m
noncomputable def fX1_look_75 (a2 : Int32) (a4 : Int32) (a6 : Int32) (a7 : Nat) (a8 : Int32) (m : qM) : Option (Unit × qM) :=
  bif Nat.blt a7 1000 then bif eqb a8 ((-1 : Int32)) then fX1_look_80 a2 a4 a6 m else qbI (bif qpol a7 then fX5_actOf a7 a8 m else none) (fun x18 m19 => qbI (bif qpol a7 then fX5_actNumberOf a7 a8 m19 else none) (fun x20 m21 => qbV (fX1_act x18 x20 a6 a2 m21) (fun m22 => fX1_look_98 m22))) else none
noncomputable def fX1_look_0 (a1 : Int32) (a2 : Int32) (m : qM) : Option (Unit × qM) :=
  bif inb a1 10 then bif eqb ((gI m 85 (ix a1))) ((0 : Int32)) then bif inb a1 10 then let m17 := (sI m 86 (ix a1) ((800 : Int32))); some ((), m17) else none else bif inb a1 10 then qbI (fX11_leastOf ((gI m 85 (ix a1))) m) (fun x1 m2 => qbI (fX7_slotMinutes m2) (fun x3 m4 => bif leb ((x1 * x3)) a2 then qbI (fX9_awayUpTo a1 a2 ((gI m4 80 9)) m4) (fun x5 m6 => bif eqb x5 ((-1 : Int32)) then qbI (fX4_askIn a1 x1 m6) (fun x7 m8 => qbR (fX10_policyOf a1 m8) (fun q9 m10 => bif Nat.blt q9 1000 then qbV (fX1_gatherFacts x7 a2 m10) (fun m11 => qbI (bif qpol q9 then fX5_lineThatHolds q9 m11 else none) (fun x12 m13 => fX1_look_75 a2 ((x1 * x3)) x7 q9 x12 m13)) else none) (fun m10 => fX1_look_75a a2 ((x1 * x3)) x7 ((-1 : Int32)) m10)) else bif inb a1 10 then let m15 := (sI m6 86 (ix a1) ((x5 + (1 : Int32)))); some ((), m15) else none) else bif inb a1 10 then let m16 := (sI m4 86 (ix a1) ((x1 * x3))); some ((), m16) else none)) else none else none
theorem fX1_look_x : ∃ f : Int32 → Int32 → qM → Option (Unit × qM), f = fun a1 a2 m => fX1_look_0 a1 a2 m := ⟨_, rfl⟩
noncomputable def fX1_look : Int32 → Int32 → qM → Option (Unit × qM) := Classical.choose fX1_look_x
theorem fX1_look_d : fX1_look = fun a1 a2 m => fX1_look_0 a1 a2 m := Classical.choose_spec fX1_look_x
noncomputable def fX1_makeReady_10 (m : qM) : Option (Unit × qM) :=
  some ((), m)
noncomputable def fX1_makeReady_36 (k23 : Int32 → Int32 → Int32 → Int32 → qM → Option (Unit × qM)) (a1 : Int32) (a2 : Int32) (a3 : Int32) (a4 : Int32) (m : qM) : Option (Unit × qM) :=
  bif inb a4 10 then qbI (fJ9_min_7cf53 a3 ((gI m 86 (ix a4))) m) (fun x8 m9 => k23 a1 a2 x8 ((a4 + (1 : Int32))) m9) else none
noncomputable def fX1_makeReady_23 (k16 : Int32 → Int32 → qM → Option (Unit × qM)) : Nat → Int32 → Int32 → Int32 → Int32 → qM → Option (Unit × qM)
  | 0, _, _, _, _, _ => none
  | n + 1, a1, a2, a3, a4, m =>
    bif leb ((10 : Int32)) a4 then qbI (fJ9_max_7cf53 ((a2 + (1 : Int32))) a3 m) (fun x5 m6 => k16 a1 x5 m6) else bif inb a4 10 then bif ltb a2 ((gI m 86 (ix a4))) then fX1_makeReady_36 (fX1_makeReady_23 k16 n) a1 a2 a3 a4 m else qbV (fX1_look a4 a2 m) (fun m7 => fX1_makeReady_36 (fX1_makeReady_23 k16 n) a1 a2 a3 a4 m7) else none
noncomputable def fX1_makeReady_16 : Nat → Int32 → Int32 → qM → Option (Unit × qM)
  | 0, _, _, _ => none
  | n + 1, a1, a2, m =>
    bif leb ((800 : Int32)) a2 then bif inb a1 81 then let m4 := (sI m 83 (ix a1) ((nz ((1 : Int32))))); some ((), m4) else none else fX1_makeReady_23 (fX1_makeReady_16 n) FU a1 a2 ((800 : Int32)) ((0 : Int32)) m
noncomputable def fX1_makeReady_0 (a1 : Int32) (m : qM) : Option (Unit × qM) :=
  qbI (fX11_within a1 ((0 : Int32)) ((80 : Int32)) m) (fun x1 m2 => bif eqb x1 ((0 : Int32)) then fX1_makeReady_10 m2 else bif inb a1 81 then bif eqb ((gI m2 83 (ix a1))) ((0 : Int32)) then qbV (fX1_prepare a1 m2) (fun m3 => fX1_makeReady_16 FU a1 ((0 : Int32)) m3) else fX1_makeReady_10 m2 else none)
theorem fX1_makeReady_x : ∃ f : Int32 → qM → Option (Unit × qM), f = fun a1 m => fX1_makeReady_0 a1 m := ⟨_, rfl⟩
noncomputable def fX1_makeReady : Int32 → qM → Option (Unit × qM) := Classical.choose fX1_makeReady_x
theorem fX1_makeReady_d : fX1_makeReady = fun a1 m => fX1_makeReady_0 a1 m := Classical.choose_spec fX1_makeReady_x
noncomputable def fX1_startOf_17 (s0 : Int32) (m : qM) : Option (Int32 × qM) :=
  some (s0, m)
noncomputable def fX1_startOf_0 (a1 : Int32) (a2 : Int32) (m : qM) : Option (Int32 × qM) :=
  qbI (fX11_within (((a2 * (40 : Int32)) + a1)) ((0 : Int32)) ((3239 : Int32)) m) (fun x1 m2 => bif eqb x1 ((0 : Int32)) then fX1_startOf_17 ((-1 : Int32)) m2 else bif inb (((a2 * (40 : Int32)) + a1)) 3240 then fX1_startOf_17 ((gI m2 81 (ix (((a2 * (40 : Int32)) + a1))))) m2 else none)
theorem fX1_startOf_x : ∃ f : Int32 → Int32 → qM → Option (Int32 × qM), f = fun a1 a2 m => fX1_startOf_0 a1 a2 m := ⟨_, rfl⟩
noncomputable def fX1_startOf : Int32 → Int32 → qM → Option (Int32 × qM) := Classical.choose fX1_startOf_x
theorem fX1_startOf_d : fX1_startOf = fun a1 a2 m => fX1_startOf_0 a1 a2 m := Classical.choose_spec fX1_startOf_x
noncomputable def fX1_stopOf_17 (s0 : Int32) (m : qM) : Option (Int32 × qM) :=
  some (s0, m)
noncomputable def fX1_stopOf_0 (a1 : Int32) (a2 : Int32) (m : qM) : Option (Int32 × qM) :=
  qbI (fX11_within (((a2 * (40 : Int32)) + a1)) ((0 : Int32)) ((3239 : Int32)) m) (fun x1 m2 => bif eqb x1 ((0 : Int32)) then fX1_stopOf_17 ((-1 : Int32)) m2 else bif inb (((a2 * (40 : Int32)) + a1)) 3240 then fX1_stopOf_17 ((gI m2 82 (ix (((a2 * (40 : Int32)) + a1))))) m2 else none)
theorem fX1_stopOf_x : ∃ f : Int32 → Int32 → qM → Option (Int32 × qM), f = fun a1 a2 m => fX1_stopOf_0 a1 a2 m := ⟨_, rfl⟩
noncomputable def fX1_stopOf : Int32 → Int32 → qM → Option (Int32 × qM) := Classical.choose fX1_stopOf_x
theorem fX1_stopOf_d : fX1_stopOf = fun a1 a2 m => fX1_stopOf_0 a1 a2 m := Classical.choose_spec fX1_stopOf_x
noncomputable def fX1_missed_21 (k4 : Int32 → Int32 → Int32 → qM → Option (Int32 × qM)) (a1 : Int32) (a2 : Int32) (a3 : Int32) (m : qM) : Option (Int32 × qM) :=
  k4 a1 a2 ((a3 + (1 : Int32))) m
noncomputable def fX1_missed_4 : Nat → Int32 → Int32 → Int32 → qM → Option (Int32 × qM)
  | 0, _, _, _, _ => none
  | n + 1, a1, a2, a3, m =>
    qbI (fX4_asks m) (fun x1 m2 => bif leb x1 a3 then some (a2, m2) else qbI (fX4_isLaid a3 m2) (fun x3 m4 => bif eqb x3 ((0 : Int32)) then fX1_missed_21 (fX1_missed_4 n) a1 a2 a3 m4 else qbI (fX1_startOf a3 a1 m4) (fun x5 m6 => bif eqb x5 ((-1 : Int32)) then fX1_missed_21 (fX1_missed_4 n) a1 ((a2 + (1 : Int32))) a3 m6 else fX1_missed_21 (fX1_missed_4 n) a1 a2 a3 m6)))
noncomputable def fX1_missed_0 (a1 : Int32) (m : qM) : Option (Int32 × qM) :=
  fX1_missed_4 FU a1 ((0 : Int32)) ((0 : Int32)) m
theorem fX1_missed_x : ∃ f : Int32 → qM → Option (Int32 × qM), f = fun a1 m => fX1_missed_0 a1 m := ⟨_, rfl⟩
noncomputable def fX1_missed : Int32 → qM → Option (Int32 × qM) := Classical.choose fX1_missed_x
theorem fX1_missed_d : fX1_missed = fun a1 m => fX1_missed_0 a1 m := Classical.choose_spec fX1_missed_x
noncomputable def fX1_lastStop_4 : Nat → Int32 → Int32 → Int32 → qM → Option (Int32 × qM)
  | 0, _, _, _, _ => none
  | n + 1, a1, a2, a3, m =>
    qbI (fX4_asks m) (fun x1 m2 => bif leb x1 a3 then some (a2, m2) else qbI (fX1_stopOf a3 a1 m2) (fun x3 m4 => qbI (fJ9_max_7cf53 a2 x3 m4) (fun x5 m6 => (fX1_lastStop_4 n) a1 x5 ((a3 + (1 : Int32))) m6)))
noncomputable def fX1_lastStop_0 (a1 : Int32) (m : qM) : Option (Int32 × qM) :=
  fX1_lastStop_4 FU a1 ((0 : Int32)) ((0 : Int32)) m
theorem fX1_lastStop_x : ∃ f : Int32 → qM → Option (Int32 × qM), f = fun a1 m => fX1_lastStop_0 a1 m := ⟨_, rfl⟩
noncomputable def fX1_lastStop : Int32 → qM → Option (Int32 × qM) := Classical.choose fX1_lastStop_x
theorem fX1_lastStop_d : fX1_lastStop = fun a1 m => fX1_lastStop_0 a1 m := Classical.choose_spec fX1_lastStop_x
noncomputable def fX9_size_0 (m : qM) : Option (Int32 × qM) :=
  some ((gI m 74 5), m)
theorem fX9_size_x : ∃ f : qM → Option (Int32 × qM), f = fun m => fX9_size_0 m := ⟨_, rfl⟩
noncomputable def fX9_size : qM → Option (Int32 × qM) := Classical.choose fX9_size_x
theorem fX9_size_d : fX9_size = fun m => fX9_size_0 m := Classical.choose_spec fX9_size_x
noncomputable def fJ9_abs_0f7a4_6 (s0 : Int32) (m : qM) : Option (Int32 × qM) :=
  some (s0, m)
noncomputable def fJ9_abs_0f7a4_0 (a0 : Int32) (m : qM) : Option (Int32 × qM) :=
  bif leb ((0 : Int32)) a0 then fJ9_abs_0f7a4_6 a0 m else fJ9_abs_0f7a4_6 (-a0) m
theorem fJ9_abs_0f7a4_x : ∃ f : Int32 → qM → Option (Int32 × qM), f = fun a0 m => fJ9_abs_0f7a4_0 a0 m := ⟨_, rfl⟩
noncomputable def fJ9_abs_0f7a4 : Int32 → qM → Option (Int32 × qM) := Classical.choose fJ9_abs_0f7a4_x
theorem fJ9_abs_0f7a4_d : fJ9_abs_0f7a4 = fun a0 m => fJ9_abs_0f7a4_0 a0 m := Classical.choose_spec fJ9_abs_0f7a4_x
noncomputable def fX1_howFar_12 (s0 : Int32) (m : qM) : Option (Int32 × qM) :=
  some (s0, m)
noncomputable def fX1_howFar_6 (a0 : Int32) (a1 : Int32) (m : qM) : Option (Int32 × qM) :=
  bif eqb a0 a1 then fX1_howFar_12 ((0 : Int32)) m else fX1_howFar_12 ((30 : Int32)) m
noncomputable def fX1_howFar_0 (a0 : Int32) (a1 : Int32) (m : qM) : Option (Int32 × qM) :=
  bif eqb a0 ((-1 : Int32)) then fX1_howFar_6 a0 a1 m else bif eqb a1 ((-1 : Int32)) then fX1_howFar_6 a0 a1 m else qbI (fJ9_abs_0f7a4 ((a0 - a1)) m) (fun x1 m2 => some (x1, m2))
theorem fX1_howFar_x : ∃ f : Int32 → Int32 → qM → Option (Int32 × qM), f = fun a0 a1 m => fX1_howFar_0 a0 a1 m := ⟨_, rfl⟩
noncomputable def fX1_howFar : Int32 → Int32 → qM → Option (Int32 × qM) := Classical.choose fX1_howFar_x
theorem fX1_howFar_d : fX1_howFar = fun a0 a1 m => fX1_howFar_0 a0 a1 m := Classical.choose_spec fX1_howFar_x
noncomputable def fX1_offAt_36 (k4 : Int32 → Int32 → Int32 → Int32 → qM → Option (Int32 × qM)) (a1 : Int32) (a2 : Int32) (a3 : Int32) (a4 : Int32) (m : qM) : Option (Int32 × qM) :=
  k4 a1 a2 a3 ((a4 + (1 : Int32))) m
noncomputable def fX1_offAt_25 (k4 : Int32 → Int32 → Int32 → Int32 → qM → Option (Int32 × qM)) (a1 : Int32) (a2 : Int32) (a3 : Int32) (a4 : Int32) (a5 : Int32) (m : qM) : Option (Int32 × qM) :=
  qbI (fX9_size m) (fun x7 m8 => qbI (fX1_startOf a4 x7 m8) (fun x9 m10 => qbI (fX1_howFar a5 x9 m10) (fun x11 m12 => fX1_offAt_36 k4 a1 a2 ((a3 + x11)) a4 m12)))
noncomputable def fX1_offAt_4 : Nat → Int32 → Int32 → Int32 → Int32 → qM → Option (Int32 × qM)
  | 0, _, _, _, _, _ => none
  | n + 1, a1, a2, a3, a4, m =>
    qbI (fX4_asks m) (fun x1 m2 => bif leb x1 a4 then some (a3, m2) else qbI (fX1_startOf a4 a2 m2) (fun x3 m4 => qbI (fX4_isLaid a4 m4) (fun x5 m6 => bif eqb x5 ((0 : Int32)) then fX1_offAt_36 (fX1_offAt_4 n) a1 a2 a3 a4 m6 else bif eqb x3 ((-1 : Int32)) then fX1_offAt_25 (fX1_offAt_4 n) a1 a2 a3 a4 x3 m6 else bif leb x3 a1 then fX1_offAt_36 (fX1_offAt_4 n) a1 a2 a3 a4 m6 else fX1_offAt_25 (fX1_offAt_4 n) a1 a2 a3 a4 x3 m6)))
noncomputable def fX1_offAt_0 (a1 : Int32) (a2 : Int32) (m : qM) : Option (Int32 × qM) :=
  fX1_offAt_4 FU a1 a2 ((0 : Int32)) ((0 : Int32)) m
theorem fX1_offAt_x : ∃ f : Int32 → Int32 → qM → Option (Int32 × qM), f = fun a1 a2 m => fX1_offAt_0 a1 a2 m := ⟨_, rfl⟩
noncomputable def fX1_offAt : Int32 → Int32 → qM → Option (Int32 × qM) := Classical.choose fX1_offAt_x
theorem fX1_offAt_d : fX1_offAt = fun a1 a2 m => fX1_offAt_0 a1 a2 m := Classical.choose_spec fX1_offAt_x
noncomputable def fX1_nextOf_32 (k6 : Int32 → Int32 → Int32 → Int32 → Int32 → Int32 → qM → Option (Int32 × qM)) (a1 : Int32) (a2 : Int32) (a3 : Int32) (a4 : Int32) (a5 : Int32) (a6 : Int32) (m : qM) : Option (Int32 × qM) :=
  k6 a1 a2 a3 a4 a5 ((a6 + (1 : Int32))) m
noncomputable def fX1_nextOf_6 : Nat → Int32 → Int32 → Int32 → Int32 → Int32 → Int32 → qM → Option (Int32 × qM)
  | 0, _, _, _, _, _, _, _ => none
  | n + 1, a1, a2, a3, a4, a5, a6, m =>
    qbI (fX4_asks m) (fun x1 m2 => bif leb x1 a6 then some (a4, m2) else qbI (fX1_startOf a6 a3 m2) (fun x3 m4 => qbI (fX4_familyOf a6 m4) (fun x5 m6 => bif eqb x5 a1 then bif leb x3 a2 then fX1_nextOf_32 (fX1_nextOf_6 n) a1 a2 a3 a4 a5 a6 m6 else bif leb a5 x3 then fX1_nextOf_32 (fX1_nextOf_6 n) a1 a2 a3 a4 a5 a6 m6 else fX1_nextOf_32 (fX1_nextOf_6 n) a1 a2 a3 a6 x3 a6 m6 else fX1_nextOf_32 (fX1_nextOf_6 n) a1 a2 a3 a4 a5 a6 m6)))
noncomputable def fX1_nextOf_0 (a1 : Int32) (a2 : Int32) (a3 : Int32) (m : qM) : Option (Int32 × qM) :=
  fX1_nextOf_6 FU a1 a2 a3 ((-1 : Int32)) ((800 : Int32)) ((0 : Int32)) m
theorem fX1_nextOf_x : ∃ f : Int32 → Int32 → Int32 → qM → Option (Int32 × qM), f = fun a1 a2 a3 m => fX1_nextOf_0 a1 a2 a3 m := ⟨_, rfl⟩
noncomputable def fX1_nextOf : Int32 → Int32 → Int32 → qM → Option (Int32 × qM) := Classical.choose fX1_nextOf_x
theorem fX1_nextOf_d : fX1_nextOf = fun a1 a2 a3 m => fX1_nextOf_0 a1 a2 a3 m := Classical.choose_spec fX1_nextOf_x
noncomputable def fX9_minuteOf_12 (s0 : Int32) (m : qM) : Option (Int32 × qM) :=
  some (s0, m)
noncomputable def fX9_minuteOf_11 (m : qM) : Option (Int32 × qM) :=
  fX9_minuteOf_12 ((-1 : Int32)) m
noncomputable def fX9_minuteOf_0 (a1 : Int32) (m : qM) : Option (Int32 × qM) :=
  bif ltb a1 ((0 : Int32)) then fX9_minuteOf_11 m else bif leb ((gI m 74 5)) a1 then fX9_minuteOf_11 m else bif inb a1 80 then fX9_minuteOf_12 ((gI m 76 (ix a1))) m else none
theorem fX9_minuteOf_x : ∃ f : Int32 → qM → Option (Int32 × qM), f = fun a1 m => fX9_minuteOf_0 a1 m := ⟨_, rfl⟩
noncomputable def fX9_minuteOf : Int32 → qM → Option (Int32 × qM) := Classical.choose fX9_minuteOf_x
theorem fX9_minuteOf_d : fX9_minuteOf = fun a1 m => fX9_minuteOf_0 a1 m := Classical.choose_spec fX9_minuteOf_x
noncomputable def fX9_areAllOfTheirMinutes_14 (s0 : Int32) (m : qM) : Option (Int32 × qM) :=
  some (nz s0, m)
noncomputable def fX9_areAllOfTheirMinutes_11 (m : qM) : Option (Int32 × qM) :=
  fX9_areAllOfTheirMinutes_14 ((1 : Int32)) m
noncomputable def fX9_areAllOfTheirMinutes_0 (a1 : Int32) (m : qM) : Option (Int32 × qM) :=
  bif eqb a1 ((0 : Int32)) then fX9_areAllOfTheirMinutes_11 m else qbI (fX9_minuteOf a1 m) (fun x1 m2 => qbI (fX9_minuteOf ((a1 - (1 : Int32))) m2) (fun x3 m4 => bif eqb x1 x3 then fX9_areAllOfTheirMinutes_14 ((0 : Int32)) m4 else fX9_areAllOfTheirMinutes_11 m4))
theorem fX9_areAllOfTheirMinutes_x : ∃ f : Int32 → qM → Option (Int32 × qM), f = fun a1 m => fX9_areAllOfTheirMinutes_0 a1 m := ⟨_, rfl⟩
noncomputable def fX9_areAllOfTheirMinutes : Int32 → qM → Option (Int32 × qM) := Classical.choose fX9_areAllOfTheirMinutes_x
theorem fX9_areAllOfTheirMinutes_d : fX9_areAllOfTheirMinutes = fun a1 m => fX9_areAllOfTheirMinutes_0 a1 m := Classical.choose_spec fX9_areAllOfTheirMinutes_x
noncomputable def fX1_isMessage_34 (s0 : Int32) (m : qM) : Option (Int32 × qM) :=
  some (nz s0, m)
noncomputable def fX1_isMessage_33 (m : qM) : Option (Int32 × qM) :=
  fX1_isMessage_34 ((0 : Int32)) m
noncomputable def fX1_isMessage_0 (a1 : Int32) (a2 : Int32) (a3 : Int32) (a4 : Int32) (m : qM) : Option (Int32 × qM) :=
  qbI (fX1_nextOf a1 a2 a3 m) (fun x1 m2 => qbI (fX1_nextOf a1 a2 a4 m2) (fun x3 m4 => bif eqb x1 x3 then bif eqb x3 ((-1 : Int32)) then fX1_isMessage_33 m4 else qbI (fX1_startOf x1 a3 m4) (fun x5 m6 => qbI (fX1_startOf x3 a4 m6) (fun x7 m8 => qbI (fX1_howFar x5 x7 m8) (fun x9 m10 => bif ltb x9 ((5 : Int32)) then fX1_isMessage_33 m10 else fX1_isMessage_34 ((1 : Int32)) m10))) else some (nz ((1 : Int32)), m4)))
theorem fX1_isMessage_x : ∃ f : Int32 → Int32 → Int32 → Int32 → qM → Option (Int32 × qM), f = fun a1 a2 a3 a4 m => fX1_isMessage_0 a1 a2 a3 a4 m := ⟨_, rfl⟩
noncomputable def fX1_isMessage : Int32 → Int32 → Int32 → Int32 → qM → Option (Int32 × qM) := Classical.choose fX1_isMessage_x
theorem fX1_isMessage_d : fX1_isMessage = fun a1 a2 a3 a4 m => fX1_isMessage_0 a1 a2 a3 a4 m := Classical.choose_spec fX1_isMessage_x
noncomputable def fX1_messagesTo_31 (k6 : Int32 → Int32 → Int32 → Int32 → qM → Option (Int32 × qM)) (a1 : Int32) (a2 : Int32) (a3 : Int32) (a4 : Int32) (m : qM) : Option (Int32 × qM) :=
  k6 a1 a2 a3 ((a4 + (1 : Int32))) m
noncomputable def fX1_messagesTo_29 (k6 : Int32 → Int32 → Int32 → Int32 → qM → Option (Int32 × qM)) (a1 : Int32) (a2 : Int32) (a4 : Int32) (m : qM) : Option (Int32 × qM) :=
  fX1_messagesTo_31 k6 a1 a2 a4 a4 m
noncomputable def fX1_messagesTo_6 : Nat → Int32 → Int32 → Int32 → Int32 → qM → Option (Int32 × qM)
  | 0, _, _, _, _, _ => none
  | n + 1, a1, a2, a3, a4, m =>
    qbI (fX9_size m) (fun x1 m2 => bif ltb x1 a4 then some (a2, m2) else qbI (fX9_areAllOfTheirMinutes a4 m2) (fun x3 m4 => bif eqb x3 ((0 : Int32)) then fX1_messagesTo_31 (fX1_messagesTo_6 n) a1 a2 a3 a4 m4 else qbI (fX9_minuteOf ((a4 - (1 : Int32))) m4) (fun x5 m6 => qbI (fX1_isMessage a1 x5 a3 a4 m6) (fun x7 m8 => bif eqb x7 ((0 : Int32)) then fX1_messagesTo_29 (fX1_messagesTo_6 n) a1 a2 a4 m8 else fX1_messagesTo_29 (fX1_messagesTo_6 n) a1 ((a2 + (1 : Int32))) a4 m8))))
noncomputable def fX1_messagesTo_0 (a1 : Int32) (m : qM) : Option (Int32 × qM) :=
  fX1_messagesTo_6 FU a1 ((0 : Int32)) ((0 : Int32)) ((1 : Int32)) m
theorem fX1_messagesTo_x : ∃ f : Int32 → qM → Option (Int32 × qM), f = fun a1 m => fX1_messagesTo_0 a1 m := ⟨_, rfl⟩
noncomputable def fX1_messagesTo : Int32 → qM → Option (Int32 × qM) := Classical.choose fX1_messagesTo_x
theorem fX1_messagesTo_d : fX1_messagesTo = fun a1 m => fX1_messagesTo_0 a1 m := Classical.choose_spec fX1_messagesTo_x
noncomputable def fX2_size_0 (m : qM) : Option (Int32 × qM) :=
  some ((gI m 93 6), m)
theorem fX2_size_x : ∃ f : qM → Option (Int32 × qM), f = fun m => fX2_size_0 m := ⟨_, rfl⟩
noncomputable def fX2_size : qM → Option (Int32 × qM) := Classical.choose fX2_size_x
theorem fX2_size_d : fX2_size = fun m => fX2_size_0 m := Classical.choose_spec fX2_size_x
noncomputable def fX8_size_0 (m : qM) : Option (Int32 × qM) :=
  some ((gI m 1 1), m)
theorem fX8_size_x : ∃ f : qM → Option (Int32 × qM), f = fun m => fX8_size_0 m := ⟨_, rfl⟩
noncomputable def fX8_size : qM → Option (Int32 × qM) := Classical.choose fX8_size_x
theorem fX8_size_d : fX8_size = fun m => fX8_size_0 m := Classical.choose_spec fX8_size_x
noncomputable def fX8_byteAt_12 (s0 : Int32) (m : qM) : Option (Int32 × qM) :=
  some (s0, m)
noncomputable def fX8_byteAt_11 (m : qM) : Option (Int32 × qM) :=
  fX8_byteAt_12 ((-1 : Int32)) m
noncomputable def fX8_byteAt_0 (a1 : Int32) (m : qM) : Option (Int32 × qM) :=
  bif ltb a1 ((0 : Int32)) then fX8_byteAt_11 m else bif leb ((gI m 1 1)) a1 then fX8_byteAt_11 m else bif inb a1 400 then fX8_byteAt_12 ((gI m 2 (ix a1))) m else none
theorem fX8_byteAt_x : ∃ f : Int32 → qM → Option (Int32 × qM), f = fun a1 m => fX8_byteAt_0 a1 m := ⟨_, rfl⟩
noncomputable def fX8_byteAt : Int32 → qM → Option (Int32 × qM) := Classical.choose fX8_byteAt_x
theorem fX8_byteAt_d : fX8_byteAt = fun a1 m => fX8_byteAt_0 a1 m := Classical.choose_spec fX8_byteAt_x
noncomputable def fX2_isNote_10 : Nat → Int32 → qM → Option (Int32 × qM)
  | 0, _, _ => none
  | n + 1, a1, m =>
    qbI (fX8_size m) (fun x5 m6 => bif leb x5 a1 then some (nz ((1 : Int32)), m6) else qbI (fX8_byteAt a1 m6) (fun x7 m8 => qbI (fX11_within x7 ((32 : Int32)) ((126 : Int32)) m8) (fun x9 m10 => bif eqb x9 ((0 : Int32)) then some (nz ((0 : Int32)), m10) else (fX2_isNote_10 n) ((a1 + (1 : Int32))) m10)))
noncomputable def fX2_isNote_0 (m : qM) : Option (Int32 × qM) :=
  qbI (fX8_size m) (fun x1 m2 => qbI (fX11_within x1 ((1 : Int32)) ((60 : Int32)) m2) (fun x3 m4 => bif eqb x3 ((0 : Int32)) then some (nz ((0 : Int32)), m4) else fX2_isNote_10 FU ((0 : Int32)) m4))
theorem fX2_isNote_x : ∃ f : qM → Option (Int32 × qM), f = fun m => fX2_isNote_0 m := ⟨_, rfl⟩
noncomputable def fX2_isNote : qM → Option (Int32 × qM) := Classical.choose fX2_isNote_x
theorem fX2_isNote_d : fX2_isNote = fun m => fX2_isNote_0 m := Classical.choose_spec fX2_isNote_x
noncomputable def fX2_takeNote_8 (m : qM) : Option (Int32 × qM) :=
  some ((-1 : Int32), m)
noncomputable def fX2_takeNote_23 (k43 : Int32 → qM → Option (Int32 × qM)) : Nat → Int32 → Int32 → qM → Option (Int32 × qM)
  | 0, _, _, _ => none
  | n + 1, a1, a3, m =>
    qbI (fX8_size m) (fun x6 m7 => bif leb x6 a3 then k43 a1 m7 else bif leb ((60 : Int32)) a3 then k43 a1 m7 else qbI (fX8_byteAt a3 m7) (fun x8 m9 => bif inb (((a1 * (60 : Int32)) + a3)) 2400 then let m10 := (sI m9 94 (ix (((a1 * (60 : Int32)) + a3))) x8); (fX2_takeNote_23 k43 n) a1 ((a3 + (1 : Int32))) m10 else none))
noncomputable def fX2_takeNote_43 (a1 : Int32) (m : qM) : Option (Int32 × qM) :=
  qbI (fX8_size m) (fun x11 m12 => bif inb a1 40 then let m13 := (sI m12 95 (ix a1) x11); qbI (fX8_size m13) (fun x14 m15 => some (x14, m15)) else none)
noncomputable def fX2_takeNote_21 (a1 : Int32) (m : qM) : Option (Int32 × qM) :=
  fX2_takeNote_23 fX2_takeNote_43 FU a1 ((0 : Int32)) m
noncomputable def fX2_takeNote_0 (a1 : Int32) (m : qM) : Option (Int32 × qM) :=
  qbI (fX2_isNote m) (fun x1 m2 => bif eqb x1 ((0 : Int32)) then fX2_takeNote_8 m2 else qbI (fX11_within a1 ((0 : Int32)) ((39 : Int32)) m2) (fun x3 m4 => bif eqb x3 ((0 : Int32)) then fX2_takeNote_8 m4 else bif inb a1 40 then bif eqb ((gI m4 95 (ix a1))) ((0 : Int32)) then let m5 := (sI m4 93 6 (((gI m4 93 6) + (1 : Int32)))); fX2_takeNote_21 a1 m5 else fX2_takeNote_21 a1 m4 else none))
theorem fX2_takeNote_x : ∃ f : Int32 → qM → Option (Int32 × qM), f = fun a1 m => fX2_takeNote_0 a1 m := ⟨_, rfl⟩
noncomputable def fX2_takeNote : Int32 → qM → Option (Int32 × qM) := Classical.choose fX2_takeNote_x
theorem fX2_takeNote_d : fX2_takeNote = fun a1 m => fX2_takeNote_0 a1 m := Classical.choose_spec fX2_takeNote_x
noncomputable def fX2_setLet_0 (a1 : Int32) (a2 : Int32) (a3 : Int32) (m : qM) : Option (Int32 × qM) :=
  bif inb a1 40 then qbI (fX11_has ((gI m 96 (ix a1))) a2 m) (fun x1 m2 => bif eqb x1 a3 then some (nz ((0 : Int32)), m2) else bif inb a1 40 then bif inb a1 40 then let m3 := (sI m2 96 (ix a1) (((gI m2 96 (ix a1)) ^^^ ((1 : Int32) <<< (a2 &&& 31))))); some (nz ((1 : Int32)), m3) else none else none) else none
theorem fX2_setLet_x : ∃ f : Int32 → Int32 → Int32 → qM → Option (Int32 × qM), f = fun a1 a2 a3 m => fX2_setLet_0 a1 a2 a3 m := ⟨_, rfl⟩
noncomputable def fX2_setLet : Int32 → Int32 → Int32 → qM → Option (Int32 × qM) := Classical.choose fX2_setLet_x
theorem fX2_setLet_d : fX2_setLet = fun a1 a2 a3 m => fX2_setLet_0 a1 a2 a3 m := Classical.choose_spec fX2_setLet_x
noncomputable def fX2_mayRead_16 (s0 : Int32) (m : qM) : Option (Int32 × qM) :=
  some (nz s0, m)
noncomputable def fX2_mayRead_13 (m : qM) : Option (Int32 × qM) :=
  fX2_mayRead_16 ((1 : Int32)) m
noncomputable def fX2_mayRead_0 (a1 : Int32) (a2 : Int32) (m : qM) : Option (Int32 × qM) :=
  qbI (fX4_teacherOf a2 m) (fun x1 m2 => bif eqb x1 a1 then fX2_mayRead_13 m2 else bif inb a2 40 then qbI (fX11_has ((gI m2 96 (ix a2))) a1 m2) (fun x3 m4 => bif eqb x3 ((0 : Int32)) then fX2_mayRead_16 ((0 : Int32)) m4 else fX2_mayRead_13 m4) else none)
theorem fX2_mayRead_x : ∃ f : Int32 → Int32 → qM → Option (Int32 × qM), f = fun a1 a2 m => fX2_mayRead_0 a1 a2 m := ⟨_, rfl⟩
noncomputable def fX2_mayRead : Int32 → Int32 → qM → Option (Int32 × qM) := Classical.choose fX2_mayRead_x
theorem fX2_mayRead_d : fX2_mayRead = fun a1 a2 m => fX2_mayRead_0 a1 a2 m := Classical.choose_spec fX2_mayRead_x
noncomputable def fX2_byteOf_20 (s0 : Int32) (m : qM) : Option (Int32 × qM) :=
  some (s0, m)
noncomputable def fX2_byteOf_0 (a1 : Int32) (a2 : Int32) (m : qM) : Option (Int32 × qM) :=
  bif inb a1 40 then qbI (fX11_within a2 ((0 : Int32)) (((gI m 95 (ix a1)) - (1 : Int32))) m) (fun x1 m2 => bif eqb x1 ((0 : Int32)) then fX2_byteOf_20 ((-1 : Int32)) m2 else bif inb (((a1 * (60 : Int32)) + a2)) 2400 then fX2_byteOf_20 ((gI m2 94 (ix (((a1 * (60 : Int32)) + a2))))) m2 else none) else none
theorem fX2_byteOf_x : ∃ f : Int32 → Int32 → qM → Option (Int32 × qM), f = fun a1 a2 m => fX2_byteOf_0 a1 a2 m := ⟨_, rfl⟩
noncomputable def fX2_byteOf : Int32 → Int32 → qM → Option (Int32 × qM) := Classical.choose fX2_byteOf_x
theorem fX2_byteOf_d : fX2_byteOf = fun a1 a2 m => fX2_byteOf_0 a1 a2 m := Classical.choose_spec fX2_byteOf_x
noncomputable def fX2_small_10 (s0 : Int32) (m : qM) : Option (Int32 × qM) :=
  some (s0, m)
noncomputable def fX2_small_0 (a0 : Int32) (m : qM) : Option (Int32 × qM) :=
  qbI (fX11_within a0 ((65 : Int32)) ((90 : Int32)) m) (fun x1 m2 => bif eqb x1 ((0 : Int32)) then fX2_small_10 a0 m2 else fX2_small_10 ((a0 + (32 : Int32))) m2)
theorem fX2_small_x : ∃ f : Int32 → qM → Option (Int32 × qM), f = fun a0 m => fX2_small_0 a0 m := ⟨_, rfl⟩
noncomputable def fX2_small : Int32 → qM → Option (Int32 × qM) := Classical.choose fX2_small_x
theorem fX2_small_d : fX2_small = fun a0 m => fX2_small_0 a0 m := Classical.choose_spec fX2_small_x
noncomputable def fX2_isLetter_0 (a0 : Int32) (m : qM) : Option (Int32 × qM) :=
  qbI (fX2_small a0 m) (fun x1 m2 => qbI (fX11_within x1 ((97 : Int32)) ((122 : Int32)) m2) (fun x3 m4 => some (nz x3, m4)))
theorem fX2_isLetter_x : ∃ f : Int32 → qM → Option (Int32 × qM), f = fun a0 m => fX2_isLetter_0 a0 m := ⟨_, rfl⟩
noncomputable def fX2_isLetter : Int32 → qM → Option (Int32 × qM) := Classical.choose fX2_isLetter_x
theorem fX2_isLetter_d : fX2_isLetter = fun a0 m => fX2_isLetter_0 a0 m := Classical.choose_spec fX2_isLetter_x
noncomputable def fX2_isWord_10 : Nat → Int32 → qM → Option (Int32 × qM)
  | 0, _, _ => none
  | n + 1, a1, m =>
    qbI (fX8_size m) (fun x5 m6 => bif leb x5 a1 then some (nz ((1 : Int32)), m6) else qbI (fX8_byteAt a1 m6) (fun x7 m8 => qbI (fX2_isLetter x7 m8) (fun x9 m10 => bif eqb x9 ((0 : Int32)) then some (nz ((0 : Int32)), m10) else (fX2_isWord_10 n) ((a1 + (1 : Int32))) m10)))
noncomputable def fX2_isWord_0 (m : qM) : Option (Int32 × qM) :=
  qbI (fX8_size m) (fun x1 m2 => qbI (fX11_within x1 ((1 : Int32)) ((20 : Int32)) m2) (fun x3 m4 => bif eqb x3 ((0 : Int32)) then some (nz ((0 : Int32)), m4) else fX2_isWord_10 FU ((0 : Int32)) m4))
theorem fX2_isWord_x : ∃ f : qM → Option (Int32 × qM), f = fun m => fX2_isWord_0 m := ⟨_, rfl⟩
noncomputable def fX2_isWord : qM → Option (Int32 × qM) := Classical.choose fX2_isWord_x
theorem fX2_isWord_d : fX2_isWord = fun m => fX2_isWord_0 m := Classical.choose_spec fX2_isWord_x
noncomputable def fX2_isSame_2 : Nat → Int32 → Int32 → Int32 → qM → Option (Int32 × qM)
  | 0, _, _, _, _ => none
  | n + 1, a1, a2, a4, m =>
    qbI (fX8_size m) (fun x1 m2 => bif leb x1 a4 then some (nz ((1 : Int32)), m2) else qbI (fX2_byteOf a1 ((a2 + a4)) m2) (fun x3 m4 => qbI (fX2_small x3 m4) (fun x5 m6 => qbI (fX8_byteAt a4 m6) (fun x7 m8 => qbI (fX2_small x7 m8) (fun x9 m10 => bif eqb x5 x9 then (fX2_isSame_2 n) a1 a2 ((a4 + (1 : Int32))) m10 else some (nz ((0 : Int32)), m10))))))
noncomputable def fX2_isSame_0 (a1 : Int32) (a2 : Int32) (m : qM) : Option (Int32 × qM) :=
  fX2_isSame_2 FU a1 a2 ((0 : Int32)) m
theorem fX2_isSame_x : ∃ f : Int32 → Int32 → qM → Option (Int32 × qM), f = fun a1 a2 m => fX2_isSame_0 a1 a2 m := ⟨_, rfl⟩
noncomputable def fX2_isSame : Int32 → Int32 → qM → Option (Int32 × qM) := Classical.choose fX2_isSame_x
theorem fX2_isSame_d : fX2_isSame = fun a1 a2 m => fX2_isSame_0 a1 a2 m := Classical.choose_spec fX2_isSame_x
noncomputable def fX2_says_34 (k4 : Int32 → Int32 → Int32 → qM → Option (Int32 × qM)) (a1 : Int32) (a3 : Int32) (a4 : Int32) (m : qM) : Option (Int32 × qM) :=
  k4 a1 a3 ((a4 + (1 : Int32))) m
noncomputable def fX2_says_30 (k4 : Int32 → Int32 → Int32 → qM → Option (Int32 × qM)) (a1 : Int32) (a4 : Int32) (m : qM) : Option (Int32 × qM) :=
  fX2_says_34 k4 a1 ((a4 + (1 : Int32))) a4 m
noncomputable def fX2_says_4 : Nat → Int32 → Int32 → Int32 → qM → Option (Int32 × qM)
  | 0, _, _, _, _ => none
  | n + 1, a1, a3, a4, m =>
    bif inb a1 40 then bif ltb ((gI m 95 (ix a1))) a4 then some (nz ((0 : Int32)), m) else qbI (fX2_byteOf a1 a4 m) (fun x1 m2 => qbI (fX2_isLetter x1 m2) (fun x3 m4 => bif eqb x3 ((0 : Int32)) then qbI (fX8_size m4) (fun x5 m6 => bif eqb ((a4 - a3)) x5 then qbI (fX2_isSame a1 a3 m6) (fun x7 m8 => bif eqb x7 ((0 : Int32)) then fX2_says_30 (fX2_says_4 n) a1 a4 m8 else some (nz ((1 : Int32)), m8)) else fX2_says_30 (fX2_says_4 n) a1 a4 m6) else fX2_says_34 (fX2_says_4 n) a1 a3 a4 m4)) else none
noncomputable def fX2_says_0 (a1 : Int32) (m : qM) : Option (Int32 × qM) :=
  fX2_says_4 FU a1 ((0 : Int32)) ((0 : Int32)) m
theorem fX2_says_x : ∃ f : Int32 → qM → Option (Int32 × qM), f = fun a1 m => fX2_says_0 a1 m := ⟨_, rfl⟩
noncomputable def fX2_says : Int32 → qM → Option (Int32 × qM) := Classical.choose fX2_says_x
theorem fX2_says_d : fX2_says = fun a1 m => fX2_says_0 a1 m := Classical.choose_spec fX2_says_x
noncomputable def fX2_search_42 (k10 : Int32 → Int32 → qM → Option (Int32 × qM)) (a1 : Int32) (a3 : Int32) (m : qM) : Option (Int32 × qM) :=
  k10 a1 ((a3 + (1 : Int32))) m
noncomputable def fX2_search_10 : Nat → Int32 → Int32 → qM → Option (Int32 × qM)
  | 0, _, _, _ => none
  | n + 1, a1, a3, m =>
    qbI (fX4_asks m) (fun x4 m5 => bif leb x4 a3 then some ((gI m5 93 5), m5) else bif inb a3 40 then bif leb ((gI m5 95 (ix a3))) ((0 : Int32)) then fX2_search_42 (fX2_search_10 n) a1 a3 m5 else qbI (fX2_mayRead a1 a3 m5) (fun x6 m7 => bif eqb x6 ((0 : Int32)) then fX2_search_42 (fX2_search_10 n) a1 a3 m7 else qbI (fX2_says a3 m7) (fun x8 m9 => bif eqb x8 ((0 : Int32)) then fX2_search_42 (fX2_search_10 n) a1 a3 m9 else bif inb ((gI m9 93 5)) 40 then let m10 := (sI m9 97 (ix ((gI m9 93 5))) a3); let m11 := (sI m10 93 5 (((gI m10 93 5) + (1 : Int32)))); fX2_search_42 (fX2_search_10 n) a1 a3 m11 else none)) else none)
noncomputable def fX2_search_0 (a1 : Int32) (m : qM) : Option (Int32 × qM) :=
  qbI (fX2_isWord m) (fun x1 m2 => bif eqb x1 ((0 : Int32)) then some ((-1 : Int32), m2) else let m3 := (sI m2 93 5 ((0 : Int32))); fX2_search_10 FU a1 ((0 : Int32)) m3)
theorem fX2_search_x : ∃ f : Int32 → qM → Option (Int32 × qM), f = fun a1 m => fX2_search_0 a1 m := ⟨_, rfl⟩
noncomputable def fX2_search : Int32 → qM → Option (Int32 × qM) := Classical.choose fX2_search_x
theorem fX2_search_d : fX2_search = fun a1 m => fX2_search_0 a1 m := Classical.choose_spec fX2_search_x
noncomputable def fX2_foundAt_12 (s0 : Int32) (m : qM) : Option (Int32 × qM) :=
  some (s0, m)
noncomputable def fX2_foundAt_11 (m : qM) : Option (Int32 × qM) :=
  fX2_foundAt_12 ((-1 : Int32)) m
noncomputable def fX2_foundAt_0 (a1 : Int32) (m : qM) : Option (Int32 × qM) :=
  bif ltb a1 ((0 : Int32)) then fX2_foundAt_11 m else bif leb ((gI m 93 5)) a1 then fX2_foundAt_11 m else bif inb a1 40 then fX2_foundAt_12 ((gI m 97 (ix a1))) m else none
theorem fX2_foundAt_x : ∃ f : Int32 → qM → Option (Int32 × qM), f = fun a1 m => fX2_foundAt_0 a1 m := ⟨_, rfl⟩
noncomputable def fX2_foundAt : Int32 → qM → Option (Int32 × qM) := Classical.choose fX2_foundAt_x
theorem fX2_foundAt_d : fX2_foundAt = fun a1 m => fX2_foundAt_0 a1 m := Classical.choose_spec fX2_foundAt_x
noncomputable def fX3_measureWalks_61 (k11 : Int32 → Int32 → Int32 → qM → Option (Unit × qM)) (a1 : Int32) (a2 : Int32) (a3 : Int32) (s0 : Int32) (s1 : Int32) (m : qM) : Option (Unit × qM) :=
  bif inb (((a2 * (10 : Int32)) + a3)) 100 then let m9 := (sI m 56 (ix (((a2 * (10 : Int32)) + a3))) ((s1 + s0))); bif eqb a1 (0 : Int32) then none else bif inb (((a2 * (10 : Int32)) + a3)) 100 then let m10 := (sI m9 57 (ix (((a2 * (10 : Int32)) + a3))) (((((s1 + s0) + a1) - (1 : Int32)) / a1))); k11 a1 a2 ((a3 + (1 : Int32))) m10 else none else none
noncomputable def fX3_measureWalks_35 (k11 : Int32 → Int32 → Int32 → qM → Option (Unit × qM)) (a1 : Int32) (a2 : Int32) (a3 : Int32) (s0 : Int32) (m : qM) : Option (Unit × qM) :=
  qbI (fX7_told ((1 : Int32)) m) (fun x3 m4 => bif inb a2 10 then bif inb a3 10 then qbI (fJ9_abs_0f7a4 (((gI m4 49 (ix a2)) - (gI m4 49 (ix a3)))) m4) (fun x5 m6 => bif eqb s0 ((0 : Int32)) then fX3_measureWalks_61 k11 a1 a2 a3 ((0 : Int32)) ((x3 * x5)) m6 else qbI (fX7_told ((2 : Int32)) m6) (fun x7 m8 => fX3_measureWalks_61 k11 a1 a2 a3 x7 ((x3 * x5)) m8)) else none else none)
noncomputable def fX3_measureWalks_32 (k11 : Int32 → Int32 → Int32 → qM → Option (Unit × qM)) (a1 : Int32) (a2 : Int32) (a3 : Int32) (m : qM) : Option (Unit × qM) :=
  fX3_measureWalks_35 k11 a1 a2 a3 ((1 : Int32)) m
noncomputable def fX3_measureWalks_11 (k6 : Int32 → Int32 → qM → Option (Unit × qM)) : Nat → Int32 → Int32 → Int32 → qM → Option (Unit × qM)
  | 0, _, _, _, _ => none
  | n + 1, a1, a2, a3, m =>
    bif leb ((10 : Int32)) a3 then k6 a1 ((a2 + (1 : Int32))) m else bif inb a2 10 then bif inb a3 10 then bif eqb ((gI m 48 (ix a2))) ((gI m 48 (ix a3))) then bif inb a2 10 then bif inb a3 10 then bif eqb ((gI m 49 (ix a2))) ((gI m 49 (ix a3))) then fX3_measureWalks_35 (fX3_measureWalks_11 k6 n) a1 a2 a3 ((0 : Int32)) m else fX3_measureWalks_32 (fX3_measureWalks_11 k6 n) a1 a2 a3 m else none else none else fX3_measureWalks_32 (fX3_measureWalks_11 k6 n) a1 a2 a3 m else none else none
noncomputable def fX3_measureWalks_6 : Nat → Int32 → Int32 → qM → Option (Unit × qM)
  | 0, _, _, _ => none
  | n + 1, a1, a2, m =>
    bif leb ((10 : Int32)) a2 then some ((), m) else fX3_measureWalks_11 (fX3_measureWalks_6 n) FU a1 a2 ((0 : Int32)) m
noncomputable def fX3_measureWalks_0 (m : qM) : Option (Unit × qM) :=
  qbI (fX7_slotMinutes m) (fun x1 m2 => fX3_measureWalks_6 FU x1 ((0 : Int32)) m2)
theorem fX3_measureWalks_x : ∃ f : qM → Option (Unit × qM), f = fun m => fX3_measureWalks_0 m := ⟨_, rfl⟩
noncomputable def fX3_measureWalks : qM → Option (Unit × qM) := Classical.choose fX3_measureWalks_x
theorem fX3_measureWalks_d : fX3_measureWalks = fun m => fX3_measureWalks_0 m := Classical.choose_spec fX3_measureWalks_x
noncomputable def fX3_setRoom_0 (a1 : Int32) (a2 : Int32) (a3 : Int32) (m : qM) : Option (Unit × qM) :=
  bif inb a1 10 then let m1 := (sI m 48 (ix a1) a2); bif inb a1 10 then let m2 := (sI m1 49 (ix a1) a3); qbV (fX3_measureWalks m2) (fun m3 => some ((), m3)) else none else none
theorem fX3_setRoom_x : ∃ f : Int32 → Int32 → Int32 → qM → Option (Unit × qM), f = fun a1 a2 a3 m => fX3_setRoom_0 a1 a2 a3 m := ⟨_, rfl⟩
noncomputable def fX3_setRoom : Int32 → Int32 → Int32 → qM → Option (Unit × qM) := Classical.choose fX3_setRoom_x
theorem fX3_setRoom_d : fX3_setRoom = fun a1 a2 a3 m => fX3_setRoom_0 a1 a2 a3 m := Classical.choose_spec fX3_setRoom_x
noncomputable def fX3_setTeacher_0 (a1 : Int32) (a2 : Int32) (m : qM) : Option (Unit × qM) :=
  bif inb a1 10 then let m1 := (sI m 50 (ix a1) a2); some ((), m1) else none
theorem fX3_setTeacher_x : ∃ f : Int32 → Int32 → qM → Option (Unit × qM), f = fun a1 a2 m => fX3_setTeacher_0 a1 a2 m := ⟨_, rfl⟩
noncomputable def fX3_setTeacher : Int32 → Int32 → qM → Option (Unit × qM) := Classical.choose fX3_setTeacher_x
theorem fX3_setTeacher_d : fX3_setTeacher = fun a1 a2 m => fX3_setTeacher_0 a1 a2 m := Classical.choose_spec fX3_setTeacher_x
noncomputable def fX3_setFamily_0 (a1 : Int32) (a2 : Int32) (a3 : Int32) (m : qM) : Option (Unit × qM) :=
  bif inb a1 15 then let m1 := (sI m 51 (ix a1) a2); bif inb a1 15 then let m2 := (sI m1 52 (ix a1) a3); some ((), m2) else none else none
theorem fX3_setFamily_x : ∃ f : Int32 → Int32 → Int32 → qM → Option (Unit × qM), f = fun a1 a2 a3 m => fX3_setFamily_0 a1 a2 a3 m := ⟨_, rfl⟩
noncomputable def fX3_setFamily : Int32 → Int32 → Int32 → qM → Option (Unit × qM) := Classical.choose fX3_setFamily_x
theorem fX3_setFamily_d : fX3_setFamily = fun a1 a2 a3 m => fX3_setFamily_0 a1 a2 a3 m := Classical.choose_spec fX3_setFamily_x
noncomputable def fX3_setWish_0 (a1 : Int32) (a2 : Int32) (a3 : Int32) (m : qM) : Option (Unit × qM) :=
  bif inb a1 15 then let m1 := (sI m 53 (ix a1) a2); bif inb a1 15 then let m2 := (sI m1 54 (ix a1) a3); some ((), m2) else none else none
theorem fX3_setWish_x : ∃ f : Int32 → Int32 → Int32 → qM → Option (Unit × qM), f = fun a1 a2 a3 m => fX3_setWish_0 a1 a2 a3 m := ⟨_, rfl⟩
noncomputable def fX3_setWish : Int32 → Int32 → Int32 → qM → Option (Unit × qM) := Classical.choose fX3_setWish_x
theorem fX3_setWish_d : fX3_setWish = fun a1 a2 a3 m => fX3_setWish_0 a1 a2 a3 m := Classical.choose_spec fX3_setWish_x
noncomputable def fX3_setApart_0 (a1 : Int32) (a2 : Int32) (a3 : Int32) (m : qM) : Option (Int32 × qM) :=
  bif inb a1 15 then qbI (fX11_has ((gI m 55 (ix a1))) a2 m) (fun x1 m2 => bif eqb x1 a3 then some (nz ((0 : Int32)), m2) else bif inb a1 15 then bif inb a1 15 then let m3 := (sI m2 55 (ix a1) (((gI m2 55 (ix a1)) ^^^ ((1 : Int32) <<< (a2 &&& 31))))); bif inb a2 15 then bif inb a2 15 then let m4 := (sI m3 55 (ix a2) (((gI m3 55 (ix a2)) ^^^ ((1 : Int32) <<< (a1 &&& 31))))); some (nz ((1 : Int32)), m4) else none else none else none else none) else none
theorem fX3_setApart_x : ∃ f : Int32 → Int32 → Int32 → qM → Option (Int32 × qM), f = fun a1 a2 a3 m => fX3_setApart_0 a1 a2 a3 m := ⟨_, rfl⟩
noncomputable def fX3_setApart : Int32 → Int32 → Int32 → qM → Option (Int32 × qM) := Classical.choose fX3_setApart_x
theorem fX3_setApart_d : fX3_setApart = fun a1 a2 a3 m => fX3_setApart_0 a1 a2 a3 m := Classical.choose_spec fX3_setApart_x
noncomputable def fX4_musts_0 (m : qM) : Option (Int32 × qM) :=
  some ((gI m 58 12), m)
theorem fX4_musts_x : ∃ f : qM → Option (Int32 × qM), f = fun m => fX4_musts_0 m := ⟨_, rfl⟩
noncomputable def fX4_musts : qM → Option (Int32 × qM) := Classical.choose fX4_musts_x
theorem fX4_musts_d : fX4_musts = fun m => fX4_musts_0 m := Classical.choose_spec fX4_musts_x
noncomputable def fX4_mustsLaid_0 (m : qM) : Option (Int32 × qM) :=
  some ((gI m 58 14), m)
theorem fX4_mustsLaid_x : ∃ f : qM → Option (Int32 × qM), f = fun m => fX4_mustsLaid_0 m := ⟨_, rfl⟩
noncomputable def fX4_mustsLaid : qM → Option (Int32 × qM) := Classical.choose fX4_mustsLaid_x
theorem fX4_mustsLaid_d : fX4_mustsLaid = fun m => fX4_mustsLaid_0 m := Classical.choose_spec fX4_mustsLaid_x
noncomputable def fX4_waitsOfAll_0 (m : qM) : Option (Int32 × qM) :=
  some ((gI m 58 15), m)
theorem fX4_waitsOfAll_x : ∃ f : qM → Option (Int32 × qM), f = fun m => fX4_waitsOfAll_0 m := ⟨_, rfl⟩
noncomputable def fX4_waitsOfAll : qM → Option (Int32 × qM) := Classical.choose fX4_waitsOfAll_x
theorem fX4_waitsOfAll_d : fX4_waitsOfAll = fun m => fX4_waitsOfAll_0 m := Classical.choose_spec fX4_waitsOfAll_x
noncomputable def fX4_points_0 (m : qM) : Option (Int32 × qM) :=
  some ((gI m 58 16), m)
theorem fX4_points_x : ∃ f : qM → Option (Int32 × qM), f = fun m => fX4_points_0 m := ⟨_, rfl⟩
noncomputable def fX4_points : qM → Option (Int32 × qM) := Classical.choose fX4_points_x
theorem fX4_points_d : fX4_points = fun m => fX4_points_0 m := Classical.choose_spec fX4_points_x
noncomputable def fX4_laidOfFamily_0 (a1 : Int32) (m : qM) : Option (Int32 × qM) :=
  bif inb a1 15 then some ((gI m 65 (ix a1)), m) else none
theorem fX4_laidOfFamily_x : ∃ f : Int32 → qM → Option (Int32 × qM), f = fun a1 m => fX4_laidOfFamily_0 a1 m := ⟨_, rfl⟩
noncomputable def fX4_laidOfFamily : Int32 → qM → Option (Int32 × qM) := Classical.choose fX4_laidOfFamily_x
theorem fX4_laidOfFamily_d : fX4_laidOfFamily = fun a1 m => fX4_laidOfFamily_0 a1 m := Classical.choose_spec fX4_laidOfFamily_x
noncomputable def fX4_addAsk_52 (a4 : Int32) (m : qM) : Option (Int32 × qM) :=
  some (a4, m)
noncomputable def fX4_addAsk_0 (a1 : Int32) (a2 : Int32) (a3 : Int32) (m : qM) : Option (Int32 × qM) :=
  bif ltb ((gI m 58 11)) ((40 : Int32)) then let m1 := (sI m 58 11 (((gI m 58 11) + (1 : Int32)))); bif inb ((gI m 58 11)) 40 then let m2 := (sI m1 59 (ix ((gI m 58 11))) a1); bif inb ((gI m 58 11)) 40 then let m3 := (sI m2 60 (ix ((gI m 58 11))) a2); bif inb ((gI m 58 11)) 40 then let m4 := (sI m3 61 (ix ((gI m 58 11))) ((nz a3))); bif inb ((gI m 58 11)) 40 then let m5 := (sI m4 62 (ix ((gI m 58 11))) ((-1 : Int32))); bif inb (((a1 * (10 : Int32)) + a2)) 150 then let m6 := (sI m5 63 (ix (((a1 * (10 : Int32)) + a2))) ((gI m 58 11))); bif eqb a3 ((0 : Int32)) then fX4_addAsk_52 ((gI m 58 11)) m6 else let m7 := (sI m6 58 12 (((gI m6 58 12) + (1 : Int32)))); fX4_addAsk_52 ((gI m 58 11)) m7 else none else none else none else none else none else some ((-3 : Int32), m)
theorem fX4_addAsk_x : ∃ f : Int32 → Int32 → Int32 → qM → Option (Int32 × qM), f = fun a1 a2 a3 m => fX4_addAsk_0 a1 a2 a3 m := ⟨_, rfl⟩
noncomputable def fX4_addAsk : Int32 → Int32 → Int32 → qM → Option (Int32 × qM) := Classical.choose fX4_addAsk_x
theorem fX4_addAsk_d : fX4_addAsk = fun a1 a2 a3 m => fX4_addAsk_0 a1 a2 a3 m := Classical.choose_spec fX4_addAsk_x
noncomputable def fX5_lines_0 (r : Nat) (m : qM) : Option (Int32 × qM) :=
  some ((gI m r 6), m)
theorem fX5_lines_x : ∃ f : Nat → qM → Option (Int32 × qM), f = fun r m => fX5_lines_0 r m := ⟨_, rfl⟩
noncomputable def fX5_lines : Nat → qM → Option (Int32 × qM) := Classical.choose fX5_lines_x
theorem fX5_lines_d : fX5_lines = fun r m => fX5_lines_0 r m := Classical.choose_spec fX5_lines_x
noncomputable def fX6_open_0 (m : qM) : Option (Unit × qM) :=
  let m1 := (sI m 3 2 ((0 : Int32))); let m2 := (sI m1 3 3 ((0 : Int32))); let m3 := (sI m2 3 4 ((0 : Int32))); let m4 := (sI m3 3 5 ((-1 : Int32))); some ((), m4)
theorem fX6_open_x : ∃ f : qM → Option (Unit × qM), f = fun m => fX6_open_0 m := ⟨_, rfl⟩
noncomputable def fX6_open : qM → Option (Unit × qM) := Classical.choose fX6_open_x
theorem fX6_open_d : fX6_open = fun m => fX6_open_0 m := Classical.choose_spec fX6_open_x
noncomputable def fX6_isBlank_9 (s0 : Int32) (m : qM) : Option (Int32 × qM) :=
  some (nz s0, m)
noncomputable def fX6_isBlank_6 (m : qM) : Option (Int32 × qM) :=
  fX6_isBlank_9 ((1 : Int32)) m
noncomputable def fX6_isBlank_0 (a0 : Int32) (m : qM) : Option (Int32 × qM) :=
  bif eqb a0 ((32 : Int32)) then fX6_isBlank_6 m else bif eqb a0 ((10 : Int32)) then fX6_isBlank_6 m else fX6_isBlank_9 ((0 : Int32)) m
theorem fX6_isBlank_x : ∃ f : Int32 → qM → Option (Int32 × qM), f = fun a0 m => fX6_isBlank_0 a0 m := ⟨_, rfl⟩
noncomputable def fX6_isBlank : Int32 → qM → Option (Int32 × qM) := Classical.choose fX6_isBlank_x
theorem fX6_isBlank_d : fX6_isBlank = fun a0 m => fX6_isBlank_0 a0 m := Classical.choose_spec fX6_isBlank_x
noncomputable def fX6_isSmall_0 (a0 : Int32) (m : qM) : Option (Int32 × qM) :=
  qbI (fX11_within a0 ((97 : Int32)) ((122 : Int32)) m) (fun x1 m2 => some (nz x1, m2))
theorem fX6_isSmall_x : ∃ f : Int32 → qM → Option (Int32 × qM), f = fun a0 m => fX6_isSmall_0 a0 m := ⟨_, rfl⟩
noncomputable def fX6_isSmall : Int32 → qM → Option (Int32 × qM) := Classical.choose fX6_isSmall_x
theorem fX6_isSmall_d : fX6_isSmall = fun a0 m => fX6_isSmall_0 a0 m := Classical.choose_spec fX6_isSmall_x
noncomputable def fX6_isDigit_0 (a0 : Int32) (m : qM) : Option (Int32 × qM) :=
  qbI (fX11_within a0 ((48 : Int32)) ((57 : Int32)) m) (fun x1 m2 => some (nz x1, m2))
theorem fX6_isDigit_x : ∃ f : Int32 → qM → Option (Int32 × qM), f = fun a0 m => fX6_isDigit_0 a0 m := ⟨_, rfl⟩
noncomputable def fX6_isDigit : Int32 → qM → Option (Int32 × qM) := Classical.choose fX6_isDigit_x
theorem fX6_isDigit_d : fX6_isDigit = fun a0 m => fX6_isDigit_0 a0 m := Classical.choose_spec fX6_isDigit_x
noncomputable def fX6_step_4 (k24 : qM → Option (Unit × qM)) : Nat → qM → Option (Unit × qM)
  | 0, _ => none
  | n + 1, m =>
    qbI (fX8_size m) (fun x2 m3 => bif leb x2 ((gI m 3 2)) then k24 m3 else qbI (fX8_byteAt ((gI m3 3 2)) m3) (fun x4 m5 => qbI (fX6_isBlank x4 m5) (fun x6 m7 => bif eqb x6 ((0 : Int32)) then k24 m7 else let m8 := (sI m7 3 2 (((gI m7 3 2) + (1 : Int32)))); (fX6_step_4 k24 n) m8)))
noncomputable def fX6_step_114 (m : qM) : Option (Unit × qM) :=
  some ((), m)
noncomputable def fX6_step_113 (s0 : Int32) (m : qM) : Option (Unit × qM) :=
  let m18 := (sI m 3 1 s0); fX6_step_114 m18
noncomputable def fX6_step_69 (k87 : qM → Option (Unit × qM)) : Nat → qM → Option (Unit × qM)
  | 0, _ => none
  | n + 1, m =>
    qbI (fX8_byteAt ((gI m 3 3)) m) (fun x19 m20 => qbI (fX6_isDigit x19 m20) (fun x21 m22 => bif eqb x21 ((0 : Int32)) then k87 m22 else bif leb ((400 : Int32)) ((gI m22 3 3)) then k87 m22 else let m23 := (sI m22 3 3 (((gI m22 3 3) + (1 : Int32)))); (fX6_step_69 k87 n) m23))
noncomputable def fX6_step_98 (s0 : Int32) (m : qM) : Option (Unit × qM) :=
  let m24 := (sI m 3 1 s0); fX6_step_114 m24
noncomputable def fX6_step_87 (m : qM) : Option (Unit × qM) :=
  bif leb (((gI m 3 3) - (gI m 3 2))) ((3 : Int32)) then fX6_step_98 ((2 : Int32)) m else fX6_step_98 ((4 : Int32)) m
noncomputable def fX6_step_44 (k62 : qM → Option (Unit × qM)) : Nat → qM → Option (Unit × qM)
  | 0, _ => none
  | n + 1, m =>
    qbI (fX8_byteAt ((gI m 3 3)) m) (fun x25 m26 => qbI (fX6_isSmall x25 m26) (fun x27 m28 => bif eqb x27 ((0 : Int32)) then k62 m28 else bif leb ((400 : Int32)) ((gI m28 3 3)) then k62 m28 else let m29 := (sI m28 3 3 (((gI m28 3 3) + (1 : Int32)))); (fX6_step_44 k62 n) m29))
noncomputable def fX6_step_62 (m : qM) : Option (Unit × qM) :=
  let m30 := (sI m 3 1 ((1 : Int32))); fX6_step_114 m30
noncomputable def fX6_step_24 (m : qM) : Option (Unit × qM) :=
  let m9 := (sI m 3 3 ((gI m 3 2))); qbI (fX8_byteAt ((gI m9 3 2)) m9) (fun x10 m11 => bif eqb x10 ((-1 : Int32)) then let m17 := (sI m11 3 1 ((0 : Int32))); fX6_step_114 m17 else qbI (fX6_isSmall x10 m11) (fun x12 m13 => bif eqb x12 ((0 : Int32)) then qbI (fX6_isDigit x10 m13) (fun x14 m15 => bif eqb x14 ((0 : Int32)) then let m16 := (sI m15 3 3 (((gI m15 3 2) + (1 : Int32)))); bif eqb x10 ((59 : Int32)) then fX6_step_113 ((3 : Int32)) m16 else fX6_step_113 ((4 : Int32)) m16 else fX6_step_69 fX6_step_87 FU m15) else fX6_step_44 fX6_step_62 FU m13))
noncomputable def fX6_step_0 (m : qM) : Option (Unit × qM) :=
  let m1 := (sI m 3 2 ((gI m 3 3))); fX6_step_4 fX6_step_24 FU m1
theorem fX6_step_x : ∃ f : qM → Option (Unit × qM), f = fun m => fX6_step_0 m := ⟨_, rfl⟩
noncomputable def fX6_step : qM → Option (Unit × qM) := Classical.choose fX6_step_x
theorem fX6_step_d : fX6_step = fun m => fX6_step_0 m := Classical.choose_spec fX6_step_x
noncomputable def fX6_isAtEnd_6 (s0 : Int32) (m : qM) : Option (Int32 × qM) :=
  some (nz s0, m)
noncomputable def fX6_isAtEnd_0 (m : qM) : Option (Int32 × qM) :=
  bif eqb ((gI m 3 1)) ((0 : Int32)) then fX6_isAtEnd_6 ((1 : Int32)) m else fX6_isAtEnd_6 ((0 : Int32)) m
theorem fX6_isAtEnd_x : ∃ f : qM → Option (Int32 × qM), f = fun m => fX6_isAtEnd_0 m := ⟨_, rfl⟩
noncomputable def fX6_isAtEnd : qM → Option (Int32 × qM) := Classical.choose fX6_isAtEnd_x
theorem fX6_isAtEnd_d : fX6_isAtEnd = fun m => fX6_isAtEnd_0 m := Classical.choose_spec fX6_isAtEnd_x
noncomputable def fX6_isText_13 : Nat → Nat → Int32 → Int32 → Int32 → qM → Option (Int32 × qM)
  | 0, _, _, _, _, _ => none
  | n + 1, a1, a2, a3, a4, m =>
    bif leb a3 ((a2 + a4)) then some (nz ((1 : Int32)), m) else qbI (bif qtx a1 then fJ0_charAt_5068e a1 ((a2 + a4)) m else none) (fun x1 m2 => qbI (fX8_byteAt (((gI m2 3 2) + a4)) m2) (fun x3 m4 => bif eqb x1 x3 then (fX6_isText_13 n) a1 a2 a3 ((a4 + (1 : Int32))) m4 else some (nz ((0 : Int32)), m4)))
noncomputable def fX6_isText_0 (a1 : Nat) (a2 : Int32) (a3 : Int32) (m : qM) : Option (Int32 × qM) :=
  bif eqb ((a3 - a2)) (((gI m 3 3) - (gI m 3 2))) then fX6_isText_13 FU a1 a2 a3 ((0 : Int32)) m else some (nz ((0 : Int32)), m)
theorem fX6_isText_x : ∃ f : Nat → Int32 → Int32 → qM → Option (Int32 × qM), f = fun a1 a2 a3 m => fX6_isText_0 a1 a2 a3 m := ⟨_, rfl⟩
noncomputable def fX6_isText : Nat → Int32 → Int32 → qM → Option (Int32 × qM) := Classical.choose fX6_isText_x
theorem fX6_isText_d : fX6_isText = fun a1 a2 a3 m => fX6_isText_0 a1 a2 a3 m := Classical.choose_spec fX6_isText_x
noncomputable def fX6_wordOf_38 (k12 : Nat → Int32 → Int32 → Int32 → qM → Option (Int32 × qM)) (a1 : Nat) (a2 : Int32) (a3 : Int32) (a4 : Int32) (m : qM) : Option (Int32 × qM) :=
  k12 a1 a2 a3 ((a4 + (1 : Int32))) m
noncomputable def fX6_wordOf_25 (k12 : Nat → Int32 → Int32 → Int32 → qM → Option (Int32 × qM)) (a1 : Nat) (a2 : Int32) (a3 : Int32) (a4 : Int32) (m : qM) : Option (Int32 × qM) :=
  qbI (fX6_isText a1 a3 a4 m) (fun x7 m8 => bif eqb x7 ((0 : Int32)) then fX6_wordOf_38 k12 a1 ((a2 + (1 : Int32))) ((a4 + (1 : Int32))) a4 m8 else some (a2, m8))
noncomputable def fX6_wordOf_12 : Nat → Nat → Int32 → Int32 → Int32 → qM → Option (Int32 × qM)
  | 0, _, _, _, _, _ => none
  | n + 1, a1, a2, a3, a4, m =>
    qbI (bif qtx a1 then fJ0_length_8abf5 a1 m else none) (fun x1 m2 => bif ltb x1 a4 then some ((-1 : Int32), m2) else qbI (bif qtx a1 then fJ0_length_8abf5 a1 m2 else none) (fun x3 m4 => bif eqb a4 x3 then fX6_wordOf_25 (fX6_wordOf_12 n) a1 a2 a3 a4 m4 else qbI (bif qtx a1 then fJ0_charAt_5068e a1 a4 m4 else none) (fun x5 m6 => bif eqb x5 ((32 : Int32)) then fX6_wordOf_25 (fX6_wordOf_12 n) a1 a2 a3 a4 m6 else fX6_wordOf_38 (fX6_wordOf_12 n) a1 a2 a3 a4 m6)))
noncomputable def fX6_wordOf_0 (a1 : Nat) (m : qM) : Option (Int32 × qM) :=
  bif eqb ((gI m 3 1)) ((1 : Int32)) then fX6_wordOf_12 FU a1 ((0 : Int32)) ((0 : Int32)) ((0 : Int32)) m else some ((-1 : Int32), m)
theorem fX6_wordOf_x : ∃ f : Nat → qM → Option (Int32 × qM), f = fun a1 m => fX6_wordOf_0 a1 m := ⟨_, rfl⟩
noncomputable def fX6_wordOf : Nat → qM → Option (Int32 × qM) := Classical.choose fX6_wordOf_x
theorem fX6_wordOf_d : fX6_wordOf = fun a1 m => fX6_wordOf_0 a1 m := Classical.choose_spec fX6_wordOf_x
noncomputable def fX6_fail_0 (a1 : Int32) (m : qM) : Option (Int32 × qM) :=
  let m1 := (sI m 3 4 a1); let m2 := (sI m1 3 5 ((gI m1 3 2))); some ((-1 : Int32), m2)
theorem fX6_fail_x : ∃ f : Int32 → qM → Option (Int32 × qM), f = fun a1 m => fX6_fail_0 a1 m := ⟨_, rfl⟩
noncomputable def fX6_fail : Int32 → qM → Option (Int32 × qM) := Classical.choose fX6_fail_x
theorem fX6_fail_d : fX6_fail = fun a1 m => fX6_fail_0 a1 m := Classical.choose_spec fX6_fail_x
noncomputable def fX6_takeWordOf_14 (s0 : Int32) (m : qM) : Option (Int32 × qM) :=
  some (s0, m)
noncomputable def fX6_takeWordOf_0 (a1 : Nat) (m : qM) : Option (Int32 × qM) :=
  qbV (fX6_step m) (fun m1 => qbI (fX6_wordOf a1 m1) (fun x2 m3 => bif eqb x2 ((-1 : Int32)) then qbI (fX6_fail ((1 : Int32)) m3) (fun x4 m5 => fX6_takeWordOf_14 x4 m5) else fX6_takeWordOf_14 x2 m3))
theorem fX6_takeWordOf_x : ∃ f : Nat → qM → Option (Int32 × qM), f = fun a1 m => fX6_takeWordOf_0 a1 m := ⟨_, rfl⟩
noncomputable def fX6_takeWordOf : Nat → qM → Option (Int32 × qM) := Classical.choose fX6_takeWordOf_x
theorem fX6_takeWordOf_d : fX6_takeWordOf = fun a1 m => fX6_takeWordOf_0 a1 m := Classical.choose_spec fX6_takeWordOf_x
noncomputable def fX6_takeNumber_15 (k42 : Int32 → qM → Option (Int32 × qM)) : Nat → Int32 → Int32 → Int32 → Int32 → qM → Option (Int32 × qM)
  | 0, _, _, _, _, _ => none
  | n + 1, a1, a2, a3, a4, m =>
    bif leb ((gI m 3 3)) a4 then qbI (fX11_within a3 a1 a2 m) (fun x4 m5 => bif eqb x4 ((0 : Int32)) then qbI (fX6_fail ((2 : Int32)) m5) (fun x6 m7 => k42 x6 m7) else k42 a3 m5) else qbI (fX8_byteAt a4 m) (fun x8 m9 => let x10 : Int32 := (((a3 * (10 : Int32)) + x8) - (48 : Int32)); (fX6_takeNumber_15 k42 n) a1 a2 x10 ((a4 + (1 : Int32))) m9)
noncomputable def fX6_takeNumber_42 (s0 : Int32) (m : qM) : Option (Int32 × qM) :=
  some (s0, m)
noncomputable def fX6_takeNumber_0 (a1 : Int32) (a2 : Int32) (m : qM) : Option (Int32 × qM) :=
  qbV (fX6_step m) (fun m1 => bif eqb ((gI m1 3 1)) ((2 : Int32)) then fX6_takeNumber_15 fX6_takeNumber_42 FU a1 a2 ((0 : Int32)) ((gI m1 3 2)) m1 else qbI (fX6_fail ((1 : Int32)) m1) (fun x2 m3 => some (x2, m3)))
theorem fX6_takeNumber_x : ∃ f : Int32 → Int32 → qM → Option (Int32 × qM), f = fun a1 a2 m => fX6_takeNumber_0 a1 a2 m := ⟨_, rfl⟩
noncomputable def fX6_takeNumber : Int32 → Int32 → qM → Option (Int32 × qM) := Classical.choose fX6_takeNumber_x
theorem fX6_takeNumber_d : fX6_takeNumber = fun a1 a2 m => fX6_takeNumber_0 a1 a2 m := Classical.choose_spec fX6_takeNumber_x
noncomputable def fX5_takeCondition_47 (r : Nat) (s0 : Int32) (m : qM) : Option (Int32 × qM) :=
  some (nz s0, m)
noncomputable def fX5_takeCondition_0 (r : Nat) (a2 : Int32) (m : qM) : Option (Int32 × qM) :=
  qbI (fX6_takeWordOf 10102 m) (fun x1 m2 => bif inb a2 32 then let m3 := (sI m2 (r + 2) (ix a2) x1); bif inb a2 32 then bif eqb ((gI m3 (r + 2) (ix a2))) ((-1 : Int32)) then some (nz ((0 : Int32)), m3) else qbI (fX6_takeWordOf 10103 m3) (fun x4 m5 => bif inb a2 32 then let m6 := (sI m5 (r + 3) (ix a2) x4); bif inb a2 32 then bif eqb ((gI m6 (r + 3) (ix a2))) ((-1 : Int32)) then some (nz ((0 : Int32)), m6) else qbI (fX6_takeNumber ((0 : Int32)) ((999 : Int32)) m6) (fun x7 m8 => bif inb a2 32 then let m9 := (sI m8 (r + 4) (ix a2) x7); bif inb a2 32 then bif eqb ((gI m9 (r + 4) (ix a2))) ((-1 : Int32)) then fX5_takeCondition_47 r ((0 : Int32)) m9 else fX5_takeCondition_47 r ((1 : Int32)) m9 else none else none) else none else none) else none else none)
theorem fX5_takeCondition_x : ∃ f : Nat → Int32 → qM → Option (Int32 × qM), f = fun r a2 m => fX5_takeCondition_0 r a2 m := ⟨_, rfl⟩
noncomputable def fX5_takeCondition : Nat → Int32 → qM → Option (Int32 × qM) := Classical.choose fX5_takeCondition_x
theorem fX5_takeCondition_d : fX5_takeCondition = fun r a2 m => fX5_takeCondition_0 r a2 m := Classical.choose_spec fX5_takeCondition_x
noncomputable def fX5_takeConditions_2 (r : Nat) (k35 : Int32 → qM → Option (Int32 × qM)) : Nat → Int32 → Int32 → qM → Option (Int32 × qM)
  | 0, _, _, _ => none
  | n + 1, a2, a3, m =>
    bif leb ((4 : Int32)) a3 then qbI (fX6_fail ((4 : Int32)) m) (fun x1 m2 => some (nz ((0 : Int32)), m2)) else qbI (bif qpol r then fX5_takeCondition r (((a2 * (4 : Int32)) + a3)) m else none) (fun x3 m4 => bif eqb x3 ((0 : Int32)) then some (nz ((0 : Int32)), m4) else bif inb a2 8 then let m5 := (sI m4 (r + 1) (ix a2) ((a3 + (1 : Int32)))); qbI (fX6_takeWordOf 10104 m5) (fun x6 m7 => bif eqb x6 ((1 : Int32)) then (fX5_takeConditions_2 r k35 n) a2 ((a3 + (1 : Int32))) m7 else bif eqb x6 ((0 : Int32)) then k35 ((1 : Int32)) m7 else k35 ((0 : Int32)) m7) else none)
noncomputable def fX5_takeConditions_35 (r : Nat) (s0 : Int32) (m : qM) : Option (Int32 × qM) :=
  some (nz s0, m)
noncomputable def fX5_takeConditions_0 (r : Nat) (a2 : Int32) (m : qM) : Option (Int32 × qM) :=
  fX5_takeConditions_2 r (fX5_takeConditions_35 r) FU a2 ((0 : Int32)) m
theorem fX5_takeConditions_x : ∃ f : Nat → Int32 → qM → Option (Int32 × qM), f = fun r a2 m => fX5_takeConditions_0 r a2 m := ⟨_, rfl⟩
noncomputable def fX5_takeConditions : Nat → Int32 → qM → Option (Int32 × qM) := Classical.choose fX5_takeConditions_x
theorem fX5_takeConditions_d : fX5_takeConditions = fun r a2 m => fX5_takeConditions_0 r a2 m := Classical.choose_spec fX5_takeConditions_x
noncomputable def fX6_takeSemicolon_17 (s0 : Int32) (m : qM) : Option (Int32 × qM) :=
  some (nz s0, m)
noncomputable def fX6_takeSemicolon_10 (m : qM) : Option (Int32 × qM) :=
  bif eqb ((gI m 3 1)) ((3 : Int32)) then fX6_takeSemicolon_17 ((1 : Int32)) m else fX6_takeSemicolon_17 ((0 : Int32)) m
noncomputable def fX6_takeSemicolon_0 (m : qM) : Option (Int32 × qM) :=
  qbV (fX6_step m) (fun m1 => bif eqb ((gI m1 3 1)) ((3 : Int32)) then fX6_takeSemicolon_10 m1 else qbI (fX6_fail ((1 : Int32)) m1) (fun x2 m3 => fX6_takeSemicolon_10 m3))
theorem fX6_takeSemicolon_x : ∃ f : qM → Option (Int32 × qM), f = fun m => fX6_takeSemicolon_0 m := ⟨_, rfl⟩
noncomputable def fX6_takeSemicolon : qM → Option (Int32 × qM) := Classical.choose fX6_takeSemicolon_x
theorem fX6_takeSemicolon_d : fX6_takeSemicolon = fun m => fX6_takeSemicolon_0 m := Classical.choose_spec fX6_takeSemicolon_x
noncomputable def fX5_takeAct_52 (r : Nat) (s0 : Int32) (m : qM) : Option (Int32 × qM) :=
  some (nz s0, m)
noncomputable def fX5_takeAct_51 (r : Nat) (m : qM) : Option (Int32 × qM) :=
  fX5_takeAct_52 r ((0 : Int32)) m
noncomputable def fX5_takeAct_40 (r : Nat) (a2 : Int32) (m : qM) : Option (Int32 × qM) :=
  bif inb a2 8 then bif eqb ((gI m (r + 6) (ix a2))) ((-1 : Int32)) then fX5_takeAct_51 r m else qbI (fX6_takeSemicolon m) (fun x8 m9 => bif eqb x8 ((0 : Int32)) then fX5_takeAct_51 r m9 else fX5_takeAct_52 r ((1 : Int32)) m9) else none
noncomputable def fX5_takeAct_32 (r : Nat) (a2 : Int32) (m : qM) : Option (Int32 × qM) :=
  qbI (fX6_takeNumber ((1 : Int32)) ((30 : Int32)) m) (fun x5 m6 => bif inb a2 8 then let m7 := (sI m6 (r + 6) (ix a2) x5); fX5_takeAct_40 r a2 m7 else none)
noncomputable def fX5_takeAct_0 (r : Nat) (a2 : Int32) (m : qM) : Option (Int32 × qM) :=
  qbI (fX6_takeWordOf 10105 m) (fun x1 m2 => bif inb a2 8 then let m3 := (sI m2 (r + 5) (ix a2) x1); bif inb a2 8 then bif eqb ((gI m3 (r + 5) (ix a2))) ((-1 : Int32)) then some (nz ((0 : Int32)), m3) else bif inb a2 8 then let m4 := (sI m3 (r + 6) (ix a2) ((0 : Int32))); bif inb a2 8 then bif eqb ((gI m4 (r + 5) (ix a2))) ((4 : Int32)) then fX5_takeAct_32 r a2 m4 else bif inb a2 8 then bif eqb ((gI m4 (r + 5) (ix a2))) ((5 : Int32)) then fX5_takeAct_32 r a2 m4 else fX5_takeAct_40 r a2 m4 else none else none else none else none else none)
theorem fX5_takeAct_x : ∃ f : Nat → Int32 → qM → Option (Int32 × qM), f = fun r a2 m => fX5_takeAct_0 r a2 m := ⟨_, rfl⟩
noncomputable def fX5_takeAct : Nat → Int32 → qM → Option (Int32 × qM) := Classical.choose fX5_takeAct_x
theorem fX5_takeAct_d : fX5_takeAct = fun r a2 m => fX5_takeAct_0 r a2 m := Classical.choose_spec fX5_takeAct_x
noncomputable def fX5_takeText_7 (r : Nat) (k46 : qM → Option (Int32 × qM)) : Nat → Int32 → qM → Option (Int32 × qM)
  | 0, _, _ => none
  | n + 1, a2, m =>
    bif ltb ((8 : Int32)) a2 then some ((-1 : Int32), m) else qbV (fX6_step m) (fun m3 => qbI (fX6_isAtEnd m3) (fun x4 m5 => bif eqb x4 ((0 : Int32)) then qbI (fX6_wordOf 10101 m5) (fun x6 m7 => bif eqb x6 ((-1 : Int32)) then qbI (fX6_fail ((1 : Int32)) m7) (fun x14 m15 => some (x14, m15)) else bif eqb a2 ((8 : Int32)) then qbI (fX6_fail ((4 : Int32)) m7) (fun x12 m13 => some (x12, m13)) else qbI (bif qpol r then fX5_takeConditions r a2 m7 else none) (fun x8 m9 => bif eqb x8 ((0 : Int32)) then k46 m9 else qbI (bif qpol r then fX5_takeAct r a2 m9 else none) (fun x10 m11 => bif eqb x10 ((0 : Int32)) then k46 m11 else (fX5_takeText_7 r k46 n) ((a2 + (1 : Int32))) m11))) else let m16 := (sI m5 r 6 a2); some (a2, m16)))
noncomputable def fX5_takeText_46 (r : Nat) (m : qM) : Option (Int32 × qM) :=
  some ((-1 : Int32), m)
noncomputable def fX5_takeText_0 (r : Nat) (m : qM) : Option (Int32 × qM) :=
  let m1 := (sI m r 6 ((0 : Int32))); qbV (fX6_open m1) (fun m2 => fX5_takeText_7 r (fX5_takeText_46 r) FU ((0 : Int32)) m2)
theorem fX5_takeText_x : ∃ f : Nat → qM → Option (Int32 × qM), f = fun r m => fX5_takeText_0 r m := ⟨_, rfl⟩
noncomputable def fX5_takeText : Nat → qM → Option (Int32 × qM) := Classical.choose fX5_takeText_x
theorem fX5_takeText_d : fX5_takeText = fun r m => fX5_takeText_0 r m := Classical.choose_spec fX5_takeText_x
noncomputable def fX6_faultKind_0 (m : qM) : Option (Int32 × qM) :=
  some ((gI m 3 4), m)
theorem fX6_faultKind_x : ∃ f : qM → Option (Int32 × qM), f = fun m => fX6_faultKind_0 m := ⟨_, rfl⟩
noncomputable def fX6_faultKind : qM → Option (Int32 × qM) := Classical.choose fX6_faultKind_x
theorem fX6_faultKind_d : fX6_faultKind = fun m => fX6_faultKind_0 m := Classical.choose_spec fX6_faultKind_x
noncomputable def fX6_faultPlace_0 (m : qM) : Option (Int32 × qM) :=
  some ((gI m 3 5), m)
theorem fX6_faultPlace_x : ∃ f : qM → Option (Int32 × qM), f = fun m => fX6_faultPlace_0 m := ⟨_, rfl⟩
noncomputable def fX6_faultPlace : qM → Option (Int32 × qM) := Classical.choose fX6_faultPlace_x
theorem fX6_faultPlace_d : fX6_faultPlace = fun m => fX6_faultPlace_0 m := Classical.choose_spec fX6_faultPlace_x
noncomputable def fX7_slotsNotAheadOf_0 (a1 : Int32) (m : qM) : Option (Int32 × qM) :=
  qbI (fX7_slotMinutes m) (fun x1 m2 => bif eqb x1 (0 : Int32) then none else qbI (fX11_slotsFrom ((((a1 + x1) - (1 : Int32)) / x1)) ((19 : Int32)) m2) (fun x3 m4 => some (x3, m4)))
theorem fX7_slotsNotAheadOf_x : ∃ f : Int32 → qM → Option (Int32 × qM), f = fun a1 m => fX7_slotsNotAheadOf_0 a1 m := ⟨_, rfl⟩
noncomputable def fX7_slotsNotAheadOf : Int32 → qM → Option (Int32 × qM) := Classical.choose fX7_slotsNotAheadOf_x
theorem fX7_slotsNotAheadOf_d : fX7_slotsNotAheadOf = fun a1 m => fX7_slotsNotAheadOf_0 a1 m := Classical.choose_spec fX7_slotsNotAheadOf_x
noncomputable def fX7_takeText_2 (k20 : Int32 → Int32 → qM → Option (Int32 × qM)) : Nat → Int32 → qM → Option (Int32 × qM)
  | 0, _, _ => none
  | n + 1, a2, m =>
    bif leb ((6 : Int32)) a2 then qbV (fX6_open m) (fun m1 => k20 ((0 : Int32)) ((0 : Int32)) m1) else bif inb a2 6 then bif inb a2 6 then let m2 := (sI m 6 (ix a2) ((qx10000 (ix a2)))); (fX7_takeText_2 k20 n) ((a2 + (1 : Int32))) m2 else none else none
noncomputable def fX7_takeText_20 (k86 : qM → Option (Int32 × qM)) : Nat → Int32 → Int32 → qM → Option (Int32 × qM)
  | 0, _, _, _ => none
  | n + 1, a2, a3, m =>
    bif ltb ((6 : Int32)) a3 then some ((-1 : Int32), m) else qbV (fX6_step m) (fun m3 => qbI (fX6_isAtEnd m3) (fun x4 m5 => bif eqb x4 ((0 : Int32)) then qbI (fX6_wordOf 10100 m5) (fun x6 m7 => qbI (fX11_within x6 ((0 : Int32)) ((5 : Int32)) m7) (fun x8 m9 => bif eqb x8 ((0 : Int32)) then qbI (fX6_fail ((1 : Int32)) m9) (fun x19 m20 => some (x19, m20)) else qbI (fX11_has a2 x6 m9) (fun x10 m11 => bif eqb x10 ((0 : Int32)) then bif inb x6 6 then bif inb x6 6 then qbI (fX6_takeNumber ((qx10001 (ix x6))) ((qx10002 (ix x6))) m11) (fun x12 m13 => bif inb x6 6 then let m14 := (sI m13 6 (ix x6) x12); bif inb x6 6 then bif eqb ((gI m14 6 (ix x6))) ((-1 : Int32)) then k86 m14 else qbI (fX6_takeSemicolon m14) (fun x15 m16 => bif eqb x15 ((0 : Int32)) then k86 m16 else (fX7_takeText_20 k86 n) ((a2 ||| ((1 : Int32) <<< (x6 &&& 31)))) ((a3 + (1 : Int32))) m16) else none else none) else none else none else qbI (fX6_fail ((3 : Int32)) m11) (fun x17 m18 => some (x17, m18))))) else bif eqb ((0 : Int32)) (0 : Int32) then (bif eqb ((0 : Int32)) (0 : Int32) then (bif ltb ((6 : Int32)) (0 : Int32) then none else (bif Nat.ble (ix ((6 : Int32))) 6 then (bif Nat.ble (ix ((6 : Int32))) 6 then (let m21 := (sC m5 6 5 (ix ((6 : Int32)))); some (a3, m21)) else none) else none)) else none) else none))
noncomputable def fX7_takeText_86 (m : qM) : Option (Int32 × qM) :=
  some ((-1 : Int32), m)
noncomputable def fX7_takeText_0 (m : qM) : Option (Int32 × qM) :=
  fX7_takeText_2 (fX7_takeText_20 fX7_takeText_86 FU) FU ((0 : Int32)) m
theorem fX7_takeText_x : ∃ f : qM → Option (Int32 × qM), f = fun m => fX7_takeText_0 m := ⟨_, rfl⟩
noncomputable def fX7_takeText : qM → Option (Int32 × qM) := Classical.choose fX7_takeText_x
theorem fX7_takeText_d : fX7_takeText = fun m => fX7_takeText_0 m := Classical.choose_spec fX7_takeText_x
noncomputable def fX8_addFour_24 (k2 : Int32 → Int32 → qM → Option (Unit × qM)) (a1 : Int32) (a2 : Int32) (m : qM) : Option (Unit × qM) :=
  k2 a1 ((a2 + (-8 : Int32))) m
noncomputable def fX8_addFour_2 : Nat → Int32 → Int32 → qM → Option (Unit × qM)
  | 0, _, _, _ => none
  | n + 1, a1, a2, m =>
    bif ltb a2 ((0 : Int32)) then some ((), m) else bif leb ((400 : Int32)) ((gI m 1 1)) then fX8_addFour_24 (fX8_addFour_2 n) a1 a2 m else bif inb ((gI m 1 1)) 400 then let m1 := (sI m 2 (ix ((gI m 1 1))) ((((Int32.toUInt32 a1 >>> (Int32.toUInt32 a2 &&& Int32.toUInt32 31)).toInt32) &&& (255 : Int32)))); let m2 := (sI m1 1 1 (((gI m1 1 1) + (1 : Int32)))); fX8_addFour_24 (fX8_addFour_2 n) a1 a2 m2 else none
noncomputable def fX8_addFour_0 (a1 : Int32) (m : qM) : Option (Unit × qM) :=
  fX8_addFour_2 FU a1 ((24 : Int32)) m
theorem fX8_addFour_x : ∃ f : Int32 → qM → Option (Unit × qM), f = fun a1 m => fX8_addFour_0 a1 m := ⟨_, rfl⟩
noncomputable def fX8_addFour : Int32 → qM → Option (Unit × qM) := Classical.choose fX8_addFour_x
theorem fX8_addFour_d : fX8_addFour = fun a1 m => fX8_addFour_0 a1 m := Classical.choose_spec fX8_addFour_x
noncomputable def fX8_cut_0 (a1 : Int32) (m : qM) : Option (Unit × qM) :=
  qbI (fJ9_min_7cf53 a1 ((gI m 1 1)) m) (fun x1 m2 => qbI (fJ9_max_7cf53 ((0 : Int32)) x1 m2) (fun x3 m4 => let m5 := (sI m4 1 1 x3); some ((), m5)))
theorem fX8_cut_x : ∃ f : Int32 → qM → Option (Unit × qM), f = fun a1 m => fX8_cut_0 a1 m := ⟨_, rfl⟩
noncomputable def fX8_cut : Int32 → qM → Option (Unit × qM) := Classical.choose fX8_cut_x
theorem fX8_cut_d : fX8_cut = fun a1 m => fX8_cut_0 a1 m := Classical.choose_spec fX8_cut_x
noncomputable def fX11_isMinute_0 (a0 : Int32) (m : qM) : Option (Int32 × qM) :=
  qbI (fX11_within a0 ((0 : Int32)) ((799 : Int32)) m) (fun x1 m2 => some (nz x1, m2))
theorem fX11_isMinute_x : ∃ f : Int32 → qM → Option (Int32 × qM), f = fun a0 m => fX11_isMinute_0 a0 m := ⟨_, rfl⟩
noncomputable def fX11_isMinute : Int32 → qM → Option (Int32 × qM) := Classical.choose fX11_isMinute_x
theorem fX11_isMinute_d : fX11_isMinute = fun a0 m => fX11_isMinute_0 a0 m := Classical.choose_spec fX11_isMinute_x
noncomputable def fX9_canBeAt_14 (s0 : Int32) (m : qM) : Option (Int32 × qM) :=
  some (nz s0, m)
noncomputable def fX9_canBeAt_13 (m : qM) : Option (Int32 × qM) :=
  fX9_canBeAt_14 ((0 : Int32)) m
noncomputable def fX9_canBeAt_0 (a1 : Int32) (m : qM) : Option (Int32 × qM) :=
  qbI (fX11_isMinute a1 m) (fun x1 m2 => bif eqb x1 ((0 : Int32)) then fX9_canBeAt_13 m2 else qbI (fX9_minuteOf (((gI m2 74 5) - (1 : Int32))) m2) (fun x3 m4 => bif ltb a1 x3 then fX9_canBeAt_13 m4 else fX9_canBeAt_14 ((1 : Int32)) m4))
theorem fX9_canBeAt_x : ∃ f : Int32 → qM → Option (Int32 × qM), f = fun a1 m => fX9_canBeAt_0 a1 m := ⟨_, rfl⟩
noncomputable def fX9_canBeAt : Int32 → qM → Option (Int32 × qM) := Classical.choose fX9_canBeAt_x
theorem fX9_canBeAt_d : fX9_canBeAt = fun a1 m => fX9_canBeAt_0 a1 m := Classical.choose_spec fX9_canBeAt_x
noncomputable def fX9_add_0 (a1 : Int32) (a2 : Int32) (a3 : Int32) (a4 : Int32) (a5 : Int32) (m : qM) : Option (Int32 × qM) :=
  bif ltb ((gI m 74 5)) ((80 : Int32)) then bif inb ((gI m 74 5)) 80 then let m1 := (sI m 75 (ix ((gI m 74 5))) a1); bif inb ((gI m1 74 5)) 80 then let m2 := (sI m1 76 (ix ((gI m1 74 5))) a2); bif inb ((gI m2 74 5)) 80 then let m3 := (sI m2 77 (ix ((gI m2 74 5))) a3); bif inb ((gI m3 74 5)) 80 then let m4 := (sI m3 78 (ix ((gI m3 74 5))) a4); bif inb ((gI m4 74 5)) 80 then let m5 := (sI m4 79 (ix ((gI m4 74 5))) a5); let m6 := (sI m5 74 5 (((gI m5 74 5) + (1 : Int32)))); some ((gI m6 74 5), m6) else none else none else none else none else none else some ((-3 : Int32), m)
theorem fX9_add_x : ∃ f : Int32 → Int32 → Int32 → Int32 → Int32 → qM → Option (Int32 × qM), f = fun a1 a2 a3 a4 a5 m => fX9_add_0 a1 a2 a3 a4 a5 m := ⟨_, rfl⟩
noncomputable def fX9_add : Int32 → Int32 → Int32 → Int32 → Int32 → qM → Option (Int32 × qM) := Classical.choose fX9_add_x
theorem fX9_add_d : fX9_add = fun a1 a2 a3 a4 a5 m => fX9_add_0 a1 a2 a3 a4 a5 m := Classical.choose_spec fX9_add_x
noncomputable def fX9_knownAt_3 (k15 : Int32 → qM → Option (Int32 × qM)) : Nat → Int32 → Int32 → qM → Option (Int32 × qM)
  | 0, _, _, _ => none
  | n + 1, a1, a2, m =>
    bif leb a2 ((0 : Int32)) then k15 a2 m else bif inb ((a2 - (1 : Int32))) 80 then bif leb ((gI m 76 (ix ((a2 - (1 : Int32)))))) a1 then k15 a2 m else (fX9_knownAt_3 k15 n) a1 ((a2 + (-1 : Int32))) m else none
noncomputable def fX9_knownAt_15 (a2 : Int32) (m : qM) : Option (Int32 × qM) :=
  some (a2, m)
noncomputable def fX9_knownAt_0 (a1 : Int32) (m : qM) : Option (Int32 × qM) :=
  fX9_knownAt_3 fX9_knownAt_15 FU a1 ((gI m 74 5)) m
theorem fX9_knownAt_x : ∃ f : Int32 → qM → Option (Int32 × qM), f = fun a1 m => fX9_knownAt_0 a1 m := ⟨_, rfl⟩
noncomputable def fX9_knownAt : Int32 → qM → Option (Int32 × qM) := Classical.choose fX9_knownAt_x
theorem fX9_knownAt_d : fX9_knownAt = fun a1 m => fX9_knownAt_0 a1 m := Classical.choose_spec fX9_knownAt_x
noncomputable def fX10_draft_0 (m : qM) : Option (Option Nat × qM) :=
  qbN (gR m 7 1) (fun q1 => some (some q1, m)) (some (none, m))
theorem fX10_draft_x : ∃ f : qM → Option (Option Nat × qM), f = fun m => fX10_draft_0 m := ⟨_, rfl⟩
noncomputable def fX10_draft : qM → Option (Option Nat × qM) := Classical.choose fX10_draft_x
theorem fX10_draft_d : fX10_draft = fun m => fX10_draft_0 m := Classical.choose_spec fX10_draft_x
noncomputable def fX10_keepDraft_19 (m : qM) : Option (Unit × qM) :=
  some ((), m)
noncomputable def fX10_keepDraft_0 (a1 : Int32) (a2 : Int32) (m : qM) : Option (Unit × qM) :=
  bif eqb a2 ((0 : Int32)) then fX10_keepDraft_19 m else qbI (fX11_isPolicy a1 m) (fun x1 m2 => bif eqb x1 ((0 : Int32)) then fX10_keepDraft_19 m2 else bif inb a1 4 then (qbN (gR m2 8 (ix a1)) (fun q3 => bif qpol q3 then qbN (gR m2 7 1) (fun q4 => bif qpol q4 then (bif inb a1 4 then let m5 := (sR m2 8 (ix a1) (some q4)); let m6 := (sR m5 7 1 (some q3)); fX10_keepDraft_19 m6 else none) else none) (none) else none) (qbN (gR m2 7 1) (fun q7 => bif qpol q7 then (bif inb a1 4 then let m8 := (sR m2 8 (ix a1) (some q7)); let m9 := (sR m8 7 1 none); fX10_keepDraft_19 m9 else none) else none) (none))) else none)
theorem fX10_keepDraft_x : ∃ f : Int32 → Int32 → qM → Option (Unit × qM), f = fun a1 a2 m => fX10_keepDraft_0 a1 a2 m := ⟨_, rfl⟩
noncomputable def fX10_keepDraft : Int32 → Int32 → qM → Option (Unit × qM) := Classical.choose fX10_keepDraft_x
theorem fX10_keepDraft_d : fX10_keepDraft = fun a1 a2 m => fX10_keepDraft_0 a1 a2 m := Classical.choose_spec fX10_keepDraft_x
noncomputable def fX10_linesOf_10 (s0 : Int32) (m : qM) : Option (Int32 × qM) :=
  some (s0, m)
noncomputable def fX10_linesOf_0 (a1 : Int32) (m : qM) : Option (Int32 × qM) :=
  qbI (fX11_isPolicy a1 m) (fun x1 m2 => bif eqb x1 ((0 : Int32)) then fX10_linesOf_10 ((0 : Int32)) m2 else bif inb a1 4 then (qbN (gR m2 8 (ix a1)) (fun q3 => bif qpol q3 then qbI (bif qpol q3 then fX5_lines q3 m2 else none) (fun x4 m5 => fX10_linesOf_10 x4 m5) else none) (none)) else none)
theorem fX10_linesOf_x : ∃ f : Int32 → qM → Option (Int32 × qM), f = fun a1 m => fX10_linesOf_0 a1 m := ⟨_, rfl⟩
noncomputable def fX10_linesOf : Int32 → qM → Option (Int32 × qM) := Classical.choose fX10_linesOf_x
theorem fX10_linesOf_d : fX10_linesOf = fun a1 m => fX10_linesOf_0 a1 m := Classical.choose_spec fX10_linesOf_x
noncomputable def fX10_setFollowed_0 (a1 : Int32) (a2 : Int32) (m : qM) : Option (Int32 × qM) :=
  bif inb a1 10 then bif inb a1 10 then let m1 := (sI m 16 (ix a1) a2); some ((gI m 16 (ix a1)), m1) else none else none
theorem fX10_setFollowed_x : ∃ f : Int32 → Int32 → qM → Option (Int32 × qM), f = fun a1 a2 m => fX10_setFollowed_0 a1 a2 m := ⟨_, rfl⟩
noncomputable def fX10_setFollowed : Int32 → Int32 → qM → Option (Int32 × qM) := Classical.choose fX10_setFollowed_x
theorem fX10_setFollowed_d : fX10_setFollowed = fun a1 a2 m => fX10_setFollowed_0 a1 a2 m := Classical.choose_spec fX10_setFollowed_x
noncomputable def fX10_habitsOf_0 (a1 : Int32) (m : qM) : Option (Int32 × qM) :=
  bif inb a1 10 then some ((gI m 18 (ix a1)), m) else none
theorem fX10_habitsOf_x : ∃ f : Int32 → qM → Option (Int32 × qM), f = fun a1 m => fX10_habitsOf_0 a1 m := ⟨_, rfl⟩
noncomputable def fX10_habitsOf : Int32 → qM → Option (Int32 × qM) := Classical.choose fX10_habitsOf_x
theorem fX10_habitsOf_d : fX10_habitsOf = fun a1 m => fX10_habitsOf_0 a1 m := Classical.choose_spec fX10_habitsOf_x
noncomputable def fX10_addHabit_14 (k42 : Int32 → Int32 → Int32 → Int32 → qM → Option (Int32 × qM)) : Nat → Int32 → Int32 → Int32 → Int32 → qM → Option (Int32 × qM)
  | 0, _, _, _, _, _ => none
  | n + 1, a1, a2, a3, a4, m =>
    bif leb a4 ((0 : Int32)) then k42 a1 a2 a3 a4 m else bif inb (((a3 + a4) - (1 : Int32))) 200 then bif leb ((gI m 17 (ix (((a3 + a4) - (1 : Int32)))))) a2 then k42 a1 a2 a3 a4 m else bif inb (((a3 + a4) - (1 : Int32))) 200 then bif inb ((a3 + a4)) 200 then let m1 := (sI m 17 (ix ((a3 + a4))) ((gI m 17 (ix (((a3 + a4) - (1 : Int32))))))); (fX10_addHabit_14 k42 n) a1 a2 a3 ((a4 + (-1 : Int32))) m1 else none else none else none
noncomputable def fX10_addHabit_42 (a1 : Int32) (a2 : Int32) (a3 : Int32) (a4 : Int32) (m : qM) : Option (Int32 × qM) :=
  bif inb ((a3 + a4)) 200 then let m2 := (sI m 17 (ix ((a3 + a4))) a2); bif inb a1 10 then bif inb a1 10 then let m3 := (sI m2 18 (ix a1) (((gI m2 18 (ix a1)) + (1 : Int32)))); bif inb a1 10 then some ((gI m3 18 (ix a1)), m3) else none else none else none else none
noncomputable def fX10_addHabit_0 (a1 : Int32) (a2 : Int32) (m : qM) : Option (Int32 × qM) :=
  bif inb a1 10 then bif ltb ((gI m 18 (ix a1))) ((20 : Int32)) then fX10_addHabit_14 fX10_addHabit_42 FU a1 a2 ((a1 * (20 : Int32))) ((gI m 18 (ix a1))) m else some ((-3 : Int32), m) else none
theorem fX10_addHabit_x : ∃ f : Int32 → Int32 → qM → Option (Int32 × qM), f = fun a1 a2 m => fX10_addHabit_0 a1 a2 m := ⟨_, rfl⟩
noncomputable def fX10_addHabit : Int32 → Int32 → qM → Option (Int32 × qM) := Classical.choose fX10_addHabit_x
theorem fX10_addHabit_d : fX10_addHabit = fun a1 a2 m => fX10_addHabit_0 a1 a2 m := Classical.choose_spec fX10_addHabit_x
noncomputable def fX11_feed_0 (a1 : Int32) (a2 : Int32) (a3 : Int32) (a4 : Int32) (a5 : Int32) (m : qM) : Option (Int32 × qM) :=
  qbI (fX8_size m) (fun x1 m2 => bif leb ((x1 + (20 : Int32))) ((400 : Int32)) then qbV (fX8_addFour a1 m2) (fun m3 => qbV (fX8_addFour a2 m3) (fun m4 => qbV (fX8_addFour a3 m4) (fun m5 => qbV (fX8_addFour a4 m5) (fun m6 => qbV (fX8_addFour a5 m6) (fun m7 => qbI (fX8_size m7) (fun x8 m9 => some (x8, m9))))))) else some ((-3 : Int32), m2))
theorem fX11_feed_x : ∃ f : Int32 → Int32 → Int32 → Int32 → Int32 → qM → Option (Int32 × qM), f = fun a1 a2 a3 a4 a5 m => fX11_feed_0 a1 a2 a3 a4 a5 m := ⟨_, rfl⟩
noncomputable def fX11_feed : Int32 → Int32 → Int32 → Int32 → Int32 → qM → Option (Int32 × qM) := Classical.choose fX11_feed_x
theorem fX11_feed_d : fX11_feed = fun a1 a2 a3 a4 a5 m => fX11_feed_0 a1 a2 a3 a4 a5 m := Classical.choose_spec fX11_feed_x
noncomputable def fX11_end_0 (a1 : Int32) (m : qM) : Option (Int32 × qM) :=
  qbI (fX8_size m) (fun x1 m2 => qbI (fX11_within a1 ((0 : Int32)) x1 m2) (fun x3 m4 => bif eqb x3 ((0 : Int32)) then some ((-1 : Int32), m4) else qbV (fX8_cut a1 m4) (fun m5 => some (a1, m5))))
theorem fX11_end_x : ∃ f : Int32 → qM → Option (Int32 × qM), f = fun a1 m => fX11_end_0 a1 m := ⟨_, rfl⟩
noncomputable def fX11_end : Int32 → qM → Option (Int32 × qM) := Classical.choose fX11_end_x
theorem fX11_end_d : fX11_end = fun a1 m => fX11_end_0 a1 m := Classical.choose_spec fX11_end_x
noncomputable def fX11_hasSettledPlace_10 (s0 : Int32) (m : qM) : Option (Int32 × qM) :=
  some (nz s0, m)
noncomputable def fX11_hasSettledPlace_7 (m : qM) : Option (Int32 × qM) :=
  fX11_hasSettledPlace_10 ((1 : Int32)) m
noncomputable def fX11_hasSettledPlace_0 (m : qM) : Option (Int32 × qM) :=
  bif eqb ((gI m 0 10)) ((0 : Int32)) then qbI (fX4_laid m) (fun x1 m2 => bif leb x1 ((0 : Int32)) then fX11_hasSettledPlace_10 ((0 : Int32)) m2 else fX11_hasSettledPlace_7 m2) else fX11_hasSettledPlace_7 m
theorem fX11_hasSettledPlace_x : ∃ f : qM → Option (Int32 × qM), f = fun m => fX11_hasSettledPlace_0 m := ⟨_, rfl⟩
noncomputable def fX11_hasSettledPlace : qM → Option (Int32 × qM) := Classical.choose fX11_hasSettledPlace_x
theorem fX11_hasSettledPlace_d : fX11_hasSettledPlace = fun m => fX11_hasSettledPlace_0 m := Classical.choose_spec fX11_hasSettledPlace_x
noncomputable def fX11_rules_10 (s0 : Int32) (m : qM) : Option (Int32 × qM) :=
  qbV (fX8_cut ((0 : Int32)) m) (fun m5 => qbV (fX3_measureWalks m5) (fun m6 => some (s0, m6)))
noncomputable def fX11_rules_0 (m : qM) : Option (Int32 × qM) :=
  qbI (fX11_hasSettledPlace m) (fun x1 m2 => bif eqb x1 ((0 : Int32)) then qbI (fX7_takeText m2) (fun x3 m4 => fX11_rules_10 x3 m4) else fX11_rules_10 ((-4 : Int32)) m2)
theorem fX11_rules_x : ∃ f : qM → Option (Int32 × qM), f = fun m => fX11_rules_0 m := ⟨_, rfl⟩
noncomputable def fX11_rules : qM → Option (Int32 × qM) := Classical.choose fX11_rules_x
theorem fX11_rules_d : fX11_rules = fun m => fX11_rules_0 m := Classical.choose_spec fX11_rules_x
noncomputable def fX11_rule_11 (s0 : Int32) (m : qM) : Option (Int32 × qM) :=
  some (s0, m)
noncomputable def fX11_rule_0 (a1 : Int32) (m : qM) : Option (Int32 × qM) :=
  qbI (fX11_within a1 ((0 : Int32)) ((5 : Int32)) m) (fun x1 m2 => bif eqb x1 ((0 : Int32)) then fX11_rule_11 ((-9 : Int32)) m2 else qbI (fX7_told a1 m2) (fun x3 m4 => fX11_rule_11 x3 m4))
theorem fX11_rule_x : ∃ f : Int32 → qM → Option (Int32 × qM), f = fun a1 m => fX11_rule_0 a1 m := ⟨_, rfl⟩
noncomputable def fX11_rule : Int32 → qM → Option (Int32 × qM) := Classical.choose fX11_rule_x
theorem fX11_rule_d : fX11_rule = fun a1 m => fX11_rule_0 a1 m := Classical.choose_spec fX11_rule_x
noncomputable def fX11_policy_30 (a2 : Int32) (m : qM) : Option (Int32 × qM) :=
  qbV (fX8_cut ((0 : Int32)) m) (fun m7 => some (a2, m7))
noncomputable def fX11_policy_29 (a2 : Int32) (s0 : Int32) (s1 : Int32) (m : qM) : Option (Int32 × qM) :=
  qbV (fX10_keepDraft s1 s0 m) (fun m8 => fX11_policy_30 a2 m8)
noncomputable def fX11_policy_6 (a1 : Int32) (s0 : Int32) (m : qM) : Option (Int32 × qM) :=
  bif eqb s0 ((-4 : Int32)) then bif eqb ((gI m 0 10)) ((0 : Int32)) then qbR (fX10_draft m) (fun q3 m4 => qbI (bif qpol q3 then fX5_takeText q3 m4 else none) (fun x5 m6 => bif eqb x5 ((-1 : Int32)) then fX11_policy_29 x5 ((0 : Int32)) a1 m6 else fX11_policy_29 x5 ((1 : Int32)) a1 m6)) (fun m4 => none) else fX11_policy_30 s0 m else fX11_policy_30 s0 m
noncomputable def fX11_policy_0 (a1 : Int32) (m : qM) : Option (Int32 × qM) :=
  qbI (fX11_isPolicy a1 m) (fun x1 m2 => bif eqb x1 ((0 : Int32)) then fX11_policy_6 a1 ((-2 : Int32)) m2 else fX11_policy_6 a1 ((-4 : Int32)) m2)
theorem fX11_policy_x : ∃ f : Int32 → qM → Option (Int32 × qM), f = fun a1 m => fX11_policy_0 a1 m := ⟨_, rfl⟩
noncomputable def fX11_policy : Int32 → qM → Option (Int32 × qM) := Classical.choose fX11_policy_x
theorem fX11_policy_d : fX11_policy = fun a1 m => fX11_policy_0 a1 m := Classical.choose_spec fX11_policy_x
noncomputable def fX11_isTeacher_0 (a0 : Int32) (m : qM) : Option (Int32 × qM) :=
  qbI (fX11_within a0 ((0 : Int32)) ((9 : Int32)) m) (fun x1 m2 => some (nz x1, m2))
theorem fX11_isTeacher_x : ∃ f : Int32 → qM → Option (Int32 × qM), f = fun a0 m => fX11_isTeacher_0 a0 m := ⟨_, rfl⟩
noncomputable def fX11_isTeacher : Int32 → qM → Option (Int32 × qM) := Classical.choose fX11_isTeacher_x
theorem fX11_isTeacher_d : fX11_isTeacher = fun a0 m => fX11_isTeacher_0 a0 m := Classical.choose_spec fX11_isTeacher_x
noncomputable def fX11_follow_9 (m : qM) : Option (Int32 × qM) :=
  some ((-2 : Int32), m)
noncomputable def fX11_follow_11 (a1 : Int32) (a2 : Int32) (m : qM) : Option (Int32 × qM) :=
  qbV (fX1_forget m) (fun m5 => qbI (fX10_setFollowed a1 a2 m5) (fun x6 m7 => some (x6, m7)))
noncomputable def fX11_follow_0 (a1 : Int32) (a2 : Int32) (m : qM) : Option (Int32 × qM) :=
  qbI (fX11_isTeacher a1 m) (fun x1 m2 => bif eqb x1 ((0 : Int32)) then fX11_follow_9 m2 else bif eqb a2 ((-1 : Int32)) then fX11_follow_11 a1 a2 m2 else qbI (fX11_isPolicy a2 m2) (fun x3 m4 => bif eqb x3 ((0 : Int32)) then fX11_follow_9 m4 else fX11_follow_11 a1 a2 m4))
theorem fX11_follow_x : ∃ f : Int32 → Int32 → qM → Option (Int32 × qM), f = fun a1 a2 m => fX11_follow_0 a1 a2 m := ⟨_, rfl⟩
noncomputable def fX11_follow : Int32 → Int32 → qM → Option (Int32 × qM) := Classical.choose fX11_follow_x
theorem fX11_follow_d : fX11_follow = fun a1 a2 m => fX11_follow_0 a1 a2 m := Classical.choose_spec fX11_follow_x
noncomputable def fX11_fault_14 (s0 : Int32) (m : qM) : Option (Int32 × qM) :=
  some (s0, m)
noncomputable def fX11_fault_0 (a1 : Int32) (m : qM) : Option (Int32 × qM) :=
  bif eqb a1 ((0 : Int32)) then qbI (fX6_faultKind m) (fun x3 m4 => some (x3, m4)) else bif eqb a1 ((1 : Int32)) then qbI (fX6_faultPlace m) (fun x1 m2 => fX11_fault_14 x1 m2) else fX11_fault_14 ((-1 : Int32)) m
theorem fX11_fault_x : ∃ f : Int32 → qM → Option (Int32 × qM), f = fun a1 m => fX11_fault_0 a1 m := ⟨_, rfl⟩
noncomputable def fX11_fault : Int32 → qM → Option (Int32 × qM) := Classical.choose fX11_fault_x
theorem fX11_fault_d : fX11_fault = fun a1 m => fX11_fault_0 a1 m := Classical.choose_spec fX11_fault_x
noncomputable def fX11_room_13 (m : qM) : Option (Int32 × qM) :=
  some ((-2 : Int32), m)
noncomputable def fX11_room_0 (a1 : Int32) (a2 : Int32) (a3 : Int32) (m : qM) : Option (Int32 × qM) :=
  qbI (fX11_isTeacher a1 m) (fun x1 m2 => bif eqb x1 ((0 : Int32)) then fX11_room_13 m2 else qbI (fX11_within a2 ((0 : Int32)) ((9 : Int32)) m2) (fun x3 m4 => bif eqb x3 ((0 : Int32)) then fX11_room_13 m4 else qbI (fX11_within a3 ((0 : Int32)) ((9 : Int32)) m4) (fun x5 m6 => bif eqb x5 ((0 : Int32)) then fX11_room_13 m6 else qbI (fX11_hasSettledPlace m6) (fun x7 m8 => bif eqb x7 ((0 : Int32)) then qbV (fX3_setRoom a1 a2 a3 m8) (fun m9 => some ((1 : Int32), m9)) else some ((-4 : Int32), m8)))))
theorem fX11_room_x : ∃ f : Int32 → Int32 → Int32 → qM → Option (Int32 × qM), f = fun a1 a2 a3 m => fX11_room_0 a1 a2 a3 m := ⟨_, rfl⟩
noncomputable def fX11_room : Int32 → Int32 → Int32 → qM → Option (Int32 × qM) := Classical.choose fX11_room_x
theorem fX11_room_d : fX11_room = fun a1 a2 a3 m => fX11_room_0 a1 a2 a3 m := Classical.choose_spec fX11_room_x
noncomputable def fX11_isSpan_11 (s0 : Int32) (m : qM) : Option (Int32 × qM) :=
  some (nz s0, m)
noncomputable def fX11_isSpan_10 (m : qM) : Option (Int32 × qM) :=
  fX11_isSpan_11 ((0 : Int32)) m
noncomputable def fX11_isSpan_0 (a0 : Int32) (a1 : Int32) (a2 : Int32) (m : qM) : Option (Int32 × qM) :=
  bif ltb a0 ((0 : Int32)) then fX11_isSpan_10 m else bif ltb a1 a0 then fX11_isSpan_10 m else bif leb a2 a1 then fX11_isSpan_10 m else fX11_isSpan_11 ((1 : Int32)) m
theorem fX11_isSpan_x : ∃ f : Int32 → Int32 → Int32 → qM → Option (Int32 × qM), f = fun a0 a1 a2 m => fX11_isSpan_0 a0 a1 a2 m := ⟨_, rfl⟩
noncomputable def fX11_isSpan : Int32 → Int32 → Int32 → qM → Option (Int32 × qM) := Classical.choose fX11_isSpan_x
theorem fX11_isSpan_d : fX11_isSpan = fun a0 a1 a2 m => fX11_isSpan_0 a0 a1 a2 m := Classical.choose_spec fX11_isSpan_x
noncomputable def fX11_teacher_8 (m : qM) : Option (Int32 × qM) :=
  some ((-2 : Int32), m)
noncomputable def fX11_teacher_0 (a1 : Int32) (a2 : Int32) (a3 : Int32) (m : qM) : Option (Int32 × qM) :=
  qbI (fX11_isTeacher a1 m) (fun x1 m2 => bif eqb x1 ((0 : Int32)) then fX11_teacher_8 m2 else qbI (fX11_isSpan a2 a3 ((20 : Int32)) m2) (fun x3 m4 => bif eqb x3 ((0 : Int32)) then fX11_teacher_8 m4 else qbI (fX11_hasSettledPlace m4) (fun x5 m6 => bif eqb x5 ((0 : Int32)) then qbI (fX11_slotsFrom a2 a3 m6) (fun x7 m8 => qbV (fX3_setTeacher a1 x7 m8) (fun m9 => some ((1 : Int32), m9))) else some ((-4 : Int32), m6))))
theorem fX11_teacher_x : ∃ f : Int32 → Int32 → Int32 → qM → Option (Int32 × qM), f = fun a1 a2 a3 m => fX11_teacher_0 a1 a2 a3 m := ⟨_, rfl⟩
noncomputable def fX11_teacher : Int32 → Int32 → Int32 → qM → Option (Int32 × qM) := Classical.choose fX11_teacher_x
theorem fX11_teacher_d : fX11_teacher = fun a1 a2 a3 m => fX11_teacher_0 a1 a2 a3 m := Classical.choose_spec fX11_teacher_x
noncomputable def fX11_isFamily_0 (a0 : Int32) (m : qM) : Option (Int32 × qM) :=
  qbI (fX11_within a0 ((0 : Int32)) ((14 : Int32)) m) (fun x1 m2 => some (nz x1, m2))
theorem fX11_isFamily_x : ∃ f : Int32 → qM → Option (Int32 × qM), f = fun a0 m => fX11_isFamily_0 a0 m := ⟨_, rfl⟩
noncomputable def fX11_isFamily : Int32 → qM → Option (Int32 × qM) := Classical.choose fX11_isFamily_x
theorem fX11_isFamily_d : fX11_isFamily = fun a0 m => fX11_isFamily_0 a0 m := Classical.choose_spec fX11_isFamily_x
noncomputable def fX11_family_13 (m : qM) : Option (Int32 × qM) :=
  some ((-2 : Int32), m)
noncomputable def fX11_family_0 (a1 : Int32) (a2 : Int32) (a3 : Int32) (a4 : Int32) (m : qM) : Option (Int32 × qM) :=
  qbI (fX11_isFamily a1 m) (fun x1 m2 => bif eqb x1 ((0 : Int32)) then fX11_family_13 m2 else qbI (fX11_isSpan a2 a3 ((20 : Int32)) m2) (fun x3 m4 => bif eqb x3 ((0 : Int32)) then fX11_family_13 m4 else qbI (fX11_within a4 ((0 : Int32)) ((3 : Int32)) m4) (fun x5 m6 => bif eqb x5 ((0 : Int32)) then fX11_family_13 m6 else qbI (fX11_hasSettledPlace m6) (fun x7 m8 => bif eqb x7 ((0 : Int32)) then qbI (fX11_slotsFrom a2 a3 m8) (fun x9 m10 => qbV (fX3_setFamily a1 x9 a4 m10) (fun m11 => some ((1 : Int32), m11))) else some ((-4 : Int32), m8)))))
theorem fX11_family_x : ∃ f : Int32 → Int32 → Int32 → Int32 → qM → Option (Int32 × qM), f = fun a1 a2 a3 a4 m => fX11_family_0 a1 a2 a3 a4 m := ⟨_, rfl⟩
noncomputable def fX11_family : Int32 → Int32 → Int32 → Int32 → qM → Option (Int32 × qM) := Classical.choose fX11_family_x
theorem fX11_family_d : fX11_family = fun a1 a2 a3 a4 m => fX11_family_0 a1 a2 a3 a4 m := Classical.choose_spec fX11_family_x
noncomputable def fX11_wish_13 (m : qM) : Option (Int32 × qM) :=
  some ((-2 : Int32), m)
noncomputable def fX11_wish_0 (a1 : Int32) (a2 : Int32) (a3 : Int32) (a4 : Int32) (m : qM) : Option (Int32 × qM) :=
  qbI (fX11_isFamily a1 m) (fun x1 m2 => bif eqb x1 ((0 : Int32)) then fX11_wish_13 m2 else qbI (fX11_isSpan a2 a3 ((20 : Int32)) m2) (fun x3 m4 => bif eqb x3 ((0 : Int32)) then fX11_wish_13 m4 else qbI (fX11_within a4 ((0 : Int32)) ((9 : Int32)) m4) (fun x5 m6 => bif eqb x5 ((0 : Int32)) then fX11_wish_13 m6 else qbI (fX11_hasSettledPlace m6) (fun x7 m8 => bif eqb x7 ((0 : Int32)) then qbI (fX11_slotsFrom a2 a3 m8) (fun x9 m10 => qbV (fX3_setWish a1 x9 a4 m10) (fun m11 => some ((1 : Int32), m11))) else some ((-4 : Int32), m8)))))
theorem fX11_wish_x : ∃ f : Int32 → Int32 → Int32 → Int32 → qM → Option (Int32 × qM), f = fun a1 a2 a3 a4 m => fX11_wish_0 a1 a2 a3 a4 m := ⟨_, rfl⟩
noncomputable def fX11_wish : Int32 → Int32 → Int32 → Int32 → qM → Option (Int32 × qM) := Classical.choose fX11_wish_x
theorem fX11_wish_d : fX11_wish = fun a1 a2 a3 a4 m => fX11_wish_0 a1 a2 a3 a4 m := Classical.choose_spec fX11_wish_x
noncomputable def fX11_apart_9 (m : qM) : Option (Int32 × qM) :=
  some ((-2 : Int32), m)
noncomputable def fX11_apart_26 (s0 : Int32) (m : qM) : Option (Int32 × qM) :=
  some (s0, m)
noncomputable def fX11_apart_0 (a1 : Int32) (a2 : Int32) (a3 : Int32) (m : qM) : Option (Int32 × qM) :=
  qbI (fX11_isFamily a1 m) (fun x1 m2 => bif eqb x1 ((0 : Int32)) then fX11_apart_9 m2 else qbI (fX11_isFamily a2 m2) (fun x3 m4 => bif eqb x3 ((0 : Int32)) then fX11_apart_9 m4 else bif eqb a1 a2 then fX11_apart_9 m4 else qbI (fX11_hasSettledPlace m4) (fun x5 m6 => bif eqb x5 ((0 : Int32)) then qbI (fX3_setApart a1 a2 a3 m6) (fun x7 m8 => bif eqb x7 ((0 : Int32)) then fX11_apart_26 ((0 : Int32)) m8 else fX11_apart_26 ((1 : Int32)) m8) else some ((-4 : Int32), m6))))
theorem fX11_apart_x : ∃ f : Int32 → Int32 → Int32 → qM → Option (Int32 × qM), f = fun a1 a2 a3 m => fX11_apart_0 a1 a2 a3 m := ⟨_, rfl⟩
noncomputable def fX11_apart : Int32 → Int32 → Int32 → qM → Option (Int32 × qM) := Classical.choose fX11_apart_x
theorem fX11_apart_d : fX11_apart = fun a1 a2 a3 m => fX11_apart_0 a1 a2 a3 m := Classical.choose_spec fX11_apart_x
noncomputable def fX11_walk_13 (s0 : Int32) (m : qM) : Option (Int32 × qM) :=
  some (s0, m)
noncomputable def fX11_walk_12 (m : qM) : Option (Int32 × qM) :=
  fX11_walk_13 ((-2 : Int32)) m
noncomputable def fX11_walk_0 (a1 : Int32) (a2 : Int32) (m : qM) : Option (Int32 × qM) :=
  qbI (fX11_isTeacher a1 m) (fun x1 m2 => bif eqb x1 ((0 : Int32)) then fX11_walk_12 m2 else qbI (fX11_isTeacher a2 m2) (fun x3 m4 => bif eqb x3 ((0 : Int32)) then fX11_walk_12 m4 else qbI (fX3_walkBetween a1 a2 m4) (fun x5 m6 => fX11_walk_13 x5 m6)))
theorem fX11_walk_x : ∃ f : Int32 → Int32 → qM → Option (Int32 × qM), f = fun a1 a2 m => fX11_walk_0 a1 a2 m := ⟨_, rfl⟩
noncomputable def fX11_walk : Int32 → Int32 → qM → Option (Int32 × qM) := Classical.choose fX11_walk_x
theorem fX11_walk_d : fX11_walk = fun a1 a2 m => fX11_walk_0 a1 a2 m := Classical.choose_spec fX11_walk_x
noncomputable def fX11_ask_6 (m : qM) : Option (Int32 × qM) :=
  some ((-2 : Int32), m)
noncomputable def fX11_ask_18 (m : qM) : Option (Int32 × qM) :=
  some ((-4 : Int32), m)
noncomputable def fX11_ask_33 (s0 : Int32) (m : qM) : Option (Int32 × qM) :=
  some (s0, m)
noncomputable def fX11_ask_0 (a1 : Int32) (a2 : Int32) (a3 : Int32) (m : qM) : Option (Int32 × qM) :=
  qbI (fX11_isFamily a1 m) (fun x1 m2 => bif eqb x1 ((0 : Int32)) then fX11_ask_6 m2 else qbI (fX11_isTeacher a2 m2) (fun x3 m4 => bif eqb x3 ((0 : Int32)) then fX11_ask_6 m4 else bif eqb ((gI m4 0 10)) ((0 : Int32)) then qbI (fX4_askOf a1 a2 m4) (fun x5 m6 => bif eqb x5 ((-1 : Int32)) then qbI (fX4_asks m6) (fun x7 m8 => bif leb ((40 : Int32)) x7 then fX11_ask_33 ((-3 : Int32)) m8 else qbI (fX4_addAsk a1 a2 a3 m8) (fun x9 m10 => fX11_ask_33 x9 m10)) else fX11_ask_18 m6) else fX11_ask_18 m4))
theorem fX11_ask_x : ∃ f : Int32 → Int32 → Int32 → qM → Option (Int32 × qM), f = fun a1 a2 a3 m => fX11_ask_0 a1 a2 a3 m := ⟨_, rfl⟩
noncomputable def fX11_ask : Int32 → Int32 → Int32 → qM → Option (Int32 × qM) := Classical.choose fX11_ask_x
theorem fX11_ask_d : fX11_ask = fun a1 a2 a3 m => fX11_ask_0 a1 a2 a3 m := Classical.choose_spec fX11_ask_x
noncomputable def fX11_may_10 (m : qM) : Option (Int32 × qM) :=
  some ((-2 : Int32), m)
noncomputable def fX11_may_29 (s0 : Int32) (m : qM) : Option (Int32 × qM) :=
  some (s0, m)
noncomputable def fX11_may_0 (a1 : Int32) (a2 : Int32) (m : qM) : Option (Int32 × qM) :=
  qbI (fX4_isAsk a1 m) (fun x1 m2 => bif eqb x1 ((0 : Int32)) then fX11_may_10 m2 else qbI (fX11_within a2 ((0 : Int32)) ((19 : Int32)) m2) (fun x3 m4 => bif eqb x3 ((0 : Int32)) then fX11_may_10 m4 else qbI (fX4_isLaid a1 m4) (fun x5 m6 => bif eqb x5 ((0 : Int32)) then qbI (fX4_openSlots a1 m6) (fun x7 m8 => qbI (fX11_has x7 a2 m8) (fun x9 m10 => bif eqb x9 ((0 : Int32)) then fX11_may_29 ((0 : Int32)) m10 else fX11_may_29 ((1 : Int32)) m10)) else some ((-4 : Int32), m6))))
theorem fX11_may_x : ∃ f : Int32 → Int32 → qM → Option (Int32 × qM), f = fun a1 a2 m => fX11_may_0 a1 a2 m := ⟨_, rfl⟩
noncomputable def fX11_may : Int32 → Int32 → qM → Option (Int32 × qM) := Classical.choose fX11_may_x
theorem fX11_may_d : fX11_may = fun a1 a2 m => fX11_may_0 a1 a2 m := Classical.choose_spec fX11_may_x
noncomputable def fX11_lay_10 (m : qM) : Option (Int32 × qM) :=
  some ((-2 : Int32), m)
noncomputable def fX11_lay_20 (m : qM) : Option (Int32 × qM) :=
  some ((-4 : Int32), m)
noncomputable def fX11_lay_0 (a1 : Int32) (a2 : Int32) (m : qM) : Option (Int32 × qM) :=
  qbI (fX4_isAsk a1 m) (fun x1 m2 => bif eqb x1 ((0 : Int32)) then fX11_lay_10 m2 else qbI (fX11_within a2 ((0 : Int32)) ((19 : Int32)) m2) (fun x3 m4 => bif eqb x3 ((0 : Int32)) then fX11_lay_10 m4 else bif eqb ((gI m4 0 10)) ((0 : Int32)) then qbI (fX4_isLaid a1 m4) (fun x5 m6 => bif eqb x5 ((0 : Int32)) then qbI (fX4_openSlots a1 m6) (fun x7 m8 => qbI (fX11_has x7 a2 m8) (fun x9 m10 => bif eqb x9 ((0 : Int32)) then some ((0 : Int32), m10) else qbV (fX4_put a1 a2 m10) (fun m11 => some ((1 : Int32), m11)))) else fX11_lay_20 m6) else fX11_lay_20 m4))
theorem fX11_lay_x : ∃ f : Int32 → Int32 → qM → Option (Int32 × qM), f = fun a1 a2 m => fX11_lay_0 a1 a2 m := ⟨_, rfl⟩
noncomputable def fX11_lay : Int32 → Int32 → qM → Option (Int32 × qM) := Classical.choose fX11_lay_x
theorem fX11_lay_d : fX11_lay = fun a1 a2 m => fX11_lay_0 a1 a2 m := Classical.choose_spec fX11_lay_x
noncomputable def fX11_lift_15 (m : qM) : Option (Int32 × qM) :=
  some ((-4 : Int32), m)
noncomputable def fX11_lift_0 (a1 : Int32) (m : qM) : Option (Int32 × qM) :=
  qbI (fX4_isAsk a1 m) (fun x1 m2 => bif eqb x1 ((0 : Int32)) then some ((-2 : Int32), m2) else bif eqb ((gI m2 0 10)) ((0 : Int32)) then qbI (fX4_isLaid a1 m2) (fun x3 m4 => bif eqb x3 ((0 : Int32)) then fX11_lift_15 m4 else qbI (fX4_take a1 m4) (fun x5 m6 => some (x5, m6))) else fX11_lift_15 m2)
theorem fX11_lift_x : ∃ f : Int32 → qM → Option (Int32 × qM), f = fun a1 m => fX11_lift_0 a1 m := ⟨_, rfl⟩
noncomputable def fX11_lift : Int32 → qM → Option (Int32 × qM) := Classical.choose fX11_lift_x
theorem fX11_lift_d : fX11_lift = fun a1 m => fX11_lift_0 a1 m := Classical.choose_spec fX11_lift_x
noncomputable def fX11_layAll_8 (s0 : Int32) (m : qM) : Option (Int32 × qM) :=
  some (s0, m)
noncomputable def fX11_layAll_0 (m : qM) : Option (Int32 × qM) :=
  bif eqb ((gI m 0 10)) ((0 : Int32)) then qbI (fX0_layEveryOne m) (fun x1 m2 => fX11_layAll_8 x1 m2) else fX11_layAll_8 ((-4 : Int32)) m
theorem fX11_layAll_x : ∃ f : qM → Option (Int32 × qM), f = fun m => fX11_layAll_0 m := ⟨_, rfl⟩
noncomputable def fX11_layAll : qM → Option (Int32 × qM) := Classical.choose fX11_layAll_x
theorem fX11_layAll_d : fX11_layAll = fun m => fX11_layAll_0 m := Classical.choose_spec fX11_layAll_x
noncomputable def fX11_best_11 (m : qM) : Option (Int32 × qM) :=
  some ((-2 : Int32), m)
noncomputable def fX11_best_47 (k29 : Int32 → Int32 → qM → Option (Int32 × qM)) (a1 : Int32) (a2 : Int32) (m : qM) : Option (Int32 × qM) :=
  k29 a1 ((a2 + (1 : Int32))) m
noncomputable def fX11_best_29 : Nat → Int32 → Int32 → qM → Option (Int32 × qM)
  | 0, _, _, _ => none
  | n + 1, a1, a2, m =>
    bif leb ((30 : Int32)) a2 then qbI (fX0_layPicked ((1048575 : Int32)) m) (fun x8 m9 => some (x8, m9)) else qbI (fX11_has a1 a2 m) (fun x10 m11 => bif eqb x10 ((0 : Int32)) then fX11_best_47 (fX11_best_29 n) a1 a2 m11 else qbI (fX4_isLaid a2 m11) (fun x12 m13 => bif eqb x12 ((0 : Int32)) then qbV (fX0_pick a2 m13) (fun m14 => fX11_best_47 (fX11_best_29 n) a1 a2 m14) else some ((-4 : Int32), m13)))
noncomputable def fX11_best_0 (a1 : Int32) (m : qM) : Option (Int32 × qM) :=
  bif ltb a1 ((1 : Int32)) then fX11_best_11 m else qbI (fX4_asks m) (fun x1 m2 => qbI (fJ9_min_7cf53 x1 ((30 : Int32)) m2) (fun x3 m4 => bif eqb ((a1 >>> (x3 &&& 31))) ((0 : Int32)) then qbI (fJ6_bitCount_0f7a4 a1 m4) (fun x5 m6 => bif leb x5 ((4 : Int32)) then bif eqb ((gI m6 0 10)) ((0 : Int32)) then qbV (fX0_clear m6) (fun m7 => fX11_best_29 FU a1 ((0 : Int32)) m7) else some ((-4 : Int32), m6) else some ((-3 : Int32), m6)) else fX11_best_11 m4))
theorem fX11_best_x : ∃ f : Int32 → qM → Option (Int32 × qM), f = fun a1 m => fX11_best_0 a1 m := ⟨_, rfl⟩
noncomputable def fX11_best : Int32 → qM → Option (Int32 × qM) := Classical.choose fX11_best_x
theorem fX11_best_d : fX11_best = fun a1 m => fX11_best_0 a1 m := Classical.choose_spec fX11_best_x
noncomputable def fX11_settle_7 (k16 : Int32 → qM → Option (Int32 × qM)) : Nat → Int32 → qM → Option (Int32 × qM)
  | 0, _, _ => none
  | n + 1, a1, m =>
    bif leb ((30 : Int32)) a1 then k16 a1 m else qbI (fX0_changeOnce m) (fun x1 m2 => bif eqb x1 ((0 : Int32)) then k16 a1 m2 else (fX11_settle_7 k16 n) ((a1 + (1 : Int32))) m2)
noncomputable def fX11_settle_16 (a1 : Int32) (m : qM) : Option (Int32 × qM) :=
  some (a1, m)
noncomputable def fX11_settle_0 (m : qM) : Option (Int32 × qM) :=
  bif eqb ((gI m 0 10)) ((0 : Int32)) then fX11_settle_7 fX11_settle_16 FU ((0 : Int32)) m else some ((-4 : Int32), m)
theorem fX11_settle_x : ∃ f : qM → Option (Int32 × qM), f = fun m => fX11_settle_0 m := ⟨_, rfl⟩
noncomputable def fX11_settle : qM → Option (Int32 × qM) := Classical.choose fX11_settle_x
theorem fX11_settle_d : fX11_settle = fun m => fX11_settle_0 m := Classical.choose_spec fX11_settle_x
noncomputable def fX11_about_27 (s0 : Int32) (m : qM) : Option (Int32 × qM) :=
  some (s0, m)
noncomputable def fX11_about_0 (a1 : Int32) (a2 : Int32) (m : qM) : Option (Int32 × qM) :=
  qbI (fX4_isAsk a1 m) (fun x1 m2 => bif eqb x1 ((0 : Int32)) then some ((-9 : Int32), m2) else bif eqb a2 (0 : Int32) then qbI (fX4_familyOf a1 m2) (fun x3 m4 => some (x3, m4)) else bif eqb a2 ((0 : Int32) + 1) then qbI (fX4_teacherOf a1 m2) (fun x5 m6 => some (x5, m6)) else bif eqb a2 (((0 : Int32) + 1) + 1) then qbI (fX4_isMust a1 m2) (fun x7 m8 => bif eqb x7 ((0 : Int32)) then fX11_about_27 ((0 : Int32)) m8 else fX11_about_27 ((1 : Int32)) m8) else bif eqb a2 ((((0 : Int32) + 1) + 1) + 1) then qbI (fX4_slotOf a1 m2) (fun x9 m10 => some (x9, m10)) else some ((-9 : Int32), m2))
theorem fX11_about_x : ∃ f : Int32 → Int32 → qM → Option (Int32 × qM), f = fun a1 a2 m => fX11_about_0 a1 a2 m := ⟨_, rfl⟩
noncomputable def fX11_about : Int32 → Int32 → qM → Option (Int32 × qM) := Classical.choose fX11_about_x
theorem fX11_about_d : fX11_about = fun a1 a2 m => fX11_about_0 a1 a2 m := Classical.choose_spec fX11_about_x
noncomputable def fX11_waits_16 (s0 : Int32) (m : qM) : Option (Int32 × qM) :=
  some (s0, m)
noncomputable def fX11_waits_0 (a1 : Int32) (m : qM) : Option (Int32 × qM) :=
  qbI (fX11_isFamily a1 m) (fun x1 m2 => bif eqb x1 ((0 : Int32)) then some ((-2 : Int32), m2) else qbI (fX4_laidOfFamily a1 m2) (fun x3 m4 => bif eqb x3 ((0 : Int32)) then fX11_waits_16 ((-1 : Int32)) m4 else qbI (fX11_gapsIn x3 m4) (fun x5 m6 => fX11_waits_16 x5 m6)))
theorem fX11_waits_x : ∃ f : Int32 → qM → Option (Int32 × qM), f = fun a1 m => fX11_waits_0 a1 m := ⟨_, rfl⟩
noncomputable def fX11_waits : Int32 → qM → Option (Int32 × qM) := Classical.choose fX11_waits_x
theorem fX11_waits_d : fX11_waits = fun a1 m => fX11_waits_0 a1 m := Classical.choose_spec fX11_waits_x
noncomputable def fX11_value_0 (a1 : Int32) (m : qM) : Option (Int32 × qM) :=
  bif eqb a1 (0 : Int32) then qbI (fX4_mustsLaid m) (fun x1 m2 => some (x1, m2)) else bif eqb a1 ((0 : Int32) + 1) then qbI (fX4_laid m) (fun x3 m4 => some (x3, m4)) else bif eqb a1 (((0 : Int32) + 1) + 1) then qbI (fX4_waitsOfAll m) (fun x5 m6 => some (x5, m6)) else bif eqb a1 ((((0 : Int32) + 1) + 1) + 1) then qbI (fX4_points m) (fun x7 m8 => some (x7, m8)) else some ((-1 : Int32), m)
theorem fX11_value_x : ∃ f : Int32 → qM → Option (Int32 × qM), f = fun a1 m => fX11_value_0 a1 m := ⟨_, rfl⟩
noncomputable def fX11_value : Int32 → qM → Option (Int32 × qM) := Classical.choose fX11_value_x
theorem fX11_value_d : fX11_value = fun a1 m => fX11_value_0 a1 m := Classical.choose_spec fX11_value_x
noncomputable def fX11_habit_8 (m : qM) : Option (Int32 × qM) :=
  some ((-2 : Int32), m)
noncomputable def fX11_habit_0 (a1 : Int32) (a2 : Int32) (m : qM) : Option (Int32 × qM) :=
  qbI (fX11_isTeacher a1 m) (fun x1 m2 => bif eqb x1 ((0 : Int32)) then fX11_habit_8 m2 else qbI (fX11_within a2 ((0 : Int32)) ((60 : Int32)) m2) (fun x3 m4 => bif eqb x3 ((0 : Int32)) then fX11_habit_8 m4 else qbI (fX10_habitsOf a1 m4) (fun x5 m6 => bif ltb x5 ((20 : Int32)) then qbV (fX1_forget m6) (fun m7 => qbI (fX10_addHabit a1 a2 m7) (fun x8 m9 => some (x8, m9))) else some ((-3 : Int32), m6))))
theorem fX11_habit_x : ∃ f : Int32 → Int32 → qM → Option (Int32 × qM), f = fun a1 a2 m => fX11_habit_0 a1 a2 m := ⟨_, rfl⟩
noncomputable def fX11_habit : Int32 → Int32 → qM → Option (Int32 × qM) := Classical.choose fX11_habit_x
theorem fX11_habit_d : fX11_habit = fun a1 a2 m => fX11_habit_0 a1 a2 m := Classical.choose_spec fX11_habit_x
noncomputable def fX11_foretold_9 (s0 : Int32) (m : qM) : Option (Int32 × qM) :=
  some (s0, m)
noncomputable def fX11_foretold_0 (a1 : Int32) (m : qM) : Option (Int32 × qM) :=
  qbI (fX11_isTeacher a1 m) (fun x1 m2 => bif eqb x1 ((0 : Int32)) then fX11_foretold_9 ((-2 : Int32)) m2 else qbI (fX10_usualOver a1 m2) (fun x3 m4 => fX11_foretold_9 x3 m4))
theorem fX11_foretold_x : ∃ f : Int32 → qM → Option (Int32 × qM), f = fun a1 m => fX11_foretold_0 a1 m := ⟨_, rfl⟩
noncomputable def fX11_foretold : Int32 → qM → Option (Int32 × qM) := Classical.choose fX11_foretold_x
theorem fX11_foretold_d : fX11_foretold = fun a1 m => fX11_foretold_0 a1 m := Classical.choose_spec fX11_foretold_x
noncomputable def fX11_begin_0 (m : qM) : Option (Int32 × qM) :=
  bif eqb ((gI m 0 10)) ((0 : Int32)) then bif qb ((1 : Int32)) then let m1 := (sI m 0 10 ((1 : Int32))); qbI (fX4_laid m1) (fun x2 m3 => some (x2, m3)) else none else some ((-4 : Int32), m)
theorem fX11_begin_x : ∃ f : qM → Option (Int32 × qM), f = fun m => fX11_begin_0 m := ⟨_, rfl⟩
noncomputable def fX11_begin : qM → Option (Int32 × qM) := Classical.choose fX11_begin_x
theorem fX11_begin_d : fX11_begin = fun m => fX11_begin_0 m := Classical.choose_spec fX11_begin_x
noncomputable def fX11_over_15 (m : qM) : Option (Int32 × qM) :=
  some ((-2 : Int32), m)
noncomputable def fX11_over_35 (s0 : Int32) (m : qM) : Option (Int32 × qM) :=
  some (s0, m)
noncomputable def fX11_over_34 (m : qM) : Option (Int32 × qM) :=
  fX11_over_35 ((-4 : Int32)) m
noncomputable def fX11_over_0 (a1 : Int32) (a2 : Int32) (a3 : Int32) (m : qM) : Option (Int32 × qM) :=
  qbI (fX9_canBeAt a1 m) (fun x1 m2 => bif eqb x1 ((0 : Int32)) then fX11_over_15 m2 else qbI (fX4_isAsk a2 m2) (fun x3 m4 => bif eqb x3 ((0 : Int32)) then fX11_over_15 m4 else qbI (fX11_within a3 ((0 : Int32)) ((60 : Int32)) m4) (fun x5 m6 => bif eqb x5 ((0 : Int32)) then fX11_over_15 m6 else bif eqb ((gI m6 0 10)) ((0 : Int32)) then fX11_over_34 m6 else qbI (fX4_isLaid a2 m6) (fun x7 m8 => bif eqb x7 ((0 : Int32)) then fX11_over_34 m8 else qbI (fX9_add ((0 : Int32)) a1 a2 a3 ((0 : Int32)) m8) (fun x9 m10 => fX11_over_35 x9 m10)))))
theorem fX11_over_x : ∃ f : Int32 → Int32 → Int32 → qM → Option (Int32 × qM), f = fun a1 a2 a3 m => fX11_over_0 a1 a2 a3 m := ⟨_, rfl⟩
noncomputable def fX11_over : Int32 → Int32 → Int32 → qM → Option (Int32 × qM) := Classical.choose fX11_over_x
theorem fX11_over_d : fX11_over = fun a1 a2 a3 m => fX11_over_0 a1 a2 a3 m := Classical.choose_spec fX11_over_x
noncomputable def fX11_absent_10 (m : qM) : Option (Int32 × qM) :=
  some ((-2 : Int32), m)
noncomputable def fX11_absent_34 (s0 : Int32) (m : qM) : Option (Int32 × qM) :=
  some (s0, m)
noncomputable def fX11_absent_33 (m : qM) : Option (Int32 × qM) :=
  fX11_absent_34 ((-4 : Int32)) m
noncomputable def fX11_absent_30 (s0 : Int32) (s1 : Int32) (s2 : Int32) (s3 : Int32) (m : qM) : Option (Int32 × qM) :=
  qbI (fX9_add s3 s2 s1 s0 ((0 : Int32)) m) (fun x7 m8 => fX11_absent_34 x7 m8)
noncomputable def fX11_absent_0 (a1 : Int32) (a2 : Int32) (a3 : Int32) (m : qM) : Option (Int32 × qM) :=
  qbI (fX9_canBeAt a1 m) (fun x1 m2 => bif eqb x1 ((0 : Int32)) then fX11_absent_10 m2 else qbI (fX4_isAsk a2 m2) (fun x3 m4 => bif eqb x3 ((0 : Int32)) then fX11_absent_10 m4 else bif eqb ((gI m4 0 10)) ((0 : Int32)) then fX11_absent_33 m4 else qbI (fX4_isLaid a2 m4) (fun x5 m6 => bif eqb x5 ((0 : Int32)) then fX11_absent_33 m6 else bif eqb a3 ((0 : Int32)) then fX11_absent_30 ((0 : Int32)) a2 a1 ((1 : Int32)) m6 else fX11_absent_30 ((1 : Int32)) a2 a1 ((1 : Int32)) m6)))
theorem fX11_absent_x : ∃ f : Int32 → Int32 → Int32 → qM → Option (Int32 × qM), f = fun a1 a2 a3 m => fX11_absent_0 a1 a2 a3 m := ⟨_, rfl⟩
noncomputable def fX11_absent : Int32 → Int32 → Int32 → qM → Option (Int32 × qM) := Classical.choose fX11_absent_x
theorem fX11_absent_d : fX11_absent = fun a1 a2 a3 m => fX11_absent_0 a1 a2 a3 m := Classical.choose_spec fX11_absent_x
noncomputable def fX11_comes_11 (m : qM) : Option (Int32 × qM) :=
  some ((-2 : Int32), m)
noncomputable def fX11_comes_26 (s0 : Int32) (m : qM) : Option (Int32 × qM) :=
  some (s0, m)
noncomputable def fX11_comes_0 (a1 : Int32) (a2 : Int32) (a3 : Int32) (m : qM) : Option (Int32 × qM) :=
  qbI (fX9_canBeAt a1 m) (fun x1 m2 => bif eqb x1 ((0 : Int32)) then fX11_comes_11 m2 else qbI (fX11_isFamily a2 m2) (fun x3 m4 => bif eqb x3 ((0 : Int32)) then fX11_comes_11 m4 else qbI (fX11_isMinute a3 m4) (fun x5 m6 => bif eqb x5 ((0 : Int32)) then fX11_comes_11 m6 else bif eqb ((gI m6 0 10)) ((0 : Int32)) then fX11_comes_26 ((-4 : Int32)) m6 else qbI (fX9_add ((2 : Int32)) a1 a2 a3 ((0 : Int32)) m6) (fun x7 m8 => fX11_comes_26 x7 m8))))
theorem fX11_comes_x : ∃ f : Int32 → Int32 → Int32 → qM → Option (Int32 × qM), f = fun a1 a2 a3 m => fX11_comes_0 a1 a2 a3 m := ⟨_, rfl⟩
noncomputable def fX11_comes : Int32 → Int32 → Int32 → qM → Option (Int32 × qM) := Classical.choose fX11_comes_x
theorem fX11_comes_d : fX11_comes = fun a1 a2 a3 m => fX11_comes_0 a1 a2 a3 m := Classical.choose_spec fX11_comes_x
noncomputable def fX11_away_13 (m : qM) : Option (Int32 × qM) :=
  some ((-2 : Int32), m)
noncomputable def fX11_away_28 (s0 : Int32) (m : qM) : Option (Int32 × qM) :=
  some (s0, m)
noncomputable def fX11_away_0 (a1 : Int32) (a2 : Int32) (a3 : Int32) (a4 : Int32) (m : qM) : Option (Int32 × qM) :=
  qbI (fX9_canBeAt a1 m) (fun x1 m2 => bif eqb x1 ((0 : Int32)) then fX11_away_13 m2 else qbI (fX11_isTeacher a2 m2) (fun x3 m4 => bif eqb x3 ((0 : Int32)) then fX11_away_13 m4 else qbI (fX11_isSpan a3 a4 ((800 : Int32)) m4) (fun x5 m6 => bif eqb x5 ((0 : Int32)) then fX11_away_13 m6 else bif eqb ((gI m6 0 10)) ((0 : Int32)) then fX11_away_28 ((-4 : Int32)) m6 else qbI (fX9_add ((3 : Int32)) a1 a2 a3 a4 m6) (fun x7 m8 => fX11_away_28 x7 m8))))
theorem fX11_away_x : ∃ f : Int32 → Int32 → Int32 → Int32 → qM → Option (Int32 × qM), f = fun a1 a2 a3 a4 m => fX11_away_0 a1 a2 a3 a4 m := ⟨_, rfl⟩
noncomputable def fX11_away : Int32 → Int32 → Int32 → Int32 → qM → Option (Int32 × qM) := Classical.choose fX11_away_x
theorem fX11_away_d : fX11_away = fun a1 a2 a3 a4 m => fX11_away_0 a1 a2 a3 a4 m := Classical.choose_spec fX11_away_x
noncomputable def fX11_meeting_13 (m : qM) : Option (Int32 × qM) :=
  some ((-2 : Int32), m)
noncomputable def fX11_meeting_23 (m : qM) : Option (Int32 × qM) :=
  some ((-4 : Int32), m)
noncomputable def fX11_meeting_58 (s0 : Int32) (m : qM) : Option (Int32 × qM) :=
  some (s0, m)
noncomputable def fX11_meeting_0 (a1 : Int32) (a2 : Int32) (a3 : Int32) (m : qM) : Option (Int32 × qM) :=
  qbI (fX4_isAsk a1 m) (fun x1 m2 => bif eqb x1 ((0 : Int32)) then fX11_meeting_13 m2 else qbI (fX11_isMinute a2 m2) (fun x3 m4 => bif eqb x3 ((0 : Int32)) then fX11_meeting_13 m4 else qbI (fX11_within a3 ((0 : Int32)) ((3 : Int32)) m4) (fun x5 m6 => bif eqb x5 ((0 : Int32)) then fX11_meeting_13 m6 else bif eqb ((gI m6 0 10)) ((0 : Int32)) then fX11_meeting_23 m6 else qbI (fX4_isLaid a1 m6) (fun x7 m8 => bif eqb x7 ((0 : Int32)) then fX11_meeting_23 m8 else qbI (fX9_knownAt a2 m8) (fun x9 m10 => qbV (fX1_makeReady x9 m10) (fun m11 => qbI (fX1_startOf a1 x9 m11) (fun x12 m13 => qbI (fX1_stopOf a1 x9 m13) (fun x14 m15 => bif eqb a3 (0 : Int32) then some (x12, m15) else bif eqb a3 ((0 : Int32) + 1) then some (x14, m15) else bif eqb a3 (((0 : Int32) + 1) + 1) then bif eqb x12 ((-1 : Int32)) then fX11_meeting_58 ((1 : Int32)) m15 else fX11_meeting_58 ((0 : Int32)) m15 else some ((x14 - x12), m15)))))))))
theorem fX11_meeting_x : ∃ f : Int32 → Int32 → Int32 → qM → Option (Int32 × qM), f = fun a1 a2 a3 m => fX11_meeting_0 a1 a2 a3 m := ⟨_, rfl⟩
noncomputable def fX11_meeting : Int32 → Int32 → Int32 → qM → Option (Int32 × qM) := Classical.choose fX11_meeting_x
theorem fX11_meeting_d : fX11_meeting = fun a1 a2 a3 m => fX11_meeting_0 a1 a2 a3 m := Classical.choose_spec fX11_meeting_x
noncomputable def fX11_off_0 (a1 : Int32) (m : qM) : Option (Int32 × qM) :=
  qbI (fX11_isMinute a1 m) (fun x1 m2 => bif eqb x1 ((0 : Int32)) then some ((-2 : Int32), m2) else bif eqb ((gI m2 0 10)) ((0 : Int32)) then some ((-4 : Int32), m2) else qbI (fX9_knownAt a1 m2) (fun x3 m4 => qbV (fX1_makeReady x3 m4) (fun m5 => qbI (fX9_size m5) (fun x6 m7 => qbV (fX1_makeReady x6 m7) (fun m8 => qbI (fX1_offAt a1 x3 m8) (fun x9 m10 => some (x9, m10)))))))
theorem fX11_off_x : ∃ f : Int32 → qM → Option (Int32 × qM), f = fun a1 m => fX11_off_0 a1 m := ⟨_, rfl⟩
noncomputable def fX11_off : Int32 → qM → Option (Int32 × qM) := Classical.choose fX11_off_x
theorem fX11_off_d : fX11_off = fun a1 m => fX11_off_0 a1 m := Classical.choose_spec fX11_off_x
noncomputable def fX11_next_6 (m : qM) : Option (Int32 × qM) :=
  some ((-2 : Int32), m)
noncomputable def fX11_next_0 (a1 : Int32) (a2 : Int32) (m : qM) : Option (Int32 × qM) :=
  qbI (fX11_isFamily a1 m) (fun x1 m2 => bif eqb x1 ((0 : Int32)) then fX11_next_6 m2 else qbI (fX11_isMinute a2 m2) (fun x3 m4 => bif eqb x3 ((0 : Int32)) then fX11_next_6 m4 else bif eqb ((gI m4 0 10)) ((0 : Int32)) then some ((-4 : Int32), m4) else qbI (fX9_knownAt a2 m4) (fun x5 m6 => qbV (fX1_makeReady x5 m6) (fun m7 => qbI (fX1_nextOf a1 a2 x5 m7) (fun x8 m9 => some (x8, m9))))))
theorem fX11_next_x : ∃ f : Int32 → Int32 → qM → Option (Int32 × qM), f = fun a1 a2 m => fX11_next_0 a1 a2 m := ⟨_, rfl⟩
noncomputable def fX11_next : Int32 → Int32 → qM → Option (Int32 × qM) := Classical.choose fX11_next_x
theorem fX11_next_d : fX11_next = fun a1 a2 m => fX11_next_0 a1 a2 m := Classical.choose_spec fX11_next_x
noncomputable def fX11_messages_26 (k12 : Int32 → Int32 → qM → Option (Int32 × qM)) (a1 : Int32) (a2 : Int32) (m : qM) : Option (Int32 × qM) :=
  k12 a1 ((a2 + (1 : Int32))) m
noncomputable def fX11_messages_12 : Nat → Int32 → Int32 → qM → Option (Int32 × qM)
  | 0, _, _, _ => none
  | n + 1, a1, a2, m =>
    qbI (fX9_size m) (fun x3 m4 => bif ltb x3 a2 then qbI (fX1_messagesTo a1 m4) (fun x5 m6 => some (x5, m6)) else qbI (fX9_areAllOfTheirMinutes a2 m4) (fun x7 m8 => bif eqb x7 ((0 : Int32)) then fX11_messages_26 (fX11_messages_12 n) a1 a2 m8 else qbV (fX1_makeReady a2 m8) (fun m9 => fX11_messages_26 (fX11_messages_12 n) a1 a2 m9)))
noncomputable def fX11_messages_0 (a1 : Int32) (m : qM) : Option (Int32 × qM) :=
  qbI (fX11_isFamily a1 m) (fun x1 m2 => bif eqb x1 ((0 : Int32)) then some ((-2 : Int32), m2) else bif eqb ((gI m2 0 10)) ((0 : Int32)) then some ((-4 : Int32), m2) else fX11_messages_12 FU a1 ((0 : Int32)) m2)
theorem fX11_messages_x : ∃ f : Int32 → qM → Option (Int32 × qM), f = fun a1 m => fX11_messages_0 a1 m := ⟨_, rfl⟩
noncomputable def fX11_messages : Int32 → qM → Option (Int32 × qM) := Classical.choose fX11_messages_x
theorem fX11_messages_d : fX11_messages = fun a1 m => fX11_messages_0 a1 m := Classical.choose_spec fX11_messages_x
noncomputable def fX11_mend_53 (k32 : Int32 → Int32 → Int32 → qM → Option (Int32 × qM)) (a1 : Int32) (a2 : Int32) (a3 : Int32) (m : qM) : Option (Int32 × qM) :=
  k32 a1 a2 ((a3 + (1 : Int32))) m
noncomputable def fX11_mend_32 : Nat → Int32 → Int32 → Int32 → qM → Option (Int32 × qM)
  | 0, _, _, _, _ => none
  | n + 1, a1, a2, a3, m =>
    qbI (fX4_asks m) (fun x9 m10 => bif leb x9 a3 then qbV (fX1_forget m10) (fun m11 => qbI (fX7_slotsNotAheadOf a1 m11) (fun x12 m13 => qbI (fX0_layPickedAnew x12 m13) (fun x14 m15 => some (x14, m15)))) else qbI (fX4_isLaid a3 m10) (fun x16 m17 => bif eqb x16 ((0 : Int32)) then fX11_mend_53 (fX11_mend_32 n) a1 a2 a3 m17 else qbI (fX1_startOf a3 a2 m17) (fun x18 m19 => bif eqb x18 ((-1 : Int32)) then qbV (fX0_pick a3 m19) (fun m20 => fX11_mend_53 (fX11_mend_32 n) a1 a2 a3 m20) else fX11_mend_53 (fX11_mend_32 n) a1 a2 a3 m19)))
noncomputable def fX11_mend_0 (a1 : Int32) (m : qM) : Option (Int32 × qM) :=
  qbI (fX11_isMinute a1 m) (fun x1 m2 => bif eqb x1 ((0 : Int32)) then some ((-2 : Int32), m2) else bif eqb ((gI m2 0 10)) ((0 : Int32)) then some ((-4 : Int32), m2) else qbI (fX9_knownAt a1 m2) (fun x3 m4 => qbV (fX1_makeReady x3 m4) (fun m5 => qbI (fX1_missed x3 m5) (fun x6 m7 => bif leb x6 ((4 : Int32)) then qbV (fX0_clear m7) (fun m8 => fX11_mend_32 FU a1 x3 ((0 : Int32)) m8) else some ((-3 : Int32), m7)))))
theorem fX11_mend_x : ∃ f : Int32 → qM → Option (Int32 × qM), f = fun a1 m => fX11_mend_0 a1 m := ⟨_, rfl⟩
noncomputable def fX11_mend : Int32 → qM → Option (Int32 × qM) := Classical.choose fX11_mend_x
theorem fX11_mend_d : fX11_mend = fun a1 m => fX11_mend_0 a1 m := Classical.choose_spec fX11_mend_x
noncomputable def fX11_note_13 (s0 : Int32) (m : qM) : Option (Int32 × qM) :=
  qbV (fX8_cut ((0 : Int32)) m) (fun m5 => some (s0, m5))
noncomputable def fX11_note_0 (a1 : Int32) (m : qM) : Option (Int32 × qM) :=
  qbI (fX4_isAsk a1 m) (fun x1 m2 => bif eqb x1 ((0 : Int32)) then fX11_note_13 ((-2 : Int32)) m2 else qbI (fX2_takeNote a1 m2) (fun x3 m4 => fX11_note_13 x3 m4))
theorem fX11_note_x : ∃ f : Int32 → qM → Option (Int32 × qM), f = fun a1 m => fX11_note_0 a1 m := ⟨_, rfl⟩
noncomputable def fX11_note : Int32 → qM → Option (Int32 × qM) := Classical.choose fX11_note_x
theorem fX11_note_d : fX11_note = fun a1 m => fX11_note_0 a1 m := Classical.choose_spec fX11_note_x
noncomputable def fX11_let_8 (m : qM) : Option (Int32 × qM) :=
  some ((-2 : Int32), m)
noncomputable def fX11_let_20 (s0 : Int32) (m : qM) : Option (Int32 × qM) :=
  some (s0, m)
noncomputable def fX11_let_0 (a1 : Int32) (a2 : Int32) (a3 : Int32) (m : qM) : Option (Int32 × qM) :=
  qbI (fX4_isAsk a1 m) (fun x1 m2 => bif eqb x1 ((0 : Int32)) then fX11_let_8 m2 else qbI (fX11_isTeacher a2 m2) (fun x3 m4 => bif eqb x3 ((0 : Int32)) then fX11_let_8 m4 else qbI (fX2_setLet a1 a2 a3 m4) (fun x5 m6 => bif eqb x5 ((0 : Int32)) then fX11_let_20 ((0 : Int32)) m6 else fX11_let_20 ((1 : Int32)) m6)))
theorem fX11_let_x : ∃ f : Int32 → Int32 → Int32 → qM → Option (Int32 × qM), f = fun a1 a2 a3 m => fX11_let_0 a1 a2 a3 m := ⟨_, rfl⟩
noncomputable def fX11_let : Int32 → Int32 → Int32 → qM → Option (Int32 × qM) := Classical.choose fX11_let_x
theorem fX11_let_d : fX11_let = fun a1 a2 a3 m => fX11_let_0 a1 a2 a3 m := Classical.choose_spec fX11_let_x
noncomputable def fX11_read_8 (m : qM) : Option (Int32 × qM) :=
  some ((-2 : Int32), m)
noncomputable def fX11_read_23 (s0 : Int32) (m : qM) : Option (Int32 × qM) :=
  some (s0, m)
noncomputable def fX11_read_0 (a1 : Int32) (a2 : Int32) (a3 : Int32) (m : qM) : Option (Int32 × qM) :=
  qbI (fX11_isTeacher a1 m) (fun x1 m2 => bif eqb x1 ((0 : Int32)) then fX11_read_8 m2 else qbI (fX4_isAsk a2 m2) (fun x3 m4 => bif eqb x3 ((0 : Int32)) then fX11_read_8 m4 else qbI (fX2_mayRead a1 a2 m4) (fun x5 m6 => bif eqb x5 ((0 : Int32)) then fX11_read_23 ((-1 : Int32)) m6 else qbI (fX2_byteOf a2 a3 m6) (fun x7 m8 => fX11_read_23 x7 m8))))
theorem fX11_read_x : ∃ f : Int32 → Int32 → Int32 → qM → Option (Int32 × qM), f = fun a1 a2 a3 m => fX11_read_0 a1 a2 a3 m := ⟨_, rfl⟩
noncomputable def fX11_read : Int32 → Int32 → Int32 → qM → Option (Int32 × qM) := Classical.choose fX11_read_x
theorem fX11_read_d : fX11_read = fun a1 a2 a3 m => fX11_read_0 a1 a2 a3 m := Classical.choose_spec fX11_read_x
noncomputable def fX11_find_11 (s0 : Int32) (m : qM) : Option (Int32 × qM) :=
  qbV (fX8_cut ((0 : Int32)) m) (fun m5 => some (s0, m5))
noncomputable def fX11_find_0 (a1 : Int32) (m : qM) : Option (Int32 × qM) :=
  qbI (fX11_isTeacher a1 m) (fun x1 m2 => bif eqb x1 ((0 : Int32)) then fX11_find_11 ((-2 : Int32)) m2 else qbI (fX2_search a1 m2) (fun x3 m4 => fX11_find_11 x3 m4))
theorem fX11_find_x : ∃ f : Int32 → qM → Option (Int32 × qM), f = fun a1 m => fX11_find_0 a1 m := ⟨_, rfl⟩
noncomputable def fX11_find : Int32 → qM → Option (Int32 × qM) := Classical.choose fX11_find_x
theorem fX11_find_d : fX11_find = fun a1 m => fX11_find_0 a1 m := Classical.choose_spec fX11_find_x
noncomputable def fX11_found_0 (a1 : Int32) (m : qM) : Option (Int32 × qM) :=
  qbI (fX2_foundAt a1 m) (fun x1 m2 => some (x1, m2))
theorem fX11_found_x : ∃ f : Int32 → qM → Option (Int32 × qM), f = fun a1 m => fX11_found_0 a1 m := ⟨_, rfl⟩
noncomputable def fX11_found : Int32 → qM → Option (Int32 × qM) := Classical.choose fX11_found_x
theorem fX11_found_d : fX11_found = fun a1 m => fX11_found_0 a1 m := Classical.choose_spec fX11_found_x
noncomputable def fX11_count_38 (s0 : Int32) (m : qM) : Option (Int32 × qM) :=
  some (s0, m)
noncomputable def fX11_count_54 (s0 : Int32) (m : qM) : Option (Int32 × qM) :=
  some (s0, m)
noncomputable def fX11_count_66 (s0 : Int32) (m : qM) : Option (Int32 × qM) :=
  some (s0, m)
noncomputable def fX11_count_91 (s0 : Int32) (m : qM) : Option (Int32 × qM) :=
  some (s0, m)
noncomputable def fX11_count_90 (m : qM) : Option (Int32 × qM) :=
  fX11_count_91 ((-1 : Int32)) m
noncomputable def fX11_count_14 (a1 : Int32) (m : qM) : Option (Int32 × qM) :=
  bif eqb a1 (0 : Int32) then qbI (fX4_asks m) (fun x6 m7 => some (x6, m7)) else bif eqb a1 ((0 : Int32) + 1) then qbI (fX4_laid m) (fun x8 m9 => some (x8, m9)) else bif eqb a1 (((0 : Int32) + 1) + 1) then qbI (fX4_musts m) (fun x10 m11 => qbI (fX4_mustsLaid m11) (fun x12 m13 => some ((x10 - x12), m13))) else bif eqb a1 ((((0 : Int32) + 1) + 1) + 1) then bif eqb ((gI m 0 10)) ((0 : Int32)) then fX11_count_38 ((0 : Int32)) m else fX11_count_38 ((1 : Int32)) m else bif eqb a1 (((((0 : Int32) + 1) + 1) + 1) + 1) then qbI (fX9_size m) (fun x14 m15 => some (x14, m15)) else bif eqb a1 ((((((0 : Int32) + 1) + 1) + 1) + 1) + 1) then bif eqb ((gI m 0 10)) ((0 : Int32)) then fX11_count_54 ((0 : Int32)) m else qbI (fX9_size m) (fun x16 m17 => qbI (fX1_missed x16 m17) (fun x18 m19 => fX11_count_54 x18 m19)) else bif eqb a1 (((((((0 : Int32) + 1) + 1) + 1) + 1) + 1) + 1) then bif eqb ((gI m 0 10)) ((0 : Int32)) then fX11_count_66 ((0 : Int32)) m else qbI (fX9_size m) (fun x20 m21 => qbI (fX1_lastStop x20 m21) (fun x22 m23 => fX11_count_66 x22 m23)) else bif eqb a1 ((((((((0 : Int32) + 1) + 1) + 1) + 1) + 1) + 1) + 1) then qbI (fX8_size m) (fun x24 m25 => some (x24, m25)) else bif eqb a1 (((((((((0 : Int32) + 1) + 1) + 1) + 1) + 1) + 1) + 1) + 1) then qbI (fX2_size m) (fun x26 m27 => some (x26, m27)) else bif ltb a1 ((10 : Int32)) then fX11_count_90 m else qbI (fX11_isPolicy ((a1 - (10 : Int32))) m) (fun x28 m29 => bif eqb x28 ((0 : Int32)) then fX11_count_90 m29 else qbI (fX10_linesOf ((a1 - (10 : Int32))) m29) (fun x30 m31 => fX11_count_91 x30 m31))
noncomputable def fX11_count_0 (a1 : Int32) (m : qM) : Option (Int32 × qM) :=
  bif eqb ((gI m 0 10)) ((0 : Int32)) then fX11_count_14 a1 m else qbI (fX11_within a1 ((5 : Int32)) ((6 : Int32)) m) (fun x1 m2 => bif eqb x1 ((0 : Int32)) then fX11_count_14 a1 m2 else qbI (fX9_size m2) (fun x3 m4 => qbV (fX1_makeReady x3 m4) (fun m5 => fX11_count_14 a1 m5)))
theorem fX11_count_x : ∃ f : Int32 → qM → Option (Int32 × qM), f = fun a1 m => fX11_count_0 a1 m := ⟨_, rfl⟩
noncomputable def fX11_count : Int32 → qM → Option (Int32 × qM) := Classical.choose fX11_count_x
theorem fX11_count_d : fX11_count = fun a1 m => fX11_count_0 a1 m := Classical.choose_spec fX11_count_x
noncomputable def fX13_in_11 (s0 : Int32) (m : qM) : Option (Int32 × qM) :=
  some (nz s0, m)
noncomputable def fX13_in_10 (m : qM) : Option (Int32 × qM) :=
  fX13_in_11 ((0 : Int32)) m
noncomputable def fX13_in_0 (a0 : Int64) (a1 : Int64) (a2 : Int64) (m : qM) : Option (Int32 × qM) :=
  bif ltb ((lg_cmp a0 a1)) ((0 : Int32)) then fX13_in_10 m else bif ltb ((0 : Int32)) ((lg_cmp a0 a2)) then fX13_in_10 m else fX13_in_11 ((1 : Int32)) m
theorem fX13_in_x : ∃ f : Int64 → Int64 → Int64 → qM → Option (Int32 × qM), f = fun a0 a1 a2 m => fX13_in_0 a0 a1 a2 m := ⟨_, rfl⟩
noncomputable def fX13_in : Int64 → Int64 → Int64 → qM → Option (Int32 × qM) := Classical.choose fX13_in_x
theorem fX13_in_d : fX13_in = fun a0 a1 a2 m => fX13_in_0 a0 a1 a2 m := Classical.choose_spec fX13_in_x
noncomputable def fX13_wrong_0 (a1 : Int32) (m : qM) : Option (Option Nat × qM) :=
  let m1 := (sI m 98 18 a1); let m2 := (sI m1 98 19 ((gI m1 98 14))); some (some 109, m2)
theorem fX13_wrong_x : ∃ f : Int32 → qM → Option (Option Nat × qM), f = fun a1 m => fX13_wrong_0 a1 m := ⟨_, rfl⟩
noncomputable def fX13_wrong : Int32 → qM → Option (Option Nat × qM) := Classical.choose fX13_wrong_x
theorem fX13_wrong_d : fX13_wrong = fun a1 m => fX13_wrong_0 a1 m := Classical.choose_spec fX13_wrong_x
noncomputable def fX13_byteAt_12 (s0 : Int32) (m : qM) : Option (Int32 × qM) :=
  some (s0, m)
noncomputable def fX13_byteAt_0 (a1 : Int32) (m : qM) : Option (Int32 × qM) :=
  bif leb ((gI m 98 13)) a1 then fX13_byteAt_12 ((0 : Int32)) m else bif inb a1 400 then fX13_byteAt_12 (((gI m 110 (ix a1)) &&& (255 : Int32))) m else none
theorem fX13_byteAt_x : ∃ f : Int32 → qM → Option (Int32 × qM), f = fun a1 m => fX13_byteAt_0 a1 m := ⟨_, rfl⟩
noncomputable def fX13_byteAt : Int32 → qM → Option (Int32 × qM) := Classical.choose fX13_byteAt_x
theorem fX13_byteAt_d : fX13_byteAt = fun a1 m => fX13_byteAt_0 a1 m := Classical.choose_spec fX13_byteAt_x
noncomputable def fX13_isSmall_9 (s0 : Int32) (m : qM) : Option (Int32 × qM) :=
  some (nz s0, m)
noncomputable def fX13_isSmall_8 (m : qM) : Option (Int32 × qM) :=
  fX13_isSmall_9 ((0 : Int32)) m
noncomputable def fX13_isSmall_0 (a0 : Int32) (m : qM) : Option (Int32 × qM) :=
  bif ltb a0 ((97 : Int32)) then fX13_isSmall_8 m else bif ltb ((122 : Int32)) a0 then fX13_isSmall_8 m else fX13_isSmall_9 ((1 : Int32)) m
theorem fX13_isSmall_x : ∃ f : Int32 → qM → Option (Int32 × qM), f = fun a0 m => fX13_isSmall_0 a0 m := ⟨_, rfl⟩
noncomputable def fX13_isSmall : Int32 → qM → Option (Int32 × qM) := Classical.choose fX13_isSmall_x
theorem fX13_isSmall_d : fX13_isSmall = fun a0 m => fX13_isSmall_0 a0 m := Classical.choose_spec fX13_isSmall_x
noncomputable def fX13_isDigit_9 (s0 : Int32) (m : qM) : Option (Int32 × qM) :=
  some (nz s0, m)
noncomputable def fX13_isDigit_8 (m : qM) : Option (Int32 × qM) :=
  fX13_isDigit_9 ((0 : Int32)) m
noncomputable def fX13_isDigit_0 (a0 : Int32) (m : qM) : Option (Int32 × qM) :=
  bif ltb a0 ((48 : Int32)) then fX13_isDigit_8 m else bif ltb ((57 : Int32)) a0 then fX13_isDigit_8 m else fX13_isDigit_9 ((1 : Int32)) m
theorem fX13_isDigit_x : ∃ f : Int32 → qM → Option (Int32 × qM), f = fun a0 m => fX13_isDigit_0 a0 m := ⟨_, rfl⟩
noncomputable def fX13_isDigit : Int32 → qM → Option (Int32 × qM) := Classical.choose fX13_isDigit_x
theorem fX13_isDigit_d : fX13_isDigit = fun a0 m => fX13_isDigit_0 a0 m := Classical.choose_spec fX13_isDigit_x
noncomputable def fX13_scan_19 (k0 : qM → Option (Unit × qM)) (m : qM) : Option (Unit × qM) :=
  let m1 := (sI m 98 15 (((gI m 98 15) + (1 : Int32)))); k0 m1
noncomputable def fX13_scan_0 (k26 : qM → Option (Unit × qM)) : Nat → qM → Option (Unit × qM)
  | 0, _ => none
  | n + 1, m =>
    bif leb ((gI m 98 13)) ((gI m 98 15)) then k26 m else bif inb ((gI m 98 15)) 400 then bif eqb ((gI m 110 (ix ((gI m 98 15))))) ((32 : Int32)) then fX13_scan_19 (fX13_scan_0 k26 n) m else bif inb ((gI m 98 15)) 400 then bif eqb ((gI m 110 (ix ((gI m 98 15))))) ((10 : Int32)) then fX13_scan_19 (fX13_scan_0 k26 n) m else k26 m else none else none
noncomputable def fX13_scan_130 (m : qM) : Option (Unit × qM) :=
  some ((), m)
noncomputable def fX13_scan_123 (s0 : Int32) (m : qM) : Option (Unit × qM) :=
  let m11 := (sI m 98 16 s0); let m12 := (sI m11 98 15 (((gI m11 98 15) + (1 : Int32)))); fX13_scan_130 m12
noncomputable def fX13_scan_96 (k70 : qM → Option (Unit × qM)) (m : qM) : Option (Unit × qM) :=
  let m20 := (sI m 98 15 (((gI m 98 15) + (1 : Int32)))); k70 m20
noncomputable def fX13_scan_70 (k114 : Int32 → qM → Option (Unit × qM)) : Nat → qM → Option (Unit × qM)
  | 0, _ => none
  | n + 1, m =>
    qbI (fX13_byteAt ((gI m 98 15)) m) (fun x13 m14 => qbI (fX13_isDigit x13 m14) (fun x15 m16 => bif eqb x15 ((0 : Int32)) then bif leb (((gI m16 98 15) - (gI m16 98 14))) ((3 : Int32)) then k114 ((2 : Int32)) m16 else k114 ((4 : Int32)) m16 else bif leb ((3 : Int32)) (((gI m16 98 15) - (gI m16 98 14))) then fX13_scan_96 (fX13_scan_70 k114 n) m16 else qbI (fX13_byteAt ((gI m16 98 15)) m16) (fun x17 m18 => let m19 := (sI m18 98 17 (((((10 : Int32) * (gI m16 98 17)) + x17) - (48 : Int32)))); fX13_scan_96 (fX13_scan_70 k114 n) m19)))
noncomputable def fX13_scan_114 (s0 : Int32) (m : qM) : Option (Unit × qM) :=
  let m21 := (sI m 98 16 s0); fX13_scan_130 m21
noncomputable def fX13_scan_47 (k130 : qM → Option (Unit × qM)) : Nat → qM → Option (Unit × qM)
  | 0, _ => none
  | n + 1, m =>
    qbI (fX13_byteAt ((gI m 98 15)) m) (fun x22 m23 => qbI (fX13_isSmall x22 m23) (fun x24 m25 => bif eqb x24 ((0 : Int32)) then let m26 := (sI m25 98 16 ((1 : Int32))); k130 m26 else let m27 := (sI m25 98 15 (((gI m25 98 15) + (1 : Int32)))); (fX13_scan_47 k130 n) m27))
noncomputable def fX13_scan_26 (m : qM) : Option (Unit × qM) :=
  let m2 := (sI m 98 14 ((gI m 98 15))); qbI (fX13_byteAt ((gI m2 98 14)) m2) (fun x3 m4 => bif eqb ((gI m4 98 14)) ((gI m4 98 13)) then let m10 := (sI m4 98 16 ((0 : Int32))); fX13_scan_130 m10 else qbI (fX13_isSmall x3 m4) (fun x5 m6 => bif eqb x5 ((0 : Int32)) then qbI (fX13_isDigit x3 m6) (fun x7 m8 => bif eqb x7 ((0 : Int32)) then bif eqb x3 ((59 : Int32)) then fX13_scan_123 ((3 : Int32)) m8 else fX13_scan_123 ((4 : Int32)) m8 else let m9 := (sI m8 98 17 ((0 : Int32))); fX13_scan_70 fX13_scan_114 FU m9) else fX13_scan_47 fX13_scan_130 FU m6))
noncomputable def fX13_scan_e (m : qM) : Option (Unit × qM) :=
  fX13_scan_0 fX13_scan_26 FU m
theorem fX13_scan_x : ∃ f : qM → Option (Unit × qM), f = fun m => fX13_scan_e m := ⟨_, rfl⟩
noncomputable def fX13_scan : qM → Option (Unit × qM) := Classical.choose fX13_scan_x
theorem fX13_scan_d : fX13_scan = fun m => fX13_scan_e m := Classical.choose_spec fX13_scan_x
noncomputable def fX13_is_38 (k18 : Nat → Int32 → Int32 → qM → Option (Int32 × qM)) (a1 : Nat) (a3 : Int32) (s0 : Int32) (m : qM) : Option (Int32 × qM) :=
  k18 a1 s0 ((a3 + (1 : Int32))) m
noncomputable def fX13_is_18 (k41 : Int32 → qM → Option (Int32 × qM)) : Nat → Nat → Int32 → Int32 → qM → Option (Int32 × qM)
  | 0, _, _, _, _ => none
  | n + 1, a1, a2, a3, m =>
    qbI (bif qtx a1 then fJ0_length_8abf5 a1 m else none) (fun x3 m4 => bif leb x3 a3 then k41 a2 m4 else bif eqb a2 ((0 : Int32)) then k41 a2 m4 else bif inb (((gI m4 98 14) + a3)) 400 then qbI (bif qtx a1 then fJ0_charAt_5068e a1 a3 m4 else none) (fun x5 m6 => bif eqb ((gI m4 110 (ix (((gI m4 98 14) + a3))))) x5 then fX13_is_38 (fX13_is_18 k41 n) a1 a3 ((1 : Int32)) m6 else fX13_is_38 (fX13_is_18 k41 n) a1 a3 ((0 : Int32)) m6) else none)
noncomputable def fX13_is_41 (a2 : Int32) (m : qM) : Option (Int32 × qM) :=
  some (nz a2, m)
noncomputable def fX13_is_15 (a1 : Nat) (s0 : Int32) (m : qM) : Option (Int32 × qM) :=
  fX13_is_18 fX13_is_41 FU a1 s0 ((0 : Int32)) m
noncomputable def fX13_is_14 (a1 : Nat) (m : qM) : Option (Int32 × qM) :=
  fX13_is_15 a1 ((0 : Int32)) m
noncomputable def fX13_is_0 (a1 : Nat) (m : qM) : Option (Int32 × qM) :=
  bif eqb ((gI m 98 16)) ((1 : Int32)) then qbI (bif qtx a1 then fJ0_length_8abf5 a1 m else none) (fun x1 m2 => bif eqb (((gI m 98 15) - (gI m 98 14))) x1 then fX13_is_15 a1 ((1 : Int32)) m2 else fX13_is_14 a1 m2) else fX13_is_14 a1 m
theorem fX13_is_x : ∃ f : Nat → qM → Option (Int32 × qM), f = fun a1 m => fX13_is_0 a1 m := ⟨_, rfl⟩
noncomputable def fX13_is : Nat → qM → Option (Int32 × qM) := Classical.choose fX13_is_x
theorem fX13_is_d : fX13_is = fun a1 m => fX13_is_0 a1 m := Classical.choose_spec fX13_is_x
noncomputable def fX13_need_0 (a1 : Nat) (m : qM) : Option (Option Unit × qM) :=
  qbI (fX13_is a1 m) (fun x1 m2 => bif eqb x1 ((0 : Int32)) then qbR (fX13_wrong ((1 : Int32)) m2) (fun q4 m5 => bif Nat.beq q4 109 then some (none, m5) else none) (fun m5 => none) else qbV (fX13_scan m2) (fun m3 => some (some (), m3)))
theorem fX13_need_x : ∃ f : Nat → qM → Option (Option Unit × qM), f = fun a1 m => fX13_need_0 a1 m := ⟨_, rfl⟩
noncomputable def fX13_need : Nat → qM → Option (Option Unit × qM) := Classical.choose fX13_need_x
theorem fX13_need_d : fX13_need = fun a1 m => fX13_need_0 a1 m := Classical.choose_spec fX13_need_x
noncomputable def fX13_number_0 (a1 : Int32) (a2 : Int32) (m : qM) : Option (Option Int32 × qM) :=
  bif eqb ((gI m 98 16)) ((2 : Int32)) then qbI (fX13_in ((Int32.toInt64 ((gI m 98 17)))) ((Int32.toInt64 a1)) ((Int32.toInt64 a2)) m) (fun x1 m2 => bif eqb x1 ((0 : Int32)) then qbR (fX13_wrong ((2 : Int32)) m2) (fun q4 m5 => bif Nat.beq q4 109 then some (none, m5) else none) (fun m5 => none) else qbV (fX13_scan m2) (fun m3 => some (some ((gI m2 98 17)), m3))) else qbR (fX13_wrong ((1 : Int32)) m) (fun q6 m7 => bif Nat.beq q6 109 then some (none, m7) else none) (fun m7 => none)
theorem fX13_number_x : ∃ f : Int32 → Int32 → qM → Option (Option Int32 × qM), f = fun a1 a2 m => fX13_number_0 a1 a2 m := ⟨_, rfl⟩
noncomputable def fX13_number : Int32 → Int32 → qM → Option (Option Int32 × qM) := Classical.choose fX13_number_x
theorem fX13_number_d : fX13_number = fun a1 a2 m => fX13_number_0 a1 a2 m := Classical.choose_spec fX13_number_x
noncomputable def fX13_close_0 (m : qM) : Option (Option Unit × qM) :=
  bif eqb ((gI m 98 16)) ((3 : Int32)) then qbV (fX13_scan m) (fun m1 => some (some (), m1)) else qbR (fX13_wrong ((1 : Int32)) m) (fun q2 m3 => bif Nat.beq q2 109 then some (none, m3) else none) (fun m3 => none)
theorem fX13_close_x : ∃ f : qM → Option (Option Unit × qM), f = fun m => fX13_close_0 m := ⟨_, rfl⟩
noncomputable def fX13_close : qM → Option (Option Unit × qM) := Classical.choose fX13_close_x
theorem fX13_close_d : fX13_close = fun m => fX13_close_0 m := Classical.choose_spec fX13_close_x
noncomputable def fX13_open_0 (m : qM) : Option (Unit × qM) :=
  let m1 := (sI m 98 13 ((gI m 98 12))); let m2 := (sI m1 98 12 ((0 : Int32))); let m3 := (sI m2 98 15 ((0 : Int32))); some ((), m3)
theorem fX13_open_x : ∃ f : qM → Option (Unit × qM), f = fun m => fX13_open_0 m := ⟨_, rfl⟩
noncomputable def fX13_open : qM → Option (Unit × qM) := Classical.choose fX13_open_x
theorem fX13_open_d : fX13_open = fun m => fX13_open_0 m := Classical.choose_spec fX13_open_x
noncomputable def fX13_key_37 (s0 : Int32) (m : qM) : Option (Int32 × qM) :=
  some (s0, m)
noncomputable def fX13_key_0 (m : qM) : Option (Int32 × qM) :=
  qbI (fX13_is 10106 m) (fun x1 m2 => bif eqb x1 ((0 : Int32)) then qbI (fX13_is 10107 m2) (fun x3 m4 => bif eqb x3 ((0 : Int32)) then qbI (fX13_is 10108 m4) (fun x5 m6 => bif eqb x5 ((0 : Int32)) then qbI (fX13_is 10109 m6) (fun x7 m8 => bif eqb x7 ((0 : Int32)) then qbI (fX13_is 10110 m8) (fun x9 m10 => bif eqb x9 ((0 : Int32)) then qbI (fX13_is 10111 m10) (fun x11 m12 => bif eqb x11 ((0 : Int32)) then fX13_key_37 ((-1 : Int32)) m12 else fX13_key_37 ((5 : Int32)) m12) else some ((4 : Int32), m10)) else some ((3 : Int32), m8)) else some ((2 : Int32), m6)) else some ((1 : Int32), m4)) else some ((0 : Int32), m2))
theorem fX13_key_x : ∃ f : qM → Option (Int32 × qM), f = fun m => fX13_key_0 m := ⟨_, rfl⟩
noncomputable def fX13_key : qM → Option (Int32 × qM) := Classical.choose fX13_key_x
theorem fX13_key_d : fX13_key = fun m => fX13_key_0 m := Classical.choose_spec fX13_key_x
noncomputable def fX13_most_18 (s0 : Int32) (m : qM) : Option (Int32 × qM) :=
  some (s0, m)
noncomputable def fX13_most_10 (m : qM) : Option (Int32 × qM) :=
  fX13_most_18 ((20 : Int32)) m
noncomputable def fX13_most_0 (a0 : Int32) (m : qM) : Option (Int32 × qM) :=
  bif eqb a0 ((0 : Int32)) then fX13_most_18 ((30 : Int32)) m else bif eqb a0 ((1 : Int32)) then fX13_most_10 m else bif eqb a0 ((2 : Int32)) then fX13_most_10 m else bif eqb a0 ((3 : Int32)) then fX13_most_18 ((99 : Int32)) m else fX13_most_18 ((9 : Int32)) m
theorem fX13_most_x : ∃ f : Int32 → qM → Option (Int32 × qM), f = fun a0 m => fX13_most_0 a0 m := ⟨_, rfl⟩
noncomputable def fX13_most : Int32 → qM → Option (Int32 × qM) := Classical.choose fX13_most_x
theorem fX13_most_d : fX13_most = fun a0 m => fX13_most_0 a0 m := Classical.choose_spec fX13_most_x
noncomputable def fX13_readRules_32 (k44 : Int32 → qM → Option (Option Int32 × qM)) : Nat → Int32 → qM → Option (Option Int32 × qM)
  | 0, _, _ => none
  | n + 1, a1, m =>
    bif leb ((6 : Int32)) a1 then k44 ((0 : Int32)) m else bif inb a1 6 then let m7 := (sI m 111 (ix a1) ((nz ((0 : Int32))))); (fX13_readRules_32 k44 n) ((a1 + (1 : Int32))) m7 else none
noncomputable def fX13_readRules_82 (k44 : Int32 → qM → Option (Option Int32 × qM)) (a1 : Int32) (a2 : Int32) (s0 : Int32) (s2 : Int32) (m : qM) : Option (Option Int32 × qM) :=
  qbI (fX13_most a2 m) (fun x16 m17 => qbIX (fX13_number s0 x16 m17) (fun x20 m18 => bif inb s2 6 then let m21 := (sI m18 100 (ix s2) x20); qbVX (fX13_close m21) (fun m22 => k44 ((a1 + (1 : Int32))) m22) (fun m23 => some (none, m23)) else none) (fun m19 => some (none, m19)))
noncomputable def fX13_readRules_44 : Nat → Int32 → qM → Option (Option Int32 × qM)
  | 0, _, _ => none
  | n + 1, a1, m =>
    bif eqb ((gI m 98 16)) ((0 : Int32)) then some (some a1, m) else qbI (fX13_key m) (fun x8 m9 => bif eqb x8 ((-1 : Int32)) then qbR (fX13_wrong ((1 : Int32)) m9) (fun q14 m15 => bif Nat.beq q14 109 then some (none, m15) else none) (fun m15 => none) else bif inb x8 6 then bif eqb ((gI m9 111 (ix x8))) ((0 : Int32)) then bif inb x8 6 then let m10 := (sI m9 111 (ix x8) ((nz ((1 : Int32))))); qbV (fX13_scan m10) (fun m11 => bif eqb x8 ((0 : Int32)) then fX13_readRules_82 (fX13_readRules_44 n) a1 x8 ((1 : Int32)) x8 m11 else fX13_readRules_82 (fX13_readRules_44 n) a1 x8 ((0 : Int32)) x8 m11) else none else qbR (fX13_wrong ((3 : Int32)) m9) (fun q12 m13 => bif Nat.beq q12 109 then some (none, m13) else none) (fun m13 => none) else none)
noncomputable def fX13_readRules_0 (m : qM) : Option (Option Int32 × qM) :=
  bif inb ((0 : Int32)) 6 then let m1 := (sI m 100 (ix ((0 : Int32))) ((10 : Int32))); bif inb ((1 : Int32)) 6 then let m2 := (sI m1 100 (ix ((1 : Int32))) ((2 : Int32))); bif inb ((2 : Int32)) 6 then let m3 := (sI m2 100 (ix ((2 : Int32))) ((1 : Int32))); bif inb ((3 : Int32)) 6 then let m4 := (sI m3 100 (ix ((3 : Int32))) ((15 : Int32))); bif inb ((4 : Int32)) 6 then let m5 := (sI m4 100 (ix ((4 : Int32))) ((0 : Int32))); bif inb ((5 : Int32)) 6 then let m6 := (sI m5 100 (ix ((5 : Int32))) ((0 : Int32))); fX13_readRules_32 (fX13_readRules_44 FU) FU ((0 : Int32)) m6 else none else none else none else none else none else none
theorem fX13_readRules_x : ∃ f : qM → Option (Option Int32 × qM), f = fun m => fX13_readRules_0 m := ⟨_, rfl⟩
noncomputable def fX13_readRules : qM → Option (Option Int32 × qM) := Classical.choose fX13_readRules_x
theorem fX13_readRules_d : fX13_readRules = fun m => fX13_readRules_0 m := Classical.choose_spec fX13_readRules_x
noncomputable def fX13_readCond_76 (a1 : Int32) (a2 : Int32) (s0 : Int32) (m : qM) : Option (Option Unit × qM) :=
  qbV (fX13_scan m) (fun m28 => bif inb a1 40 then let x29 : Int32 := (((4 : Int32) * a1) + (gI m28 104 (ix a1))); bif inb x29 160 then let m30 := (sI m28 105 (ix x29) a2); bif inb x29 160 then let m31 := (sI m30 106 (ix x29) s0); qbIX (fX13_number ((0 : Int32)) ((999 : Int32)) m31) (fun x34 m32 => bif inb x29 160 then let m35 := (sI m32 107 (ix x29) x34); bif inb a1 40 then bif inb a1 40 then let m36 := (sI m35 104 (ix a1) (((gI m35 104 (ix a1)) + (1 : Int32)))); some (some (), m36) else none else none else none) (fun m33 => some (none, m33)) else none else none else none)
noncomputable def fX13_readCond_63 (a1 : Int32) (a2 : Int32) (m : qM) : Option (Option Unit × qM) :=
  qbI (fX13_is 10116 m) (fun x24 m25 => bif eqb x24 ((0 : Int32)) then qbI (fX13_is 10117 m25) (fun x26 m27 => bif eqb x26 ((0 : Int32)) then fX13_readCond_76 a1 a2 ((0 : Int32)) m27 else fX13_readCond_76 a1 a2 ((-1 : Int32)) m27) else fX13_readCond_76 a1 a2 ((1 : Int32)) m25)
noncomputable def fX13_readCond_37 (a1 : Int32) (s0 : Int32) (m : qM) : Option (Option Unit × qM) :=
  bif eqb s0 ((-1 : Int32)) then qbR (fX13_wrong ((1 : Int32)) m) (fun q22 m23 => bif Nat.beq q22 109 then some (none, m23) else none) (fun m23 => none) else qbV (fX13_scan m) (fun m13 => qbI (fX13_is 10116 m13) (fun x14 m15 => bif eqb x14 ((0 : Int32)) then qbI (fX13_is 10117 m15) (fun x16 m17 => bif eqb x16 ((0 : Int32)) then qbI (fX13_is 10118 m17) (fun x18 m19 => bif eqb x18 ((0 : Int32)) then qbR (fX13_wrong ((1 : Int32)) m19) (fun q20 m21 => bif Nat.beq q20 109 then some (none, m21) else none) (fun m21 => none) else fX13_readCond_63 a1 s0 m19) else fX13_readCond_63 a1 s0 m17) else fX13_readCond_63 a1 s0 m15))
noncomputable def fX13_readCond_0 (a1 : Int32) (m : qM) : Option (Option Unit × qM) :=
  qbI (fX13_is 10109 m) (fun x1 m2 => bif eqb x1 ((0 : Int32)) then qbI (fX13_is 10112 m2) (fun x3 m4 => bif eqb x3 ((0 : Int32)) then qbI (fX13_is 10113 m4) (fun x5 m6 => bif eqb x5 ((0 : Int32)) then qbI (fX13_is 10114 m6) (fun x7 m8 => bif eqb x7 ((0 : Int32)) then qbI (fX13_is 10115 m8) (fun x9 m10 => bif eqb x9 ((0 : Int32)) then qbI (fX13_is 10106 m10) (fun x11 m12 => bif eqb x11 ((0 : Int32)) then fX13_readCond_37 a1 ((-1 : Int32)) m12 else fX13_readCond_37 a1 ((5 : Int32)) m12) else fX13_readCond_37 a1 ((4 : Int32)) m10) else fX13_readCond_37 a1 ((3 : Int32)) m8) else fX13_readCond_37 a1 ((2 : Int32)) m6) else fX13_readCond_37 a1 ((1 : Int32)) m4) else fX13_readCond_37 a1 ((0 : Int32)) m2)
theorem fX13_readCond_x : ∃ f : Int32 → qM → Option (Option Unit × qM), f = fun a1 m => fX13_readCond_0 a1 m := ⟨_, rfl⟩
noncomputable def fX13_readCond : Int32 → qM → Option (Option Unit × qM) := Classical.choose fX13_readCond_x
theorem fX13_readCond_d : fX13_readCond = fun a1 m => fX13_readCond_0 a1 m := Classical.choose_spec fX13_readCond_x
noncomputable def fX13_readAct_67 (s0 : Int32) (s1 : Int32) (m : qM) : Option (Option Unit × qM) :=
  bif inb s1 40 then let m20 := (sI m 103 (ix s1) s0); some (some (), m20) else none
noncomputable def fX13_readAct_61 (s0 : Int32) (m : qM) : Option (Option Unit × qM) :=
  qbIX (fX13_number ((1 : Int32)) ((30 : Int32)) m) (fun x19 m17 => fX13_readAct_67 x19 s0 m17) (fun m18 => some (none, m18))
noncomputable def fX13_readAct_37 (a1 : Int32) (s0 : Int32) (m : qM) : Option (Option Unit × qM) :=
  bif eqb s0 ((-1 : Int32)) then qbR (fX13_wrong ((1 : Int32)) m) (fun q15 m16 => bif Nat.beq q15 109 then some (none, m16) else none) (fun m16 => none) else qbV (fX13_scan m) (fun m13 => bif inb a1 40 then let m14 := (sI m13 102 (ix a1) s0); bif eqb s0 ((4 : Int32)) then fX13_readAct_61 a1 m14 else bif eqb s0 ((5 : Int32)) then fX13_readAct_61 a1 m14 else fX13_readAct_67 ((0 : Int32)) a1 m14 else none)
noncomputable def fX13_readAct_0 (a1 : Int32) (m : qM) : Option (Option Unit × qM) :=
  qbI (fX13_is 10121 m) (fun x1 m2 => bif eqb x1 ((0 : Int32)) then qbI (fX13_is 10122 m2) (fun x3 m4 => bif eqb x3 ((0 : Int32)) then qbI (fX13_is 10123 m4) (fun x5 m6 => bif eqb x5 ((0 : Int32)) then qbI (fX13_is 10124 m6) (fun x7 m8 => bif eqb x7 ((0 : Int32)) then qbI (fX13_is 10125 m8) (fun x9 m10 => bif eqb x9 ((0 : Int32)) then qbI (fX13_is 10126 m10) (fun x11 m12 => bif eqb x11 ((0 : Int32)) then fX13_readAct_37 a1 ((-1 : Int32)) m12 else fX13_readAct_37 a1 ((5 : Int32)) m12) else fX13_readAct_37 a1 ((4 : Int32)) m10) else fX13_readAct_37 a1 ((3 : Int32)) m8) else fX13_readAct_37 a1 ((2 : Int32)) m6) else fX13_readAct_37 a1 ((1 : Int32)) m4) else fX13_readAct_37 a1 ((0 : Int32)) m2)
theorem fX13_readAct_x : ∃ f : Int32 → qM → Option (Option Unit × qM), f = fun a1 m => fX13_readAct_0 a1 m := ⟨_, rfl⟩
noncomputable def fX13_readAct : Int32 → qM → Option (Option Unit × qM) := Classical.choose fX13_readAct_x
theorem fX13_readAct_d : fX13_readAct = fun a1 m => fX13_readAct_0 a1 m := Classical.choose_spec fX13_readAct_x
noncomputable def fX13_readPolicy_43 (k5 : qM → Option (Option Int32 × qM)) : Nat → Int32 → qM → Option (Option Int32 × qM)
  | 0, _, _ => none
  | n + 1, a1, m =>
    qbI (fX13_is 10119 m) (fun x13 m14 => bif eqb x13 ((0 : Int32)) then qbVX (fX13_need 10120 m14) (fun m15 => qbVX (fX13_readAct a1 m15) (fun m17 => qbVX (fX13_close m17) (fun m19 => bif inb ((4 : Int32)) 5 then bif inb ((4 : Int32)) 5 then let m21 := (sI m19 101 (ix ((4 : Int32))) (((gI m19 101 (ix ((4 : Int32)))) + (1 : Int32)))); k5 m21 else none else none) (fun m20 => some (none, m20))) (fun m18 => some (none, m18))) (fun m16 => some (none, m16)) else bif inb a1 40 then bif eqb ((gI m14 104 (ix a1))) ((4 : Int32)) then qbR (fX13_wrong ((4 : Int32)) m14) (fun q25 m26 => bif Nat.beq q25 109 then some (none, m26) else none) (fun m26 => none) else qbV (fX13_scan m14) (fun m22 => qbVX (fX13_readCond a1 m22) (fun m23 => (fX13_readPolicy_43 k5 n) a1 m23) (fun m24 => some (none, m24))) else none)
noncomputable def fX13_readPolicy_5 : Nat → qM → Option (Option Int32 × qM)
  | 0, _ => none
  | n + 1, m =>
    bif eqb ((gI m 98 16)) ((0 : Int32)) then bif inb ((4 : Int32)) 5 then some (some ((gI m 101 (ix ((4 : Int32))))), m) else none else qbI (fX13_is 10101 m) (fun x2 m3 => bif eqb x2 ((0 : Int32)) then qbR (fX13_wrong ((1 : Int32)) m3) (fun q11 m12 => bif Nat.beq q11 109 then some (none, m12) else none) (fun m12 => none) else bif inb ((4 : Int32)) 5 then bif eqb ((gI m3 101 (ix ((4 : Int32))))) ((8 : Int32)) then qbR (fX13_wrong ((4 : Int32)) m3) (fun q9 m10 => bif Nat.beq q9 109 then some (none, m10) else none) (fun m10 => none) else bif inb ((4 : Int32)) 5 then let x4 : Int32 := ((32 : Int32) + (gI m3 101 (ix ((4 : Int32))))); bif inb x4 40 then let m5 := (sI m3 104 (ix x4) ((0 : Int32))); qbV (fX13_scan m5) (fun m6 => qbVX (fX13_readCond x4 m6) (fun m7 => fX13_readPolicy_43 (fX13_readPolicy_5 n) FU x4 m7) (fun m8 => some (none, m8))) else none else none else none)
noncomputable def fX13_readPolicy_0 (m : qM) : Option (Option Int32 × qM) :=
  bif inb ((4 : Int32)) 5 then let m1 := (sI m 101 (ix ((4 : Int32))) ((0 : Int32))); fX13_readPolicy_5 FU m1 else none
theorem fX13_readPolicy_x : ∃ f : qM → Option (Option Int32 × qM), f = fun m => fX13_readPolicy_0 m := ⟨_, rfl⟩
noncomputable def fX13_readPolicy : qM → Option (Option Int32 × qM) := Classical.choose fX13_readPolicy_x
theorem fX13_readPolicy_d : fX13_readPolicy = fun m => fX13_readPolicy_0 m := Classical.choose_spec fX13_readPolicy_x
noncomputable def fX13_lay_2 : Nat → Int32 → Int32 → qM → Option (Unit × qM)
  | 0, _, _, _ => none
  | n + 1, a1, a2, m =>
    bif ltb a2 ((0 : Int32)) then some ((), m) else bif inb ((gI m 98 12)) 400 then let m1 := (sI m 110 (ix ((gI m 98 12))) ((nb ((Int8.toInt32 (Int32.toInt8 ((a1 >>> (a2 &&& 31))))))))); let m2 := (sI m1 98 12 (((gI m1 98 12) + (1 : Int32)))); (fX13_lay_2 n) a1 ((a2 + (-8 : Int32))) m2 else none
noncomputable def fX13_lay_0 (a1 : Int32) (m : qM) : Option (Unit × qM) :=
  fX13_lay_2 FU a1 ((24 : Int32)) m
theorem fX13_lay_x : ∃ f : Int32 → qM → Option (Unit × qM), f = fun a1 m => fX13_lay_0 a1 m := ⟨_, rfl⟩
noncomputable def fX13_lay : Int32 → qM → Option (Unit × qM) := Classical.choose fX13_lay_x
theorem fX13_lay_d : fX13_lay = fun a1 m => fX13_lay_0 a1 m := Classical.choose_spec fX13_lay_x
noncomputable def fX13_feed_0 (a1 : Int32) (a2 : Int32) (a3 : Int32) (a4 : Int32) (a5 : Int32) (m : qM) : Option (Int32 × qM) :=
  bif leb (((gI m 98 12) + (20 : Int32))) ((400 : Int32)) then qbV (fX13_lay a1 m) (fun m1 => qbV (fX13_lay a2 m1) (fun m2 => qbV (fX13_lay a3 m2) (fun m3 => qbV (fX13_lay a4 m3) (fun m4 => qbV (fX13_lay a5 m4) (fun m5 => some ((gI m5 98 12), m5)))))) else some ((-3 : Int32), m)
theorem fX13_feed_x : ∃ f : Int32 → Int32 → Int32 → Int32 → Int32 → qM → Option (Int32 × qM), f = fun a1 a2 a3 a4 a5 m => fX13_feed_0 a1 a2 a3 a4 a5 m := ⟨_, rfl⟩
noncomputable def fX13_feed : Int32 → Int32 → Int32 → Int32 → Int32 → qM → Option (Int32 × qM) := Classical.choose fX13_feed_x
theorem fX13_feed_d : fX13_feed = fun a1 a2 a3 a4 a5 m => fX13_feed_0 a1 a2 a3 a4 a5 m := Classical.choose_spec fX13_feed_x
noncomputable def fX13_end_0 (a1 : Int32) (m : qM) : Option (Int32 × qM) :=
  qbI (fX13_in ((Int32.toInt64 a1)) ((0 : Int64)) ((Int32.toInt64 ((gI m 98 12)))) m) (fun x1 m2 => bif eqb x1 ((0 : Int32)) then some ((-1 : Int32), m2) else let m3 := (sI m2 98 12 a1); some (a1, m3))
theorem fX13_end_x : ∃ f : Int32 → qM → Option (Int32 × qM), f = fun a1 m => fX13_end_0 a1 m := ⟨_, rfl⟩
noncomputable def fX13_end : Int32 → qM → Option (Int32 × qM) := Classical.choose fX13_end_x
theorem fX13_end_d : fX13_end = fun a1 m => fX13_end_0 a1 m := Classical.choose_spec fX13_end_x
noncomputable def fX13_laidMany_18 (k4 : Int32 → Int32 → qM → Option (Int32 × qM)) (a2 : Int32) (s0 : Int32) (s1 : Int32) (m : qM) : Option (Int32 × qM) :=
  k4 ((s1 + s0)) ((a2 + (1 : Int32))) m
noncomputable def fX13_laidMany_4 : Nat → Int32 → Int32 → qM → Option (Int32 × qM)
  | 0, _, _, _ => none
  | n + 1, a1, a2, m =>
    bif leb ((gI m 98 32)) a2 then some (a1, m) else bif inb a2 40 then bif eqb ((gI m 125 (ix a2))) ((-1 : Int32)) then fX13_laidMany_18 (fX13_laidMany_4 n) a2 ((0 : Int32)) a1 m else fX13_laidMany_18 (fX13_laidMany_4 n) a2 ((1 : Int32)) a1 m else none
noncomputable def fX13_laidMany_0 (m : qM) : Option (Int32 × qM) :=
  fX13_laidMany_4 FU ((0 : Int32)) ((0 : Int32)) m
theorem fX13_laidMany_x : ∃ f : qM → Option (Int32 × qM), f = fun m => fX13_laidMany_0 m := ⟨_, rfl⟩
noncomputable def fX13_laidMany : qM → Option (Int32 × qM) := Classical.choose fX13_laidMany_x
theorem fX13_laidMany_d : fX13_laidMany = fun m => fX13_laidMany_0 m := Classical.choose_spec fX13_laidMany_x
noncomputable def fX13_isFixed_9 (s0 : Int32) (m : qM) : Option (Int32 × qM) :=
  some (nz s0, m)
noncomputable def fX13_isFixed_6 (m : qM) : Option (Int32 × qM) :=
  fX13_isFixed_9 ((1 : Int32)) m
noncomputable def fX13_isFixed_0 (m : qM) : Option (Int32 × qM) :=
  bif eqb ((gI m 98 33)) ((0 : Int32)) then qbI (fX13_laidMany m) (fun x1 m2 => bif leb x1 ((0 : Int32)) then fX13_isFixed_9 ((0 : Int32)) m2 else fX13_isFixed_6 m2) else fX13_isFixed_6 m
theorem fX13_isFixed_x : ∃ f : qM → Option (Int32 × qM), f = fun m => fX13_isFixed_0 m := ⟨_, rfl⟩
noncomputable def fX13_isFixed : qM → Option (Int32 × qM) := Classical.choose fX13_isFixed_x
theorem fX13_isFixed_d : fX13_isFixed = fun m => fX13_isFixed_0 m := Classical.choose_spec fX13_isFixed_x
noncomputable def fX13_rules_24 : Nat → Int32 → Int32 → qM → Option (Int32 × qM)
  | 0, _, _, _ => none
  | n + 1, a1, a2, m =>
    bif leb ((6 : Int32)) a2 then some (a1, m) else bif inb a2 6 then bif inb a2 6 then let m10 := (sI m 99 (ix a2) ((gI m 100 (ix a2)))); (fX13_rules_24 n) a1 ((a2 + (1 : Int32))) m10 else none else none
noncomputable def fX13_rules_0 (m : qM) : Option (Int32 × qM) :=
  qbV (fX13_open m) (fun m1 => qbI (fX13_isFixed m1) (fun x2 m3 => bif eqb x2 ((0 : Int32)) then let m4 := (sI m3 98 18 ((0 : Int32))); let m5 := (sI m4 98 19 ((-1 : Int32))); qbV (fX13_scan m5) (fun m6 => qbIX (fX13_readRules m6) (fun x9 m7 => fX13_rules_24 FU x9 ((0 : Int32)) m7) (fun m8 => some ((-1 : Int32), m8))) else some ((-4 : Int32), m3)))
theorem fX13_rules_x : ∃ f : qM → Option (Int32 × qM), f = fun m => fX13_rules_0 m := ⟨_, rfl⟩
noncomputable def fX13_rules : qM → Option (Int32 × qM) := Classical.choose fX13_rules_x
theorem fX13_rules_d : fX13_rules = fun m => fX13_rules_0 m := Classical.choose_spec fX13_rules_x
noncomputable def fX13_rule_12 (s0 : Int32) (m : qM) : Option (Int32 × qM) :=
  some (s0, m)
noncomputable def fX13_rule_0 (a1 : Int32) (m : qM) : Option (Int32 × qM) :=
  qbI (fX13_in ((Int32.toInt64 a1)) ((0 : Int64)) ((5 : Int64)) m) (fun x1 m2 => bif eqb x1 ((0 : Int32)) then fX13_rule_12 ((-9 : Int32)) m2 else bif inb a1 6 then fX13_rule_12 ((gI m2 99 (ix a1))) m2 else none)
theorem fX13_rule_x : ∃ f : Int32 → qM → Option (Int32 × qM), f = fun a1 m => fX13_rule_0 a1 m := ⟨_, rfl⟩
noncomputable def fX13_rule : Int32 → qM → Option (Int32 × qM) := Classical.choose fX13_rule_x
theorem fX13_rule_d : fX13_rule = fun a1 m => fX13_rule_0 a1 m := Classical.choose_spec fX13_rule_x
noncomputable def fX13_policy_76 (k37 : Int32 → Int32 → Int32 → qM → Option (Int32 × qM)) : Nat → Int32 → Int32 → Int32 → Int32 → Int32 → Int32 → qM → Option (Int32 × qM)
  | 0, _, _, _, _, _, _, _ => none
  | n + 1, a1, a2, a3, a4, a5, a6, m =>
    bif leb ((4 : Int32)) a6 then k37 a1 a2 ((a3 + (1 : Int32))) m else bif inb ((((4 : Int32) * a5) + a6)) 160 then bif inb ((((4 : Int32) * a4) + a6)) 160 then let m14 := (sI m 105 (ix ((((4 : Int32) * a4) + a6))) ((gI m 105 (ix ((((4 : Int32) * a5) + a6)))))); bif inb ((((4 : Int32) * a5) + a6)) 160 then bif inb ((((4 : Int32) * a4) + a6)) 160 then let m15 := (sI m14 106 (ix ((((4 : Int32) * a4) + a6))) ((gI m14 106 (ix ((((4 : Int32) * a5) + a6)))))); bif inb ((((4 : Int32) * a5) + a6)) 160 then bif inb ((((4 : Int32) * a4) + a6)) 160 then let m16 := (sI m15 107 (ix ((((4 : Int32) * a4) + a6))) ((gI m15 107 (ix ((((4 : Int32) * a5) + a6)))))); (fX13_policy_76 k37 n) a1 a2 a3 a4 a5 ((a6 + (1 : Int32))) m16 else none else none else none else none else none else none
noncomputable def fX13_policy_37 : Nat → Int32 → Int32 → Int32 → qM → Option (Int32 × qM)
  | 0, _, _, _, _ => none
  | n + 1, a1, a2, a3, m =>
    bif leb a2 a3 then some (a2, m) else bif inb (((32 : Int32) + a3)) 40 then bif inb ((((8 : Int32) * a1) + a3)) 40 then let m11 := (sI m 102 (ix ((((8 : Int32) * a1) + a3))) ((gI m 102 (ix (((32 : Int32) + a3)))))); bif inb (((32 : Int32) + a3)) 40 then bif inb ((((8 : Int32) * a1) + a3)) 40 then let m12 := (sI m11 103 (ix ((((8 : Int32) * a1) + a3))) ((gI m11 103 (ix (((32 : Int32) + a3)))))); bif inb (((32 : Int32) + a3)) 40 then bif inb ((((8 : Int32) * a1) + a3)) 40 then let m13 := (sI m12 104 (ix ((((8 : Int32) * a1) + a3))) ((gI m12 104 (ix (((32 : Int32) + a3)))))); fX13_policy_76 (fX13_policy_37 n) FU a1 a2 a3 ((((8 : Int32) * a1) + a3)) (((32 : Int32) + a3)) ((0 : Int32)) m13 else none else none else none else none else none else none
noncomputable def fX13_policy_0 (a1 : Int32) (m : qM) : Option (Int32 × qM) :=
  qbV (fX13_open m) (fun m1 => qbI (fX13_in ((Int32.toInt64 a1)) ((0 : Int64)) ((3 : Int64)) m1) (fun x2 m3 => bif eqb x2 ((0 : Int32)) then some ((-2 : Int32), m3) else bif eqb ((gI m3 98 33)) ((0 : Int32)) then let m4 := (sI m3 98 18 ((0 : Int32))); let m5 := (sI m4 98 19 ((-1 : Int32))); qbV (fX13_scan m5) (fun m6 => qbIX (fX13_readPolicy m6) (fun x9 m7 => bif inb a1 5 then let m10 := (sI m7 101 (ix a1) x9); fX13_policy_37 FU a1 x9 ((0 : Int32)) m10 else none) (fun m8 => some ((-1 : Int32), m8))) else some ((-4 : Int32), m3)))
theorem fX13_policy_x : ∃ f : Int32 → qM → Option (Int32 × qM), f = fun a1 m => fX13_policy_0 a1 m := ⟨_, rfl⟩
noncomputable def fX13_policy : Int32 → qM → Option (Int32 × qM) := Classical.choose fX13_policy_x
theorem fX13_policy_d : fX13_policy = fun a1 m => fX13_policy_0 a1 m := Classical.choose_spec fX13_policy_x
noncomputable def fX13_isTeacher_0 (a0 : Int32) (m : qM) : Option (Int32 × qM) :=
  qbI (fX13_in ((Int32.toInt64 a0)) ((0 : Int64)) ((9 : Int64)) m) (fun x1 m2 => some (nz x1, m2))
theorem fX13_isTeacher_x : ∃ f : Int32 → qM → Option (Int32 × qM), f = fun a0 m => fX13_isTeacher_0 a0 m := ⟨_, rfl⟩
noncomputable def fX13_isTeacher : Int32 → qM → Option (Int32 × qM) := Classical.choose fX13_isTeacher_x
theorem fX13_isTeacher_d : fX13_isTeacher = fun a0 m => fX13_isTeacher_0 a0 m := Classical.choose_spec fX13_isTeacher_x
noncomputable def fX13_follow_9 (m : qM) : Option (Int32 × qM) :=
  some ((-2 : Int32), m)
noncomputable def fX13_follow_0 (a1 : Int32) (a2 : Int32) (m : qM) : Option (Int32 × qM) :=
  qbI (fX13_isTeacher a1 m) (fun x1 m2 => bif eqb x1 ((0 : Int32)) then fX13_follow_9 m2 else qbI (fX13_in ((Int32.toInt64 a2)) ((-1 : Int64)) ((3 : Int64)) m2) (fun x3 m4 => bif eqb x3 ((0 : Int32)) then fX13_follow_9 m4 else bif inb a1 10 then bif inb a1 10 then let m5 := (sI m4 108 (ix a1) a2); some ((gI m4 108 (ix a1)), m5) else none else none))
theorem fX13_follow_x : ∃ f : Int32 → Int32 → qM → Option (Int32 × qM), f = fun a1 a2 m => fX13_follow_0 a1 a2 m := ⟨_, rfl⟩
noncomputable def fX13_follow : Int32 → Int32 → qM → Option (Int32 × qM) := Classical.choose fX13_follow_x
theorem fX13_follow_d : fX13_follow = fun a1 a2 m => fX13_follow_0 a1 a2 m := Classical.choose_spec fX13_follow_x
noncomputable def fX13_fault_12 (s0 : Int32) (m : qM) : Option (Int32 × qM) :=
  some (s0, m)
noncomputable def fX13_fault_0 (a1 : Int32) (m : qM) : Option (Int32 × qM) :=
  bif eqb a1 ((0 : Int32)) then fX13_fault_12 ((gI m 98 18)) m else bif eqb a1 ((1 : Int32)) then fX13_fault_12 ((gI m 98 19)) m else fX13_fault_12 ((-1 : Int32)) m
theorem fX13_fault_x : ∃ f : Int32 → qM → Option (Int32 × qM), f = fun a1 m => fX13_fault_0 a1 m := ⟨_, rfl⟩
noncomputable def fX13_fault : Int32 → qM → Option (Int32 × qM) := Classical.choose fX13_fault_x
theorem fX13_fault_d : fX13_fault = fun a1 m => fX13_fault_0 a1 m := Classical.choose_spec fX13_fault_x
noncomputable def fX13_isFamily_0 (a0 : Int32) (m : qM) : Option (Int32 × qM) :=
  qbI (fX13_in ((Int32.toInt64 a0)) ((0 : Int64)) ((14 : Int64)) m) (fun x1 m2 => some (nz x1, m2))
theorem fX13_isFamily_x : ∃ f : Int32 → qM → Option (Int32 × qM), f = fun a0 m => fX13_isFamily_0 a0 m := ⟨_, rfl⟩
noncomputable def fX13_isFamily : Int32 → qM → Option (Int32 × qM) := Classical.choose fX13_isFamily_x
theorem fX13_isFamily_d : fX13_isFamily = fun a0 m => fX13_isFamily_0 a0 m := Classical.choose_spec fX13_isFamily_x
noncomputable def fX13_isSlot_0 (a0 : Int32) (m : qM) : Option (Int32 × qM) :=
  qbI (fX13_in ((Int32.toInt64 a0)) ((0 : Int64)) ((19 : Int64)) m) (fun x1 m2 => some (nz x1, m2))
theorem fX13_isSlot_x : ∃ f : Int32 → qM → Option (Int32 × qM), f = fun a0 m => fX13_isSlot_0 a0 m := ⟨_, rfl⟩
noncomputable def fX13_isSlot : Int32 → qM → Option (Int32 × qM) := Classical.choose fX13_isSlot_x
theorem fX13_isSlot_d : fX13_isSlot = fun a0 m => fX13_isSlot_0 a0 m := Classical.choose_spec fX13_isSlot_x
noncomputable def fX13_areSlots_13 (s0 : Int32) (m : qM) : Option (Int32 × qM) :=
  some (nz s0, m)
noncomputable def fX13_areSlots_12 (m : qM) : Option (Int32 × qM) :=
  fX13_areSlots_13 ((0 : Int32)) m
noncomputable def fX13_areSlots_0 (a0 : Int32) (a1 : Int32) (m : qM) : Option (Int32 × qM) :=
  qbI (fX13_isSlot a0 m) (fun x1 m2 => bif eqb x1 ((0 : Int32)) then fX13_areSlots_12 m2 else qbI (fX13_in ((Int32.toInt64 a1)) ((Int32.toInt64 a0)) ((19 : Int64)) m2) (fun x3 m4 => bif eqb x3 ((0 : Int32)) then fX13_areSlots_12 m4 else fX13_areSlots_13 ((1 : Int32)) m4))
theorem fX13_areSlots_x : ∃ f : Int32 → Int32 → qM → Option (Int32 × qM), f = fun a0 a1 m => fX13_areSlots_0 a0 a1 m := ⟨_, rfl⟩
noncomputable def fX13_areSlots : Int32 → Int32 → qM → Option (Int32 × qM) := Classical.choose fX13_areSlots_x
theorem fX13_areSlots_d : fX13_areSlots = fun a0 a1 m => fX13_areSlots_0 a0 a1 m := Classical.choose_spec fX13_areSlots_x
noncomputable def fX13_room_15 (m : qM) : Option (Int32 × qM) :=
  some ((-2 : Int32), m)
noncomputable def fX13_room_0 (a1 : Int32) (a2 : Int32) (a3 : Int32) (m : qM) : Option (Int32 × qM) :=
  qbI (fX13_isTeacher a1 m) (fun x1 m2 => bif eqb x1 ((0 : Int32)) then fX13_room_15 m2 else qbI (fX13_in ((Int32.toInt64 a2)) ((0 : Int64)) ((9 : Int64)) m2) (fun x3 m4 => bif eqb x3 ((0 : Int32)) then fX13_room_15 m4 else qbI (fX13_in ((Int32.toInt64 a3)) ((0 : Int64)) ((9 : Int64)) m4) (fun x5 m6 => bif eqb x5 ((0 : Int32)) then fX13_room_15 m6 else qbI (fX13_isFixed m6) (fun x7 m8 => bif eqb x7 ((0 : Int32)) then bif inb a1 10 then let m9 := (sI m8 112 (ix a1) a2); bif inb a1 10 then let m10 := (sI m9 113 (ix a1) a3); some ((1 : Int32), m10) else none else none else some ((-4 : Int32), m8)))))
theorem fX13_room_x : ∃ f : Int32 → Int32 → Int32 → qM → Option (Int32 × qM), f = fun a1 a2 a3 m => fX13_room_0 a1 a2 a3 m := ⟨_, rfl⟩
noncomputable def fX13_room : Int32 → Int32 → Int32 → qM → Option (Int32 × qM) := Classical.choose fX13_room_x
theorem fX13_room_d : fX13_room = fun a1 a2 a3 m => fX13_room_0 a1 a2 a3 m := Classical.choose_spec fX13_room_x
noncomputable def fX13_teacher_7 (m : qM) : Option (Int32 × qM) :=
  some ((-2 : Int32), m)
noncomputable def fX13_teacher_0 (a1 : Int32) (a2 : Int32) (a3 : Int32) (m : qM) : Option (Int32 × qM) :=
  qbI (fX13_isTeacher a1 m) (fun x1 m2 => bif eqb x1 ((0 : Int32)) then fX13_teacher_7 m2 else qbI (fX13_areSlots a2 a3 m2) (fun x3 m4 => bif eqb x3 ((0 : Int32)) then fX13_teacher_7 m4 else qbI (fX13_isFixed m4) (fun x5 m6 => bif eqb x5 ((0 : Int32)) then bif inb a1 10 then let m7 := (sI m6 114 (ix a1) a2); bif inb a1 10 then let m8 := (sI m7 115 (ix a1) a3); some ((1 : Int32), m8) else none else none else some ((-4 : Int32), m6))))
theorem fX13_teacher_x : ∃ f : Int32 → Int32 → Int32 → qM → Option (Int32 × qM), f = fun a1 a2 a3 m => fX13_teacher_0 a1 a2 a3 m := ⟨_, rfl⟩
noncomputable def fX13_teacher : Int32 → Int32 → Int32 → qM → Option (Int32 × qM) := Classical.choose fX13_teacher_x
theorem fX13_teacher_d : fX13_teacher = fun a1 a2 a3 m => fX13_teacher_0 a1 a2 a3 m := Classical.choose_spec fX13_teacher_x
noncomputable def fX13_family_13 (m : qM) : Option (Int32 × qM) :=
  some ((-2 : Int32), m)
noncomputable def fX13_family_0 (a1 : Int32) (a2 : Int32) (a3 : Int32) (a4 : Int32) (m : qM) : Option (Int32 × qM) :=
  qbI (fX13_isFamily a1 m) (fun x1 m2 => bif eqb x1 ((0 : Int32)) then fX13_family_13 m2 else qbI (fX13_areSlots a2 a3 m2) (fun x3 m4 => bif eqb x3 ((0 : Int32)) then fX13_family_13 m4 else qbI (fX13_in ((Int32.toInt64 a4)) ((0 : Int64)) ((3 : Int64)) m4) (fun x5 m6 => bif eqb x5 ((0 : Int32)) then fX13_family_13 m6 else qbI (fX13_isFixed m6) (fun x7 m8 => bif eqb x7 ((0 : Int32)) then bif inb a1 15 then let m9 := (sI m8 116 (ix a1) a2); bif inb a1 15 then let m10 := (sI m9 117 (ix a1) a3); bif inb a1 15 then let m11 := (sI m10 118 (ix a1) a4); some ((1 : Int32), m11) else none else none else none else some ((-4 : Int32), m8)))))
theorem fX13_family_x : ∃ f : Int32 → Int32 → Int32 → Int32 → qM → Option (Int32 × qM), f = fun a1 a2 a3 a4 m => fX13_family_0 a1 a2 a3 a4 m := ⟨_, rfl⟩
noncomputable def fX13_family : Int32 → Int32 → Int32 → Int32 → qM → Option (Int32 × qM) := Classical.choose fX13_family_x
theorem fX13_family_d : fX13_family = fun a1 a2 a3 a4 m => fX13_family_0 a1 a2 a3 a4 m := Classical.choose_spec fX13_family_x
noncomputable def fX13_wish_13 (m : qM) : Option (Int32 × qM) :=
  some ((-2 : Int32), m)
noncomputable def fX13_wish_0 (a1 : Int32) (a2 : Int32) (a3 : Int32) (a4 : Int32) (m : qM) : Option (Int32 × qM) :=
  qbI (fX13_isFamily a1 m) (fun x1 m2 => bif eqb x1 ((0 : Int32)) then fX13_wish_13 m2 else qbI (fX13_areSlots a2 a3 m2) (fun x3 m4 => bif eqb x3 ((0 : Int32)) then fX13_wish_13 m4 else qbI (fX13_in ((Int32.toInt64 a4)) ((0 : Int64)) ((9 : Int64)) m4) (fun x5 m6 => bif eqb x5 ((0 : Int32)) then fX13_wish_13 m6 else qbI (fX13_isFixed m6) (fun x7 m8 => bif eqb x7 ((0 : Int32)) then bif inb a1 15 then let m9 := (sI m8 119 (ix a1) a2); bif inb a1 15 then let m10 := (sI m9 120 (ix a1) a3); bif inb a1 15 then let m11 := (sI m10 121 (ix a1) a4); some ((1 : Int32), m11) else none else none else none else some ((-4 : Int32), m8)))))
theorem fX13_wish_x : ∃ f : Int32 → Int32 → Int32 → Int32 → qM → Option (Int32 × qM), f = fun a1 a2 a3 a4 m => fX13_wish_0 a1 a2 a3 a4 m := ⟨_, rfl⟩
noncomputable def fX13_wish : Int32 → Int32 → Int32 → Int32 → qM → Option (Int32 × qM) := Classical.choose fX13_wish_x
theorem fX13_wish_d : fX13_wish = fun a1 a2 a3 a4 m => fX13_wish_0 a1 a2 a3 a4 m := Classical.choose_spec fX13_wish_x
noncomputable def fX13_apart_9 (m : qM) : Option (Int32 × qM) :=
  some ((-2 : Int32), m)
noncomputable def fX13_apart_49 (s0 : Int32) (m : qM) : Option (Int32 × qM) :=
  some (s0, m)
noncomputable def fX13_apart_0 (a1 : Int32) (a2 : Int32) (a3 : Int32) (m : qM) : Option (Int32 × qM) :=
  qbI (fX13_isFamily a1 m) (fun x1 m2 => bif eqb x1 ((0 : Int32)) then fX13_apart_9 m2 else qbI (fX13_isFamily a2 m2) (fun x3 m4 => bif eqb x3 ((0 : Int32)) then fX13_apart_9 m4 else bif eqb a1 a2 then fX13_apart_9 m4 else qbI (fX13_isFixed m4) (fun x5 m6 => bif eqb x5 ((0 : Int32)) then bif inb ((((15 : Int32) * a1) + a2)) 225 then let x7 : Int32 := (gI m6 122 (ix ((((15 : Int32) * a1) + a2)))); bif inb ((((15 : Int32) * a1) + a2)) 225 then let m8 := (sI m6 122 (ix ((((15 : Int32) * a1) + a2))) ((nz a3))); bif inb ((((15 : Int32) * a2) + a1)) 225 then let m9 := (sI m8 122 (ix ((((15 : Int32) * a2) + a1))) ((nz a3))); bif eqb x7 a3 then fX13_apart_49 ((0 : Int32)) m9 else fX13_apart_49 ((1 : Int32)) m9 else none else none else none else some ((-4 : Int32), m6))))
theorem fX13_apart_x : ∃ f : Int32 → Int32 → Int32 → qM → Option (Int32 × qM), f = fun a1 a2 a3 m => fX13_apart_0 a1 a2 a3 m := ⟨_, rfl⟩
noncomputable def fX13_apart : Int32 → Int32 → Int32 → qM → Option (Int32 × qM) := Classical.choose fX13_apart_x
theorem fX13_apart_d : fX13_apart = fun a1 a2 a3 m => fX13_apart_0 a1 a2 a3 m := Classical.choose_spec fX13_apart_x
noncomputable def fX13_walkOf_45 (s0 : Int32) (s1 : Int32) (m : qM) : Option (Int32 × qM) :=
  some ((s1 + s0), m)
noncomputable def fX13_walkOf_21 (a1 : Int32) (a2 : Int32) (s0 : Int32) (m : qM) : Option (Int32 × qM) :=
  bif inb ((1 : Int32)) 6 then bif inb a1 10 then bif inb a2 10 then qbI (fJ9_abs_0f7a4 (((gI m 113 (ix a1)) - (gI m 113 (ix a2)))) m) (fun x1 m2 => bif eqb s0 ((0 : Int32)) then fX13_walkOf_45 ((0 : Int32)) (((gI m 99 (ix ((1 : Int32)))) * x1)) m2 else bif inb ((2 : Int32)) 6 then fX13_walkOf_45 ((gI m2 99 (ix ((2 : Int32))))) (((gI m 99 (ix ((1 : Int32)))) * x1)) m2 else none) else none else none else none
noncomputable def fX13_walkOf_18 (a1 : Int32) (a2 : Int32) (m : qM) : Option (Int32 × qM) :=
  fX13_walkOf_21 a1 a2 ((1 : Int32)) m
noncomputable def fX13_walkOf_0 (a1 : Int32) (a2 : Int32) (m : qM) : Option (Int32 × qM) :=
  bif inb a1 10 then bif inb a2 10 then bif eqb ((gI m 112 (ix a1))) ((gI m 112 (ix a2))) then bif inb a1 10 then bif inb a2 10 then bif eqb ((gI m 113 (ix a1))) ((gI m 113 (ix a2))) then fX13_walkOf_21 a1 a2 ((0 : Int32)) m else fX13_walkOf_18 a1 a2 m else none else none else fX13_walkOf_18 a1 a2 m else none else none
theorem fX13_walkOf_x : ∃ f : Int32 → Int32 → qM → Option (Int32 × qM), f = fun a1 a2 m => fX13_walkOf_0 a1 a2 m := ⟨_, rfl⟩
noncomputable def fX13_walkOf : Int32 → Int32 → qM → Option (Int32 × qM) := Classical.choose fX13_walkOf_x
theorem fX13_walkOf_d : fX13_walkOf = fun a1 a2 m => fX13_walkOf_0 a1 a2 m := Classical.choose_spec fX13_walkOf_x
noncomputable def fX13_walk_12 (s0 : Int32) (m : qM) : Option (Int32 × qM) :=
  some (s0, m)
noncomputable def fX13_walk_11 (m : qM) : Option (Int32 × qM) :=
  fX13_walk_12 ((-2 : Int32)) m
noncomputable def fX13_walk_0 (a1 : Int32) (a2 : Int32) (m : qM) : Option (Int32 × qM) :=
  qbI (fX13_isTeacher a1 m) (fun x1 m2 => bif eqb x1 ((0 : Int32)) then fX13_walk_11 m2 else qbI (fX13_isTeacher a2 m2) (fun x3 m4 => bif eqb x3 ((0 : Int32)) then fX13_walk_11 m4 else qbI (fX13_walkOf a1 a2 m4) (fun x5 m6 => fX13_walk_12 x5 m6)))
theorem fX13_walk_x : ∃ f : Int32 → Int32 → qM → Option (Int32 × qM), f = fun a1 a2 m => fX13_walk_0 a1 a2 m := ⟨_, rfl⟩
noncomputable def fX13_walk : Int32 → Int32 → qM → Option (Int32 × qM) := Classical.choose fX13_walk_x
theorem fX13_walk_d : fX13_walk = fun a1 a2 m => fX13_walk_0 a1 a2 m := Classical.choose_spec fX13_walk_x
noncomputable def fX13_ask_6 (m : qM) : Option (Int32 × qM) :=
  some ((-2 : Int32), m)
noncomputable def fX13_ask_33 (k15 : Int32 → Int32 → Int32 → Int32 → qM → Option (Int32 × qM)) (a1 : Int32) (a2 : Int32) (a3 : Int32) (a4 : Int32) (m : qM) : Option (Int32 × qM) :=
  k15 a1 a2 a3 ((a4 + (1 : Int32))) m
noncomputable def fX13_ask_15 : Nat → Int32 → Int32 → Int32 → Int32 → qM → Option (Int32 × qM)
  | 0, _, _, _, _, _ => none
  | n + 1, a1, a2, a3, a4, m =>
    bif leb ((gI m 98 32)) a4 then bif eqb ((gI m 98 32)) ((40 : Int32)) then some ((-3 : Int32), m) else bif inb ((gI m 98 32)) 40 then let m5 := (sI m 123 (ix ((gI m 98 32))) a1); bif inb ((gI m5 98 32)) 40 then let m6 := (sI m5 124 (ix ((gI m5 98 32))) a2); bif inb ((gI m6 98 32)) 40 then let m7 := (sI m6 126 (ix ((gI m6 98 32))) ((nz a3))); bif inb ((gI m7 98 32)) 40 then let m8 := (sI m7 125 (ix ((gI m7 98 32))) ((-1 : Int32))); let m9 := (sI m8 98 32 (((gI m8 98 32) + (1 : Int32)))); some (((gI m9 98 32) - (1 : Int32)), m9) else none else none else none else none else bif inb a4 40 then bif eqb ((gI m 123 (ix a4))) a1 then bif inb a4 40 then bif eqb ((gI m 124 (ix a4))) a2 then some ((-4 : Int32), m) else fX13_ask_33 (fX13_ask_15 n) a1 a2 a3 a4 m else none else fX13_ask_33 (fX13_ask_15 n) a1 a2 a3 a4 m else none
noncomputable def fX13_ask_0 (a1 : Int32) (a2 : Int32) (a3 : Int32) (m : qM) : Option (Int32 × qM) :=
  qbI (fX13_isFamily a1 m) (fun x1 m2 => bif eqb x1 ((0 : Int32)) then fX13_ask_6 m2 else qbI (fX13_isTeacher a2 m2) (fun x3 m4 => bif eqb x3 ((0 : Int32)) then fX13_ask_6 m4 else bif eqb ((gI m4 98 33)) ((0 : Int32)) then fX13_ask_15 FU a1 a2 a3 ((0 : Int32)) m4 else some ((-4 : Int32), m4)))
theorem fX13_ask_x : ∃ f : Int32 → Int32 → Int32 → qM → Option (Int32 × qM), f = fun a1 a2 a3 m => fX13_ask_0 a1 a2 a3 m := ⟨_, rfl⟩
noncomputable def fX13_ask : Int32 → Int32 → Int32 → qM → Option (Int32 × qM) := Classical.choose fX13_ask_x
theorem fX13_ask_d : fX13_ask = fun a1 a2 a3 m => fX13_ask_0 a1 a2 a3 m := Classical.choose_spec fX13_ask_x
noncomputable def fX13_isAsk_0 (a1 : Int32) (m : qM) : Option (Int32 × qM) :=
  qbI (fX13_in ((Int32.toInt64 a1)) ((0 : Int64)) (((Int32.toInt64 ((gI m 98 32))) - (1 : Int64))) m) (fun x1 m2 => some (nz x1, m2))
theorem fX13_isAsk_x : ∃ f : Int32 → qM → Option (Int32 × qM), f = fun a1 m => fX13_isAsk_0 a1 m := ⟨_, rfl⟩
noncomputable def fX13_isAsk : Int32 → qM → Option (Int32 × qM) := Classical.choose fX13_isAsk_x
theorem fX13_isAsk_d : fX13_isAsk = fun a1 m => fX13_isAsk_0 a1 m := Classical.choose_spec fX13_isAsk_x
noncomputable def fX13_hasTeacher_20 (k2 : Int32 → Int32 → Int32 → qM → Option (Int32 × qM)) (a1 : Int32) (a2 : Int32) (a3 : Int32) (m : qM) : Option (Int32 × qM) :=
  k2 a1 a2 ((a3 + (1 : Int32))) m
noncomputable def fX13_hasTeacher_2 : Nat → Int32 → Int32 → Int32 → qM → Option (Int32 × qM)
  | 0, _, _, _, _ => none
  | n + 1, a1, a2, a3, m =>
    bif leb ((gI m 98 32)) a3 then some (nz ((0 : Int32)), m) else bif inb a3 40 then bif eqb ((gI m 124 (ix a3))) a1 then bif inb a3 40 then bif eqb ((gI m 125 (ix a3))) a2 then some (nz ((1 : Int32)), m) else fX13_hasTeacher_20 (fX13_hasTeacher_2 n) a1 a2 a3 m else none else fX13_hasTeacher_20 (fX13_hasTeacher_2 n) a1 a2 a3 m else none
noncomputable def fX13_hasTeacher_0 (a1 : Int32) (a2 : Int32) (m : qM) : Option (Int32 × qM) :=
  fX13_hasTeacher_2 FU a1 a2 ((0 : Int32)) m
theorem fX13_hasTeacher_x : ∃ f : Int32 → Int32 → qM → Option (Int32 × qM), f = fun a1 a2 m => fX13_hasTeacher_0 a1 a2 m := ⟨_, rfl⟩
noncomputable def fX13_hasTeacher : Int32 → Int32 → qM → Option (Int32 × qM) := Classical.choose fX13_hasTeacher_x
theorem fX13_hasTeacher_d : fX13_hasTeacher = fun a1 a2 m => fX13_hasTeacher_0 a1 a2 m := Classical.choose_spec fX13_hasTeacher_x
noncomputable def fX13_mayBe_38 (m : qM) : Option (Int32 × qM) :=
  some (nz ((0 : Int32)), m)
noncomputable def fX13_mayBe_141 (k42 : Int32 → Int32 → Int32 → Int32 → Int32 → qM → Option (Int32 × qM)) (a1 : Int32) (a2 : Int32) (a3 : Int32) (a4 : Int32) (a5 : Int32) (m : qM) : Option (Int32 × qM) :=
  k42 a1 a2 a3 a4 ((a5 + (1 : Int32))) m
noncomputable def fX13_mayBe_124 (k42 : Int32 → Int32 → Int32 → Int32 → Int32 → qM → Option (Int32 × qM)) (a1 : Int32) (a2 : Int32) (a3 : Int32) (a4 : Int32) (a5 : Int32) (a6 : Int32) (a7 : Int32) (m : qM) : Option (Int32 × qM) :=
  bif inb ((((15 : Int32) * a3) + a7)) 225 then bif eqb ((gI m 122 (ix ((((15 : Int32) * a3) + a7))))) ((0 : Int32)) then fX13_mayBe_141 k42 a1 a2 a3 a4 a5 m else bif inb ((5 : Int32)) 6 then bif ltb ((gI m 99 (ix ((5 : Int32))))) a6 then fX13_mayBe_141 k42 a1 a2 a3 a4 a5 m else some (nz ((0 : Int32)), m) else none else none
noncomputable def fX13_mayBe_96 (k42 : Int32 → Int32 → Int32 → Int32 → Int32 → qM → Option (Int32 × qM)) (a1 : Int32) (a2 : Int32) (a3 : Int32) (a4 : Int32) (a5 : Int32) (a6 : Int32) (a7 : Int32) (m : qM) : Option (Int32 × qM) :=
  bif eqb a7 a3 then bif inb a5 40 then qbI (fX13_walkOf a4 ((gI m 124 (ix a5))) m) (fun x7 m8 => bif inb ((0 : Int32)) 6 then bif inb ((0 : Int32)) 6 then bif eqb ((gI m8 99 (ix ((0 : Int32))))) (0 : Int32) then none else bif leb ((((x7 + (gI m8 99 (ix ((0 : Int32))))) - (1 : Int32)) / (gI m8 99 (ix ((0 : Int32)))))) ((a6 - (1 : Int32))) then fX13_mayBe_124 k42 a1 a2 a3 a4 a5 a6 a7 m8 else some (nz ((0 : Int32)), m8) else none else none) else none else fX13_mayBe_124 k42 a1 a2 a3 a4 a5 a6 a7 m
noncomputable def fX13_mayBe_42 (k156 : Int32 → Int32 → Int32 → Int32 → qM → Option (Int32 × qM)) (k94 : qM → Option (Int32 × qM)) : Nat → Int32 → Int32 → Int32 → Int32 → Int32 → qM → Option (Int32 × qM)
  | 0, _, _, _, _, _, _ => none
  | n + 1, a1, a2, a3, a4, a5, m =>
    bif leb ((gI m 98 32)) a5 then bif inb ((4 : Int32)) 6 then bif eqb ((gI m 99 (ix ((4 : Int32))))) ((0 : Int32)) then some (nz ((1 : Int32)), m) else k156 a2 a4 ((1 : Int32)) ((a2 - (1 : Int32))) m else none else bif eqb a5 a1 then fX13_mayBe_141 (fX13_mayBe_42 k156 k94 n) a1 a2 a3 a4 a5 m else bif inb a5 40 then bif eqb ((gI m 125 (ix a5))) ((-1 : Int32)) then fX13_mayBe_141 (fX13_mayBe_42 k156 k94 n) a1 a2 a3 a4 a5 m else bif inb a5 40 then qbI (fJ9_abs_0f7a4 (((gI m 125 (ix a5)) - a2)) m) (fun x5 m6 => bif inb a5 40 then bif eqb x5 ((0 : Int32)) then bif eqb ((gI m6 123 (ix a5))) a3 then k94 m6 else bif inb a5 40 then bif eqb ((gI m6 124 (ix a5))) a4 then k94 m6 else bif inb a3 15 then bif leb ((gI m6 118 (ix a3))) ((0 : Int32)) then fX13_mayBe_96 (fX13_mayBe_42 k156 k94 n) a1 a2 a3 a4 a5 x5 ((gI m6 123 (ix a5))) m6 else bif inb ((gI m6 123 (ix a5))) 15 then bif inb a3 15 then bif eqb ((gI m6 118 (ix ((gI m6 123 (ix a5)))))) ((gI m6 118 (ix a3))) then k94 m6 else fX13_mayBe_96 (fX13_mayBe_42 k156 k94 n) a1 a2 a3 a4 a5 x5 ((gI m6 123 (ix a5))) m6 else none else none else none else none else fX13_mayBe_96 (fX13_mayBe_42 k156 k94 n) a1 a2 a3 a4 a5 x5 ((gI m6 123 (ix a5))) m6 else none) else none else none
noncomputable def fX13_mayBe_156 (k166 : Int32 → Int32 → Int32 → qM → Option (Int32 × qM)) : Nat → Int32 → Int32 → Int32 → Int32 → qM → Option (Int32 × qM)
  | 0, _, _, _, _, _ => none
  | n + 1, a2, a4, a5, a6, m =>
    bif ltb a6 ((0 : Int32)) then k166 a2 a4 a5 m else qbI (fX13_hasTeacher a4 a6 m) (fun x9 m10 => bif eqb x9 ((0 : Int32)) then k166 a2 a4 a5 m10 else (fX13_mayBe_156 k166 n) a2 a4 ((a5 + (1 : Int32))) ((a6 + (-1 : Int32))) m10)
noncomputable def fX13_mayBe_170 (k181 : Int32 → qM → Option (Int32 × qM)) : Nat → Int32 → Int32 → Int32 → qM → Option (Int32 × qM)
  | 0, _, _, _, _ => none
  | n + 1, a4, a5, a6, m =>
    bif leb ((20 : Int32)) a6 then k181 a5 m else qbI (fX13_hasTeacher a4 a6 m) (fun x11 m12 => bif eqb x11 ((0 : Int32)) then k181 a5 m12 else (fX13_mayBe_170 k181 n) a4 ((a5 + (1 : Int32))) ((a6 + (1 : Int32))) m12)
noncomputable def fX13_mayBe_190 (s0 : Int32) (m : qM) : Option (Int32 × qM) :=
  some (nz s0, m)
noncomputable def fX13_mayBe_181 (a5 : Int32) (m : qM) : Option (Int32 × qM) :=
  bif inb ((4 : Int32)) 6 then bif ltb ((gI m 99 (ix ((4 : Int32))))) a5 then fX13_mayBe_190 ((0 : Int32)) m else fX13_mayBe_190 ((1 : Int32)) m else none
noncomputable def fX13_mayBe_166 (a2 : Int32) (a4 : Int32) (a5 : Int32) (m : qM) : Option (Int32 × qM) :=
  fX13_mayBe_170 fX13_mayBe_181 FU a4 a5 ((a2 + (1 : Int32))) m
noncomputable def fX13_mayBe_94 (m : qM) : Option (Int32 × qM) :=
  some (nz ((0 : Int32)), m)
noncomputable def fX13_mayBe_0 (a1 : Int32) (a2 : Int32) (m : qM) : Option (Int32 × qM) :=
  bif inb a1 40 then bif inb a1 40 then bif inb ((gI m 124 (ix a1))) 10 then bif inb ((gI m 124 (ix a1))) 10 then qbI (fX13_in ((Int32.toInt64 a2)) ((Int32.toInt64 ((gI m 114 (ix ((gI m 124 (ix a1)))))))) ((Int32.toInt64 ((gI m 115 (ix ((gI m 124 (ix a1)))))))) m) (fun x1 m2 => bif eqb x1 ((0 : Int32)) then fX13_mayBe_38 m2 else bif inb ((gI m 123 (ix a1))) 15 then bif inb ((gI m 123 (ix a1))) 15 then qbI (fX13_in ((Int32.toInt64 a2)) ((Int32.toInt64 ((gI m2 116 (ix ((gI m 123 (ix a1)))))))) ((Int32.toInt64 ((gI m2 117 (ix ((gI m 123 (ix a1)))))))) m2) (fun x3 m4 => bif eqb x3 ((0 : Int32)) then fX13_mayBe_38 m4 else fX13_mayBe_42 (fX13_mayBe_156 fX13_mayBe_166 FU) fX13_mayBe_94 FU a1 a2 ((gI m 123 (ix a1))) ((gI m 124 (ix a1))) ((0 : Int32)) m4) else none else none) else none else none else none else none
theorem fX13_mayBe_x : ∃ f : Int32 → Int32 → qM → Option (Int32 × qM), f = fun a1 a2 m => fX13_mayBe_0 a1 a2 m := ⟨_, rfl⟩
noncomputable def fX13_mayBe : Int32 → Int32 → qM → Option (Int32 × qM) := Classical.choose fX13_mayBe_x
theorem fX13_mayBe_d : fX13_mayBe = fun a1 a2 m => fX13_mayBe_0 a1 a2 m := Classical.choose_spec fX13_mayBe_x
noncomputable def fX13_may_7 (m : qM) : Option (Int32 × qM) :=
  some ((-2 : Int32), m)
noncomputable def fX13_may_25 (s0 : Int32) (m : qM) : Option (Int32 × qM) :=
  some (s0, m)
noncomputable def fX13_may_0 (a1 : Int32) (a2 : Int32) (m : qM) : Option (Int32 × qM) :=
  qbI (fX13_isAsk a1 m) (fun x1 m2 => bif eqb x1 ((0 : Int32)) then fX13_may_7 m2 else qbI (fX13_isSlot a2 m2) (fun x3 m4 => bif eqb x3 ((0 : Int32)) then fX13_may_7 m4 else bif inb a1 40 then bif eqb ((gI m4 125 (ix a1))) ((-1 : Int32)) then qbI (fX13_mayBe a1 a2 m4) (fun x5 m6 => bif eqb x5 ((0 : Int32)) then fX13_may_25 ((0 : Int32)) m6 else fX13_may_25 ((1 : Int32)) m6) else some ((-4 : Int32), m4) else none))
theorem fX13_may_x : ∃ f : Int32 → Int32 → qM → Option (Int32 × qM), f = fun a1 a2 m => fX13_may_0 a1 a2 m := ⟨_, rfl⟩
noncomputable def fX13_may : Int32 → Int32 → qM → Option (Int32 × qM) := Classical.choose fX13_may_x
theorem fX13_may_d : fX13_may = fun a1 a2 m => fX13_may_0 a1 a2 m := Classical.choose_spec fX13_may_x
noncomputable def fX13_lay__7 (m : qM) : Option (Int32 × qM) :=
  some ((-2 : Int32), m)
noncomputable def fX13_lay__18 (m : qM) : Option (Int32 × qM) :=
  some ((-4 : Int32), m)
noncomputable def fX13_lay__0 (a1 : Int32) (a2 : Int32) (m : qM) : Option (Int32 × qM) :=
  qbI (fX13_isAsk a1 m) (fun x1 m2 => bif eqb x1 ((0 : Int32)) then fX13_lay__7 m2 else qbI (fX13_isSlot a2 m2) (fun x3 m4 => bif eqb x3 ((0 : Int32)) then fX13_lay__7 m4 else bif inb a1 40 then bif eqb ((gI m4 125 (ix a1))) ((-1 : Int32)) then bif eqb ((gI m4 98 33)) ((0 : Int32)) then qbI (fX13_mayBe a1 a2 m4) (fun x5 m6 => bif eqb x5 ((0 : Int32)) then some ((0 : Int32), m6) else bif inb a1 40 then let m7 := (sI m6 125 (ix a1) a2); some ((1 : Int32), m7) else none) else fX13_lay__18 m4 else fX13_lay__18 m4 else none))
theorem fX13_lay__x : ∃ f : Int32 → Int32 → qM → Option (Int32 × qM), f = fun a1 a2 m => fX13_lay__0 a1 a2 m := ⟨_, rfl⟩
noncomputable def fX13_lay_ : Int32 → Int32 → qM → Option (Int32 × qM) := Classical.choose fX13_lay__x
theorem fX13_lay__d : fX13_lay_ = fun a1 a2 m => fX13_lay__0 a1 a2 m := Classical.choose_spec fX13_lay__x
noncomputable def fX13_lift_15 (m : qM) : Option (Int32 × qM) :=
  some ((-4 : Int32), m)
noncomputable def fX13_lift_0 (a1 : Int32) (m : qM) : Option (Int32 × qM) :=
  qbI (fX13_isAsk a1 m) (fun x1 m2 => bif eqb x1 ((0 : Int32)) then some ((-2 : Int32), m2) else bif inb a1 40 then bif eqb ((gI m2 125 (ix a1))) ((-1 : Int32)) then fX13_lift_15 m2 else bif eqb ((gI m2 98 33)) ((0 : Int32)) then bif inb a1 40 then bif inb a1 40 then let m3 := (sI m2 125 (ix a1) ((-1 : Int32))); some ((gI m2 125 (ix a1)), m3) else none else none else fX13_lift_15 m2 else none)
theorem fX13_lift_x : ∃ f : Int32 → qM → Option (Int32 × qM), f = fun a1 m => fX13_lift_0 a1 m := ⟨_, rfl⟩
noncomputable def fX13_lift : Int32 → qM → Option (Int32 × qM) := Classical.choose fX13_lift_x
theorem fX13_lift_d : fX13_lift = fun a1 m => fX13_lift_0 a1 m := Classical.choose_spec fX13_lift_x
noncomputable def fX13_firstSlot_2 : Nat → Int32 → Int32 → Int32 → qM → Option (Int32 × qM)
  | 0, _, _, _, _ => none
  | n + 1, a1, a3, a4, m =>
    bif ltb a3 a4 then some ((-1 : Int32), m) else qbI (fX13_mayBe a1 a4 m) (fun x1 m2 => bif eqb x1 ((0 : Int32)) then (fX13_firstSlot_2 n) a1 a3 ((a4 + (1 : Int32))) m2 else some (a4, m2))
noncomputable def fX13_firstSlot_0 (a1 : Int32) (a2 : Int32) (a3 : Int32) (m : qM) : Option (Int32 × qM) :=
  fX13_firstSlot_2 FU a1 a3 a2 m
theorem fX13_firstSlot_x : ∃ f : Int32 → Int32 → Int32 → qM → Option (Int32 × qM), f = fun a1 a2 a3 m => fX13_firstSlot_0 a1 a2 a3 m := ⟨_, rfl⟩
noncomputable def fX13_firstSlot : Int32 → Int32 → Int32 → qM → Option (Int32 × qM) := Classical.choose fX13_firstSlot_x
theorem fX13_firstSlot_d : fX13_firstSlot = fun a1 a2 a3 m => fX13_firstSlot_0 a1 a2 a3 m := Classical.choose_spec fX13_firstSlot_x
noncomputable def fX13_layAll_88 (k17 : Int32 → Int32 → Int32 → Int32 → qM → Option (Int32 × qM)) (a1 : Int32) (a2 : Int32) (a3 : Int32) (a4 : Int32) (m : qM) : Option (Int32 × qM) :=
  k17 a1 a2 a3 ((a4 + (1 : Int32))) m
noncomputable def fX13_layAll_86 (k17 : Int32 → Int32 → Int32 → Int32 → qM → Option (Int32 × qM)) (a2 : Int32) (a3 : Int32) (a4 : Int32) (s0 : Int32) (s1 : Int32) (m : qM) : Option (Int32 × qM) :=
  fX13_layAll_88 k17 ((s1 + s0)) a2 a3 a4 m
noncomputable def fX13_layAll_75 (k17 : Int32 → Int32 → Int32 → Int32 → qM → Option (Int32 × qM)) (a1 : Int32) (a2 : Int32) (a3 : Int32) (a4 : Int32) (s0 : Int32) (s1 : Int32) (m : qM) : Option (Int32 × qM) :=
  bif inb s1 40 then let m5 := (sI m 125 (ix s1) s0); bif inb a4 40 then bif eqb ((gI m5 125 (ix a4))) ((-1 : Int32)) then fX13_layAll_86 k17 a2 a3 a4 ((0 : Int32)) a1 m5 else fX13_layAll_86 k17 a2 a3 a4 ((1 : Int32)) a1 m5 else none else none
noncomputable def fX13_layAll_42 (k17 : Int32 → Int32 → Int32 → Int32 → qM → Option (Int32 × qM)) (a1 : Int32) (a2 : Int32) (a3 : Int32) (a4 : Int32) (a5 : Int32) (s0 : Int32) (s1 : Int32) (m : qM) : Option (Int32 × qM) :=
  bif eqb s1 s0 then bif inb a5 15 then bif eqb ((gI m 121 (ix a5))) a3 then bif inb a5 15 then bif inb a5 15 then qbI (fX13_firstSlot a4 ((gI m 119 (ix a5))) ((gI m 120 (ix a5))) m) (fun x1 m2 => bif eqb x1 ((-1 : Int32)) then qbI (fX13_firstSlot a4 ((0 : Int32)) ((19 : Int32)) m2) (fun x3 m4 => fX13_layAll_75 k17 a1 a2 a3 a4 x3 a4 m4) else fX13_layAll_75 k17 a1 a2 a3 a4 x1 a4 m2) else none else none else fX13_layAll_88 k17 a1 a2 a3 a4 m else none else fX13_layAll_88 k17 a1 a2 a3 a4 m
noncomputable def fX13_layAll_17 (k13 : Int32 → Int32 → Int32 → qM → Option (Int32 × qM)) : Nat → Int32 → Int32 → Int32 → Int32 → qM → Option (Int32 × qM)
  | 0, _, _, _, _, _ => none
  | n + 1, a1, a2, a3, a4, m =>
    bif leb ((gI m 98 32)) a4 then k13 a1 a2 ((a3 + (-1 : Int32))) m else bif inb a4 40 then bif inb a4 40 then bif eqb ((gI m 125 (ix a4))) ((-1 : Int32)) then bif inb a4 40 then bif eqb a2 ((1 : Int32)) then fX13_layAll_42 (fX13_layAll_17 k13 n) a1 a2 a3 a4 ((gI m 123 (ix a4))) ((1 : Int32)) ((gI m 126 (ix a4))) m else fX13_layAll_42 (fX13_layAll_17 k13 n) a1 a2 a3 a4 ((gI m 123 (ix a4))) ((0 : Int32)) ((gI m 126 (ix a4))) m else none else fX13_layAll_88 (fX13_layAll_17 k13 n) a1 a2 a3 a4 m else none else none
noncomputable def fX13_layAll_13 (k9 : Int32 → Int32 → qM → Option (Int32 × qM)) : Nat → Int32 → Int32 → Int32 → qM → Option (Int32 × qM)
  | 0, _, _, _, _ => none
  | n + 1, a1, a2, a3, m =>
    bif ltb a3 ((0 : Int32)) then k9 a1 ((a2 + (-1 : Int32))) m else fX13_layAll_17 (fX13_layAll_13 k9 n) FU a1 a2 a3 ((0 : Int32)) m
noncomputable def fX13_layAll_9 : Nat → Int32 → Int32 → qM → Option (Int32 × qM)
  | 0, _, _, _ => none
  | n + 1, a1, a2, m =>
    bif ltb a2 ((0 : Int32)) then some (a1, m) else fX13_layAll_13 (fX13_layAll_9 n) FU a1 a2 ((9 : Int32)) m
noncomputable def fX13_layAll_0 (m : qM) : Option (Int32 × qM) :=
  bif eqb ((gI m 98 33)) ((0 : Int32)) then fX13_layAll_9 FU ((0 : Int32)) ((1 : Int32)) m else some ((-4 : Int32), m)
theorem fX13_layAll_x : ∃ f : qM → Option (Int32 × qM), f = fun m => fX13_layAll_0 m := ⟨_, rfl⟩
noncomputable def fX13_layAll : qM → Option (Int32 × qM) := Classical.choose fX13_layAll_x
theorem fX13_layAll_d : fX13_layAll = fun m => fX13_layAll_0 m := Classical.choose_spec fX13_layAll_x
noncomputable def fX13_waitsOf_40 (k8 : Int32 → Int32 → Int32 → Int32 → Int32 → qM → Option (Int32 × qM)) (a1 : Int32) (a2 : Int32) (a3 : Int32) (a4 : Int32) (a5 : Int32) (m : qM) : Option (Int32 × qM) :=
  k8 a1 a2 a3 a4 ((a5 + (1 : Int32))) m
noncomputable def fX13_waitsOf_8 (k53 : Int32 → qM → Option (Int32 × qM)) : Nat → Int32 → Int32 → Int32 → Int32 → Int32 → qM → Option (Int32 × qM)
  | 0, _, _, _, _, _, _ => none
  | n + 1, a1, a2, a3, a4, a5, m =>
    bif leb ((gI m 98 32)) a5 then bif eqb a4 ((0 : Int32)) then k53 ((-1 : Int32)) m else k53 ((((a3 - a2) + (1 : Int32)) - a4)) m else bif inb a5 40 then bif eqb ((gI m 123 (ix a5))) a1 then bif inb a5 40 then bif eqb ((gI m 125 (ix a5))) ((-1 : Int32)) then fX13_waitsOf_40 (fX13_waitsOf_8 k53 n) a1 a2 a3 a4 a5 m else bif inb a5 40 then qbI (fJ9_min_7cf53 a2 ((gI m 125 (ix a5))) m) (fun x1 m2 => bif inb a5 40 then qbI (fJ9_max_7cf53 a3 ((gI m2 125 (ix a5))) m2) (fun x3 m4 => fX13_waitsOf_40 (fX13_waitsOf_8 k53 n) a1 x1 x3 ((a4 + (1 : Int32))) a5 m4) else none) else none else none else fX13_waitsOf_40 (fX13_waitsOf_8 k53 n) a1 a2 a3 a4 a5 m else none
noncomputable def fX13_waitsOf_53 (s0 : Int32) (m : qM) : Option (Int32 × qM) :=
  some (s0, m)
noncomputable def fX13_waitsOf_0 (a1 : Int32) (m : qM) : Option (Int32 × qM) :=
  fX13_waitsOf_8 fX13_waitsOf_53 FU a1 ((20 : Int32)) ((-1 : Int32)) ((0 : Int32)) ((0 : Int32)) m
theorem fX13_waitsOf_x : ∃ f : Int32 → qM → Option (Int32 × qM), f = fun a1 m => fX13_waitsOf_0 a1 m := ⟨_, rfl⟩
noncomputable def fX13_waitsOf : Int32 → qM → Option (Int32 × qM) := Classical.choose fX13_waitsOf_x
theorem fX13_waitsOf_d : fX13_waitsOf = fun a1 m => fX13_waitsOf_0 a1 m := Classical.choose_spec fX13_waitsOf_x
noncomputable def fX13_valueOf_4 (k20 : Int32 → Int32 → qM → Option (Int32 × qM)) : Nat → Int32 → Int32 → Int32 → qM → Option (Int32 × qM)
  | 0, _, _, _, _ => none
  | n + 1, a1, a2, a3, m =>
    bif leb ((15 : Int32)) a3 then k20 a1 a2 m else bif eqb a1 ((2 : Int32)) then qbI (fX13_waitsOf a3 m) (fun x1 m2 => qbI (fJ9_max_7cf53 ((0 : Int32)) x1 m2) (fun x3 m4 => (fX13_valueOf_4 k20 n) a1 ((a2 + x3)) ((a3 + (1 : Int32))) m4)) else k20 a1 a2 m
noncomputable def fX13_valueOf_85 (k22 : Int32 → Int32 → Int32 → qM → Option (Int32 × qM)) (a1 : Int32) (a2 : Int32) (a3 : Int32) (m : qM) : Option (Int32 × qM) :=
  k22 a1 a2 ((a3 + (1 : Int32))) m
noncomputable def fX13_valueOf_83 (k22 : Int32 → Int32 → Int32 → qM → Option (Int32 × qM)) (a1 : Int32) (a3 : Int32) (s0 : Int32) (s1 : Int32) (m : qM) : Option (Int32 × qM) :=
  fX13_valueOf_85 k22 a1 ((s1 + s0)) a3 m
noncomputable def fX13_valueOf_22 (k87 : Int32 → qM → Option (Int32 × qM)) : Nat → Int32 → Int32 → Int32 → qM → Option (Int32 × qM)
  | 0, _, _, _, _ => none
  | n + 1, a1, a2, a3, m =>
    bif leb ((gI m 98 32)) a3 then k87 a2 m else bif eqb a1 ((2 : Int32)) then k87 a2 m else bif inb a3 40 then bif eqb ((gI m 125 (ix a3))) ((-1 : Int32)) then fX13_valueOf_85 (fX13_valueOf_22 k87 n) a1 a2 a3 m else bif inb a3 40 then bif eqb a1 ((0 : Int32)) then bif inb a3 40 then bif eqb ((gI m 126 (ix a3))) ((0 : Int32)) then fX13_valueOf_83 (fX13_valueOf_22 k87 n) a1 a3 ((0 : Int32)) a2 m else fX13_valueOf_83 (fX13_valueOf_22 k87 n) a1 a3 ((1 : Int32)) a2 m else none else bif eqb a1 ((1 : Int32)) then fX13_valueOf_83 (fX13_valueOf_22 k87 n) a1 a3 ((1 : Int32)) a2 m else bif inb a3 40 then bif inb ((gI m 123 (ix a3))) 15 then bif inb ((gI m 123 (ix a3))) 15 then qbI (fX13_in ((Int32.toInt64 ((gI m 125 (ix a3))))) ((Int32.toInt64 ((gI m 119 (ix ((gI m 123 (ix a3)))))))) ((Int32.toInt64 ((gI m 120 (ix ((gI m 123 (ix a3)))))))) m) (fun x5 m6 => bif eqb x5 ((0 : Int32)) then fX13_valueOf_83 (fX13_valueOf_22 k87 n) a1 a3 ((0 : Int32)) a2 m6 else bif inb ((gI m 123 (ix a3))) 15 then fX13_valueOf_83 (fX13_valueOf_22 k87 n) a1 a3 (((1 : Int32) + (gI m6 121 (ix ((gI m 123 (ix a3))))))) a2 m6 else none) else none else none else none else none else none
noncomputable def fX13_valueOf_87 (a2 : Int32) (m : qM) : Option (Int32 × qM) :=
  some (a2, m)
noncomputable def fX13_valueOf_20 (a1 : Int32) (a2 : Int32) (m : qM) : Option (Int32 × qM) :=
  fX13_valueOf_22 fX13_valueOf_87 FU a1 a2 ((0 : Int32)) m
noncomputable def fX13_valueOf_0 (a1 : Int32) (m : qM) : Option (Int32 × qM) :=
  fX13_valueOf_4 fX13_valueOf_20 FU a1 ((0 : Int32)) ((0 : Int32)) m
theorem fX13_valueOf_x : ∃ f : Int32 → qM → Option (Int32 × qM), f = fun a1 m => fX13_valueOf_0 a1 m := ⟨_, rfl⟩
noncomputable def fX13_valueOf : Int32 → qM → Option (Int32 × qM) := Classical.choose fX13_valueOf_x
theorem fX13_valueOf_d : fX13_valueOf = fun a1 m => fX13_valueOf_0 a1 m := Classical.choose_spec fX13_valueOf_x
noncomputable def fX13_value_11 (s0 : Int32) (m : qM) : Option (Int32 × qM) :=
  some (s0, m)
noncomputable def fX13_value_0 (a1 : Int32) (m : qM) : Option (Int32 × qM) :=
  qbI (fX13_in ((Int32.toInt64 a1)) ((0 : Int64)) ((3 : Int64)) m) (fun x1 m2 => bif eqb x1 ((0 : Int32)) then fX13_value_11 ((-1 : Int32)) m2 else qbI (fX13_valueOf a1 m2) (fun x3 m4 => fX13_value_11 x3 m4))
theorem fX13_value_x : ∃ f : Int32 → qM → Option (Int32 × qM), f = fun a1 m => fX13_value_0 a1 m := ⟨_, rfl⟩
noncomputable def fX13_value : Int32 → qM → Option (Int32 × qM) := Classical.choose fX13_value_x
theorem fX13_value_d : fX13_value = fun a1 m => fX13_value_0 a1 m := Classical.choose_spec fX13_value_x
noncomputable def fX13_valueNow_2 : Nat → Int32 → qM → Option (Unit × qM)
  | 0, _, _ => none
  | n + 1, a1, m =>
    bif leb ((4 : Int32)) a1 then some ((), m) else qbI (fX13_valueOf a1 m) (fun x1 m2 => bif inb a1 4 then let m3 := (sI m2 128 (ix a1) x1); (fX13_valueNow_2 n) ((a1 + (1 : Int32))) m3 else none)
noncomputable def fX13_valueNow_0 (m : qM) : Option (Unit × qM) :=
  fX13_valueNow_2 FU ((0 : Int32)) m
theorem fX13_valueNow_x : ∃ f : qM → Option (Unit × qM), f = fun m => fX13_valueNow_0 m := ⟨_, rfl⟩
noncomputable def fX13_valueNow : qM → Option (Unit × qM) := Classical.choose fX13_valueNow_x
theorem fX13_valueNow_d : fX13_valueNow = fun m => fX13_valueNow_0 m := Classical.choose_spec fX13_valueNow_x
noncomputable def fX13_isMore_2 (k42 : Int32 → qM → Option (Int32 × qM)) : Nat → Int32 → qM → Option (Int32 × qM)
  | 0, _, _ => none
  | n + 1, a1, m =>
    bif leb ((4 : Int32)) a1 then some (nz ((0 : Int32)), m) else bif inb a1 4 then bif inb a1 4 then bif eqb ((gI m 128 (ix a1))) ((gI m 127 (ix a1))) then (fX13_isMore_2 k42 n) ((a1 + (1 : Int32))) m else bif eqb a1 ((2 : Int32)) then bif inb a1 4 then bif inb a1 4 then bif leb ((gI m 127 (ix a1))) ((gI m 128 (ix a1))) then k42 ((0 : Int32)) m else k42 ((1 : Int32)) m else none else none else bif inb a1 4 then bif inb a1 4 then bif leb ((gI m 128 (ix a1))) ((gI m 127 (ix a1))) then k42 ((0 : Int32)) m else k42 ((1 : Int32)) m else none else none else none else none
noncomputable def fX13_isMore_42 (s0 : Int32) (m : qM) : Option (Int32 × qM) :=
  some (nz s0, m)
noncomputable def fX13_isMore_0 (m : qM) : Option (Int32 × qM) :=
  fX13_isMore_2 fX13_isMore_42 FU ((0 : Int32)) m
theorem fX13_isMore_x : ∃ f : qM → Option (Int32 × qM), f = fun m => fX13_isMore_0 m := ⟨_, rfl⟩
noncomputable def fX13_isMore : qM → Option (Int32 × qM) := Classical.choose fX13_isMore_x
theorem fX13_isMore_d : fX13_isMore = fun m => fX13_isMore_0 m := Classical.choose_spec fX13_isMore_x
noncomputable def fX13_keepValue_2 : Nat → Int32 → qM → Option (Unit × qM)
  | 0, _, _ => none
  | n + 1, a1, m =>
    bif leb ((4 : Int32)) a1 then some ((), m) else bif inb a1 4 then bif inb a1 4 then let m1 := (sI m 127 (ix a1) ((gI m 128 (ix a1)))); (fX13_keepValue_2 n) ((a1 + (1 : Int32))) m1 else none else none
noncomputable def fX13_keepValue_0 (m : qM) : Option (Unit × qM) :=
  fX13_keepValue_2 FU ((0 : Int32)) m
theorem fX13_keepValue_x : ∃ f : qM → Option (Unit × qM), f = fun m => fX13_keepValue_0 m := ⟨_, rfl⟩
noncomputable def fX13_keepValue : qM → Option (Unit × qM) := Classical.choose fX13_keepValue_x
theorem fX13_keepValue_d : fX13_keepValue = fun m => fX13_keepValue_0 m := Classical.choose_spec fX13_keepValue_x
noncomputable def fX13_layFew_20 (G : qG Unit) (k4 : Int32 → Int32 → Int32 → Int32 → Int32 → Int32 → qM → Option (Unit × qM)) (a1 : Int32) (a2 : Int32) (a3 : Int32) (a4 : Int32) (a6 : Int32) (s0 : Int32) (s1 : Int32) (m : qM) : Option (Unit × qM) :=
  k4 a1 a2 a3 a4 ((s1 + s0)) ((a6 + (1 : Int32))) m
noncomputable def fX13_layFew_4 (G : qG Unit) (k49 : Int32 → Int32 → Int32 → Int32 → qM → Option (Unit × qM)) (k48 : qM → Option (Unit × qM)) : Nat → Int32 → Int32 → Int32 → Int32 → Int32 → Int32 → qM → Option (Unit × qM)
  | 0, _, _, _, _, _, _, _ => none
  | n + 1, a1, a2, a3, a4, a5, a6, m =>
    bif leb ((gI m 98 43)) a6 then bif eqb ((gI m 98 46)) ((0 : Int32)) then k49 a1 a2 a3 a4 m else bif ltb ((a3 + a5)) ((gI m 98 44)) then k48 m else bif eqb ((a3 + a5)) ((gI m 98 44)) then bif leb ((gI m 98 45)) (((a4 + (gI m 98 43)) - a1)) then k49 a1 a2 a3 a4 m else k48 m else k49 a1 a2 a3 a4 m else bif inb a6 4 then bif inb ((gI m 129 (ix a6))) 40 then bif eqb ((gI m 126 (ix ((gI m 129 (ix a6)))))) ((0 : Int32)) then fX13_layFew_20 G (fX13_layFew_4 G k49 k48 n) a1 a2 a3 a4 a6 ((0 : Int32)) a5 m else fX13_layFew_20 G (fX13_layFew_4 G k49 k48 n) a1 a2 a3 a4 a6 ((1 : Int32)) a5 m else none else none
noncomputable def fX13_layFew_138 (G : qG Unit) (k100 : Int32 → Int32 → Int32 → Int32 → Int32 → Int32 → qM → Option (Unit × qM)) (a1 : Int32) (a2 : Int32) (a3 : Int32) (a4 : Int32) (a6 : Int32) (a7 : Int32) (m : qM) : Option (Unit × qM) :=
  k100 a1 a2 a3 a4 a6 ((a7 + (1 : Int32))) m
noncomputable def fX13_layFew_128 (G : qG Unit) (k100 : Int32 → Int32 → Int32 → Int32 → Int32 → Int32 → qM → Option (Unit × qM)) (a1 : Int32) (a2 : Int32) (a3 : Int32) (a4 : Int32) (a6 : Int32) (a7 : Int32) (s0 : Int32) (s1 : Int32) (s2 : Int32) (s3 : Int32) (m : qM) : Option (Unit × qM) :=
  qbV (G [.ref 98, .int s3, .int s2, .int ((s1 + s0)), .int ((a4 + (1 : Int32)))] m) (fun m8 => bif inb a6 40 then let m9 := (sI m8 125 (ix a6) ((-1 : Int32))); fX13_layFew_138 G k100 a1 a2 a3 a4 a6 a7 m9 else none)
noncomputable def fX13_layFew_100 (G : qG Unit) : Nat → Int32 → Int32 → Int32 → Int32 → Int32 → Int32 → qM → Option (Unit × qM)
  | 0, _, _, _, _, _, _, _ => none
  | n + 1, a1, a2, a3, a4, a6, a7, m =>
    bif leb ((20 : Int32)) a7 then qbV (G [.ref 98, .int ((a1 + (1 : Int32))), .int a2, .int a3, .int a4] m) (fun m4 => some ((), m4)) else qbI (fX13_mayBe a6 a7 m) (fun x5 m6 => bif eqb x5 ((0 : Int32)) then fX13_layFew_138 G (fX13_layFew_100 G n) a1 a2 a3 a4 a6 a7 m6 else bif inb a6 40 then let m7 := (sI m6 125 (ix a6) a7); bif inb a6 40 then bif eqb ((gI m7 126 (ix a6))) ((0 : Int32)) then fX13_layFew_128 G (fX13_layFew_100 G n) a1 a2 a3 a4 a6 a7 ((0 : Int32)) a3 a2 ((a1 + (1 : Int32))) m7 else fX13_layFew_128 G (fX13_layFew_100 G n) a1 a2 a3 a4 a6 a7 ((1 : Int32)) a3 a2 ((a1 + (1 : Int32))) m7 else none else none)
noncomputable def fX13_layFew_75 (G : qG Unit) : Nat → Int32 → qM → Option (Unit × qM)
  | 0, _, _ => none
  | n + 1, a6, m =>
    bif leb ((gI m 98 43)) a6 then some ((), m) else bif inb a6 4 then bif inb ((gI m 129 (ix a6))) 40 then bif inb a6 4 then let m14 := (sI m 130 (ix a6) ((gI m 125 (ix ((gI m 129 (ix a6))))))); (fX13_layFew_75 G n) ((a6 + (1 : Int32))) m14 else none else none else none
noncomputable def fX13_layFew_62 (G : qG Unit) (a3 : Int32) (a4 : Int32) (m : qM) : Option (Unit × qM) :=
  bif qb ((1 : Int32)) then let m10 := (sI m 98 46 ((1 : Int32))); qbV (fX13_keepValue m10) (fun m11 => let m12 := (sI m11 98 44 a3); let m13 := (sI m12 98 45 a4); fX13_layFew_75 G FU ((0 : Int32)) m13) else none
noncomputable def fX13_layFew_49 (G : qG Unit) (a1 : Int32) (a2 : Int32) (a3 : Int32) (a4 : Int32) (m : qM) : Option (Unit × qM) :=
  bif eqb a1 ((gI m 98 43)) then qbV (fX13_valueNow m) (fun m1 => bif eqb ((gI m1 98 46)) ((0 : Int32)) then fX13_layFew_62 G a3 a4 m1 else qbI (fX13_isMore m1) (fun x2 m3 => bif eqb x2 ((0 : Int32)) then some ((), m3) else fX13_layFew_62 G a3 a4 m3)) else bif inb a1 4 then fX13_layFew_100 G FU a1 a2 a3 a4 ((gI m 129 (ix a1))) a2 m else none
noncomputable def fX13_layFew_48 (G : qG Unit) (m : qM) : Option (Unit × qM) :=
  some ((), m)
noncomputable def fX13_layFew_0 (G : qG Unit) (a1 : Int32) (a2 : Int32) (a3 : Int32) (a4 : Int32) (m : qM) : Option (Unit × qM) :=
  fX13_layFew_4 G (fX13_layFew_49 G) (fX13_layFew_48 G) FU a1 a2 a3 a4 ((0 : Int32)) a1 m
noncomputable def GX13_layFew : Nat → qG Unit
  | 0 => fun _ _ => none
  | n + 1 => fun av m => match av with
    | [.ref 98, .int a1, .int a2, .int a3, .int a4] => fX13_layFew_0 (GX13_layFew n) a1 a2 a3 a4 m
    | _ => none
noncomputable def fX13_layFew (n : Nat) (a1 : Int32) (a2 : Int32) (a3 : Int32) (a4 : Int32) (m : qM) : Option (Unit × qM) := GX13_layFew n [.ref 98, .int a1, .int a2, .int a3, .int a4] m
noncomputable def fX13_layBest_38 (k13 : Int32 → Int32 → qM → Option (Int32 × qM)) (a3 : Int32) (s0 : Int32) (s1 : Int32) (m : qM) : Option (Int32 × qM) :=
  k13 ((s1 + s0)) ((a3 + (1 : Int32))) m
noncomputable def fX13_layBest_13 : Nat → Int32 → Int32 → qM → Option (Int32 × qM)
  | 0, _, _, _ => none
  | n + 1, a2, a3, m =>
    bif leb ((gI m 98 43)) a3 then some (a2, m) else bif inb a3 4 then bif inb a3 4 then bif inb ((gI m 129 (ix a3))) 40 then let m3 := (sI m 125 (ix ((gI m 129 (ix a3)))) ((gI m 130 (ix a3)))); bif inb a3 4 then bif eqb ((gI m3 130 (ix a3))) ((-1 : Int32)) then fX13_layBest_38 (fX13_layBest_13 n) a3 ((0 : Int32)) a2 m3 else fX13_layBest_38 (fX13_layBest_13 n) a3 ((1 : Int32)) a2 m3 else none else none else none else none
noncomputable def fX13_layBest_0 (a1 : Int32) (m : qM) : Option (Int32 × qM) :=
  bif qb ((0 : Int32)) then let m1 := (sI m 98 46 ((0 : Int32))); qbV (fX13_layFew FG ((0 : Int32)) a1 ((0 : Int32)) ((0 : Int32)) m1) (fun m2 => fX13_layBest_13 FU ((0 : Int32)) ((0 : Int32)) m2) else none
theorem fX13_layBest_x : ∃ f : Int32 → qM → Option (Int32 × qM), f = fun a1 m => fX13_layBest_0 a1 m := ⟨_, rfl⟩
noncomputable def fX13_layBest : Int32 → qM → Option (Int32 × qM) := Classical.choose fX13_layBest_x
theorem fX13_layBest_d : fX13_layBest = fun a1 m => fX13_layBest_0 a1 m := Classical.choose_spec fX13_layBest_x
noncomputable def fX13_best_48 (k21 : Int32 → Int32 → Int32 → Int32 → qM → Option (Int32 × qM)) (a1 : Int32) (a2 : Int32) (a3 : Int32) (a4 : Int32) (m : qM) : Option (Int32 × qM) :=
  k21 a1 a2 a3 ((a4 + (1 : Int32))) m
noncomputable def fX13_best_47 (k21 : Int32 → Int32 → Int32 → Int32 → qM → Option (Int32 × qM)) (a1 : Int32) (a2 : Int32) (a4 : Int32) (s0 : Int32) (m : qM) : Option (Int32 × qM) :=
  fX13_best_48 k21 a1 a2 s0 a4 m
noncomputable def fX13_best_44 (k21 : Int32 → Int32 → Int32 → Int32 → qM → Option (Int32 × qM)) (a1 : Int32) (a2 : Int32) (a4 : Int32) (m : qM) : Option (Int32 × qM) :=
  fX13_best_47 k21 a1 a2 a4 ((1 : Int32)) m
noncomputable def fX13_best_21 (k50 : Int32 → Int32 → Int32 → qM → Option (Int32 × qM)) : Nat → Int32 → Int32 → Int32 → Int32 → qM → Option (Int32 × qM)
  | 0, _, _, _, _, _ => none
  | n + 1, a1, a2, a3, a4, m =>
    bif leb ((30 : Int32)) a4 then k50 a1 a2 a3 m else bif leb ((gI m 98 32)) a4 then k50 a1 a2 a3 m else bif eqb (((a1 >>> (a4 &&& 31)) &&& (1 : Int32))) ((0 : Int32)) then fX13_best_48 (fX13_best_21 k50 n) a1 a2 a3 a4 m else bif eqb a3 ((0 : Int32)) then bif inb a4 40 then bif eqb ((gI m 125 (ix a4))) ((-1 : Int32)) then fX13_best_47 (fX13_best_21 k50 n) a1 ((a2 + (1 : Int32))) a4 ((0 : Int32)) m else fX13_best_44 (fX13_best_21 k50 n) a1 ((a2 + (1 : Int32))) a4 m else none else fX13_best_44 (fX13_best_21 k50 n) a1 ((a2 + (1 : Int32))) a4 m
noncomputable def fX13_best_60 (m : qM) : Option (Int32 × qM) :=
  some ((-4 : Int32), m)
noncomputable def fX13_best_93 (k67 : Int32 → Int32 → qM → Option (Int32 × qM)) (a1 : Int32) (a4 : Int32) (m : qM) : Option (Int32 × qM) :=
  k67 a1 ((a4 + (1 : Int32))) m
noncomputable def fX13_best_67 (k95 : qM → Option (Int32 × qM)) : Nat → Int32 → Int32 → qM → Option (Int32 × qM)
  | 0, _, _, _ => none
  | n + 1, a1, a4, m =>
    bif leb ((30 : Int32)) a4 then k95 m else bif leb ((gI m 98 32)) a4 then k95 m else bif eqb (((a1 >>> (a4 &&& 31)) &&& (1 : Int32))) ((0 : Int32)) then fX13_best_93 (fX13_best_67 k95 n) a1 a4 m else bif inb ((gI m 98 43)) 4 then let m6 := (sI m 129 (ix ((gI m 98 43))) a4); let m7 := (sI m6 98 43 (((gI m6 98 43) + (1 : Int32)))); fX13_best_93 (fX13_best_67 k95 n) a1 a4 m7 else none
noncomputable def fX13_best_95 (m : qM) : Option (Int32 × qM) :=
  qbI (fX13_layBest ((0 : Int32)) m) (fun x8 m9 => some (x8, m9))
noncomputable def fX13_best_50 (a1 : Int32) (a2 : Int32) (a3 : Int32) (m : qM) : Option (Int32 × qM) :=
  bif leb a2 ((4 : Int32)) then bif eqb a3 ((0 : Int32)) then bif eqb ((gI m 98 33)) ((0 : Int32)) then let m5 := (sI m 98 43 ((0 : Int32))); fX13_best_67 fX13_best_95 FU a1 ((0 : Int32)) m5 else fX13_best_60 m else fX13_best_60 m else some ((-3 : Int32), m)
noncomputable def fX13_best_0 (a1 : Int32) (m : qM) : Option (Int32 × qM) :=
  qbI (fJ9_min_7cf53 ((30 : Int32)) ((gI m 98 32)) m) (fun x1 m2 => qbI (fX13_in ((Int32.toInt64 a1)) ((1 : Int64)) ((((1 : Int64) <<< ((Int32.toInt64 x1) &&& 63)) - (1 : Int64))) m2) (fun x3 m4 => bif eqb x3 ((0 : Int32)) then some ((-2 : Int32), m4) else fX13_best_21 fX13_best_50 FU a1 ((0 : Int32)) ((0 : Int32)) ((0 : Int32)) m4))
theorem fX13_best_x : ∃ f : Int32 → qM → Option (Int32 × qM), f = fun a1 m => fX13_best_0 a1 m := ⟨_, rfl⟩
noncomputable def fX13_best : Int32 → qM → Option (Int32 × qM) := Classical.choose fX13_best_x
theorem fX13_best_d : fX13_best = fun a1 m => fX13_best_0 a1 m := Classical.choose_spec fX13_best_x
noncomputable def fX13_judge_0 (a1 : Int32) (a2 : Int32) (a3 : Int32) (m : qM) : Option (Unit × qM) :=
  qbV (fX13_valueNow m) (fun m1 => qbI (fX13_isMore m1) (fun x2 m3 => bif eqb x2 ((0 : Int32)) then some ((), m3) else qbV (fX13_keepValue m3) (fun m4 => let m5 := (sI m4 98 47 a1); let m6 := (sI m5 98 48 a2); let m7 := (sI m6 98 49 a3); some ((), m7))))
theorem fX13_judge_x : ∃ f : Int32 → Int32 → Int32 → qM → Option (Unit × qM), f = fun a1 a2 a3 m => fX13_judge_0 a1 a2 a3 m := ⟨_, rfl⟩
noncomputable def fX13_judge : Int32 → Int32 → Int32 → qM → Option (Unit × qM) := Classical.choose fX13_judge_x
theorem fX13_judge_d : fX13_judge = fun a1 a2 a3 m => fX13_judge_0 a1 a2 a3 m := Classical.choose_spec fX13_judge_x
noncomputable def fX13_tryMoves_54 (k27 : Int32 → Int32 → Int32 → Int32 → qM → Option (Unit × qM)) (a1 : Int32) (a2 : Int32) (a3 : Int32) (a4 : Int32) (m : qM) : Option (Unit × qM) :=
  k27 a1 a2 a3 ((a4 + (1 : Int32))) m
noncomputable def fX13_tryMoves_27 (k61 : Int32 → Int32 → qM → Option (Unit × qM)) : Nat → Int32 → Int32 → Int32 → Int32 → qM → Option (Unit × qM)
  | 0, _, _, _, _, _ => none
  | n + 1, a1, a2, a3, a4, m =>
    bif leb ((20 : Int32)) a4 then bif inb a2 40 then let m2 := (sI m 125 (ix a2) a3); k61 a1 a2 m2 else none else bif eqb a4 a3 then fX13_tryMoves_54 (fX13_tryMoves_27 k61 n) a1 a2 a3 a4 m else qbI (fX13_mayBe a2 a4 m) (fun x3 m4 => bif eqb x3 ((0 : Int32)) then fX13_tryMoves_54 (fX13_tryMoves_27 k61 n) a1 a2 a3 a4 m4 else bif inb a2 40 then let m5 := (sI m4 125 (ix a2) a4); qbV (fX13_judge a2 ((-1 : Int32)) a4 m5) (fun m6 => bif inb a2 40 then let m7 := (sI m6 125 (ix a2) ((-1 : Int32))); fX13_tryMoves_54 (fX13_tryMoves_27 k61 n) a1 a2 a3 a4 m7 else none) else none)
noncomputable def fX13_tryMoves_61 (k2 : Int32 → Int32 → qM → Option (Unit × qM)) (a1 : Int32) (a2 : Int32) (m : qM) : Option (Unit × qM) :=
  k2 a1 ((a2 + (1 : Int32))) m
noncomputable def fX13_tryMoves_17 (k2 : Int32 → Int32 → qM → Option (Unit × qM)) (a1 : Int32) (a2 : Int32) (a3 : Int32) (s0 : Int32) (m : qM) : Option (Unit × qM) :=
  bif eqb s0 a1 then bif inb a2 40 then let m1 := (sI m 125 (ix a2) ((-1 : Int32))); fX13_tryMoves_27 (fX13_tryMoves_61 k2) FU a1 a2 a3 ((0 : Int32)) m1 else none else fX13_tryMoves_61 k2 a1 a2 m
noncomputable def fX13_tryMoves_2 : Nat → Int32 → Int32 → qM → Option (Unit × qM)
  | 0, _, _, _ => none
  | n + 1, a1, a2, m =>
    bif leb ((gI m 98 32)) a2 then some ((), m) else bif inb a2 40 then bif eqb ((gI m 125 (ix a2))) ((-1 : Int32)) then fX13_tryMoves_17 (fX13_tryMoves_2 n) a1 a2 ((gI m 125 (ix a2))) ((0 : Int32)) m else fX13_tryMoves_17 (fX13_tryMoves_2 n) a1 a2 ((gI m 125 (ix a2))) ((1 : Int32)) m else none
noncomputable def fX13_tryMoves_0 (a1 : Int32) (m : qM) : Option (Unit × qM) :=
  fX13_tryMoves_2 FU a1 ((0 : Int32)) m
theorem fX13_tryMoves_x : ∃ f : Int32 → qM → Option (Unit × qM), f = fun a1 m => fX13_tryMoves_0 a1 m := ⟨_, rfl⟩
noncomputable def fX13_tryMoves : Int32 → qM → Option (Unit × qM) := Classical.choose fX13_tryMoves_x
theorem fX13_tryMoves_d : fX13_tryMoves = fun a1 m => fX13_tryMoves_0 a1 m := Classical.choose_spec fX13_tryMoves_x
noncomputable def fX13_trySwaps_79 (k10 : Int32 → Int32 → qM → Option (Unit × qM)) (a1 : Int32) (a2 : Int32) (m : qM) : Option (Unit × qM) :=
  k10 a1 ((a2 + (1 : Int32))) m
noncomputable def fX13_trySwaps_69 (k10 : Int32 → Int32 → qM → Option (Unit × qM)) (a1 : Int32) (a2 : Int32) (a3 : Int32) (a4 : Int32) (m : qM) : Option (Unit × qM) :=
  bif inb a1 40 then let m10 := (sI m 125 (ix a1) a3); bif inb a2 40 then let m11 := (sI m10 125 (ix a2) a4); fX13_trySwaps_79 k10 a1 a2 m11 else none else none
noncomputable def fX13_trySwaps_10 (k2 : Int32 → qM → Option (Unit × qM)) : Nat → Int32 → Int32 → qM → Option (Unit × qM)
  | 0, _, _, _ => none
  | n + 1, a1, a2, m =>
    bif leb ((gI m 98 32)) a2 then k2 ((a1 + (1 : Int32))) m else bif inb a1 40 then bif inb a2 40 then bif eqb ((gI m 125 (ix a1))) ((-1 : Int32)) then fX13_trySwaps_79 (fX13_trySwaps_10 k2 n) a1 a2 m else bif eqb ((gI m 125 (ix a2))) ((-1 : Int32)) then fX13_trySwaps_79 (fX13_trySwaps_10 k2 n) a1 a2 m else bif eqb ((gI m 125 (ix a1))) ((gI m 125 (ix a2))) then fX13_trySwaps_79 (fX13_trySwaps_10 k2 n) a1 a2 m else bif inb a1 40 then let m1 := (sI m 125 (ix a1) ((-1 : Int32))); bif inb a2 40 then let m2 := (sI m1 125 (ix a2) ((-1 : Int32))); qbI (fX13_mayBe a1 ((gI m 125 (ix a2))) m2) (fun x3 m4 => bif eqb x3 ((0 : Int32)) then fX13_trySwaps_69 (fX13_trySwaps_10 k2 n) a1 a2 ((gI m 125 (ix a1))) ((gI m 125 (ix a2))) m4 else bif inb a1 40 then let m5 := (sI m4 125 (ix a1) ((gI m 125 (ix a2)))); qbI (fX13_mayBe a2 ((gI m 125 (ix a1))) m5) (fun x6 m7 => bif eqb x6 ((0 : Int32)) then fX13_trySwaps_69 (fX13_trySwaps_10 k2 n) a1 a2 ((gI m 125 (ix a1))) ((gI m 125 (ix a2))) m7 else bif inb a2 40 then let m8 := (sI m7 125 (ix a2) ((gI m 125 (ix a1)))); qbV (fX13_judge a1 a2 ((-1 : Int32)) m8) (fun m9 => fX13_trySwaps_69 (fX13_trySwaps_10 k2 n) a1 a2 ((gI m 125 (ix a1))) ((gI m 125 (ix a2))) m9) else none) else none) else none else none else none else none
noncomputable def fX13_trySwaps_2 : Nat → Int32 → qM → Option (Unit × qM)
  | 0, _, _ => none
  | n + 1, a1, m =>
    bif leb ((gI m 98 32)) a1 then some ((), m) else fX13_trySwaps_10 (fX13_trySwaps_2 n) FU a1 ((a1 + (1 : Int32))) m
noncomputable def fX13_trySwaps_0 (m : qM) : Option (Unit × qM) :=
  fX13_trySwaps_2 FU ((0 : Int32)) m
theorem fX13_trySwaps_x : ∃ f : qM → Option (Unit × qM), f = fun m => fX13_trySwaps_0 m := ⟨_, rfl⟩
noncomputable def fX13_trySwaps : qM → Option (Unit × qM) := Classical.choose fX13_trySwaps_x
theorem fX13_trySwaps_d : fX13_trySwaps = fun m => fX13_trySwaps_0 m := Classical.choose_spec fX13_trySwaps_x
noncomputable def fX13_settle_65 (k7 : Int32 → qM → Option (Int32 × qM)) (a1 : Int32) (m : qM) : Option (Int32 × qM) :=
  k7 ((a1 + (1 : Int32))) m
noncomputable def fX13_settle_7 : Nat → Int32 → qM → Option (Int32 × qM)
  | 0, _, _ => none
  | n + 1, a1, m =>
    bif leb ((30 : Int32)) a1 then some (a1, m) else qbV (fX13_valueNow m) (fun m1 => qbV (fX13_keepValue m1) (fun m2 => let m3 := (sI m2 98 47 ((-1 : Int32))); qbV (fX13_tryMoves ((0 : Int32)) m3) (fun m4 => qbV (fX13_tryMoves ((1 : Int32)) m4) (fun m5 => qbV (fX13_trySwaps m5) (fun m6 => bif eqb ((gI m6 98 47)) ((-1 : Int32)) then some (a1, m6) else bif eqb ((gI m6 98 48)) ((-1 : Int32)) then bif inb ((gI m6 98 47)) 40 then let m9 := (sI m6 125 (ix ((gI m6 98 47))) ((gI m6 98 49))); fX13_settle_65 (fX13_settle_7 n) a1 m9 else none else bif inb ((gI m6 98 47)) 40 then bif inb ((gI m6 98 48)) 40 then bif inb ((gI m6 98 47)) 40 then let m7 := (sI m6 125 (ix ((gI m6 98 47))) ((gI m6 125 (ix ((gI m6 98 48)))))); bif inb ((gI m7 98 48)) 40 then let m8 := (sI m7 125 (ix ((gI m7 98 48))) ((gI m6 125 (ix ((gI m6 98 47)))))); fX13_settle_65 (fX13_settle_7 n) a1 m8 else none else none else none else none)))))
noncomputable def fX13_settle_0 (m : qM) : Option (Int32 × qM) :=
  bif eqb ((gI m 98 33)) ((0 : Int32)) then fX13_settle_7 FU ((0 : Int32)) m else some ((-4 : Int32), m)
theorem fX13_settle_x : ∃ f : qM → Option (Int32 × qM), f = fun m => fX13_settle_0 m := ⟨_, rfl⟩
noncomputable def fX13_settle : qM → Option (Int32 × qM) := Classical.choose fX13_settle_x
theorem fX13_settle_d : fX13_settle = fun m => fX13_settle_0 m := Classical.choose_spec fX13_settle_x
noncomputable def fX13_about_26 (s0 : Int32) (m : qM) : Option (Int32 × qM) :=
  some (s0, m)
noncomputable def fX13_about_0 (a1 : Int32) (a2 : Int32) (m : qM) : Option (Int32 × qM) :=
  qbI (fX13_isAsk a1 m) (fun x1 m2 => bif eqb x1 ((0 : Int32)) then some ((-9 : Int32), m2) else bif eqb a2 (0 : Int32) then bif inb a1 40 then some ((gI m2 123 (ix a1)), m2) else none else bif eqb a2 ((0 : Int32) + 1) then bif inb a1 40 then some ((gI m2 124 (ix a1)), m2) else none else bif eqb a2 (((0 : Int32) + 1) + 1) then bif inb a1 40 then bif eqb ((gI m2 126 (ix a1))) ((0 : Int32)) then fX13_about_26 ((0 : Int32)) m2 else fX13_about_26 ((1 : Int32)) m2 else none else bif eqb a2 ((((0 : Int32) + 1) + 1) + 1) then bif inb a1 40 then some ((gI m2 125 (ix a1)), m2) else none else some ((-9 : Int32), m2))
theorem fX13_about_x : ∃ f : Int32 → Int32 → qM → Option (Int32 × qM), f = fun a1 a2 m => fX13_about_0 a1 a2 m := ⟨_, rfl⟩
noncomputable def fX13_about : Int32 → Int32 → qM → Option (Int32 × qM) := Classical.choose fX13_about_x
theorem fX13_about_d : fX13_about = fun a1 a2 m => fX13_about_0 a1 a2 m := Classical.choose_spec fX13_about_x
noncomputable def fX13_waits_8 (s0 : Int32) (m : qM) : Option (Int32 × qM) :=
  some (s0, m)
noncomputable def fX13_waits_0 (a1 : Int32) (m : qM) : Option (Int32 × qM) :=
  qbI (fX13_isFamily a1 m) (fun x1 m2 => bif eqb x1 ((0 : Int32)) then fX13_waits_8 ((-2 : Int32)) m2 else qbI (fX13_waitsOf a1 m2) (fun x3 m4 => fX13_waits_8 x3 m4))
theorem fX13_waits_x : ∃ f : Int32 → qM → Option (Int32 × qM), f = fun a1 m => fX13_waits_0 a1 m := ⟨_, rfl⟩
noncomputable def fX13_waits : Int32 → qM → Option (Int32 × qM) := Classical.choose fX13_waits_x
theorem fX13_waits_d : fX13_waits = fun a1 m => fX13_waits_0 a1 m := Classical.choose_spec fX13_waits_x
noncomputable def fX13_habit_9 (m : qM) : Option (Int32 × qM) :=
  some ((-2 : Int32), m)
noncomputable def fX13_habit_28 (k53 : Int32 → Int32 → Int32 → qM → Option (Int32 × qM)) : Nat → Int32 → Int32 → Int32 → qM → Option (Int32 × qM)
  | 0, _, _, _, _ => none
  | n + 1, a1, a2, a3, m =>
    bif leb a3 (((20 : Int32) * a1)) then k53 a1 a2 a3 m else bif inb ((a3 - (1 : Int32))) 200 then bif leb ((gI m 133 (ix ((a3 - (1 : Int32)))))) a2 then k53 a1 a2 a3 m else bif inb ((a3 - (1 : Int32))) 200 then bif inb a3 200 then let m6 := (sI m 133 (ix a3) ((gI m 133 (ix ((a3 - (1 : Int32))))))); (fX13_habit_28 k53 n) a1 a2 ((a3 + (-1 : Int32))) m6 else none else none else none
noncomputable def fX13_habit_53 (a1 : Int32) (a2 : Int32) (a3 : Int32) (m : qM) : Option (Int32 × qM) :=
  bif inb a3 200 then let m7 := (sI m 133 (ix a3) a2); bif inb a1 10 then bif inb a1 10 then let m8 := (sI m7 132 (ix a1) (((gI m7 132 (ix a1)) + (1 : Int32)))); bif inb a1 10 then some ((gI m8 132 (ix a1)), m8) else none else none else none else none
noncomputable def fX13_habit_0 (a1 : Int32) (a2 : Int32) (m : qM) : Option (Int32 × qM) :=
  qbI (fX13_isTeacher a1 m) (fun x1 m2 => bif eqb x1 ((0 : Int32)) then fX13_habit_9 m2 else qbI (fX13_in ((Int32.toInt64 a2)) ((0 : Int64)) ((60 : Int64)) m2) (fun x3 m4 => bif eqb x3 ((0 : Int32)) then fX13_habit_9 m4 else bif inb a1 10 then bif eqb ((gI m4 132 (ix a1))) ((20 : Int32)) then some ((-3 : Int32), m4) else bif inb a1 10 then let x5 : Int32 := (((20 : Int32) * a1) + (gI m4 132 (ix a1))); fX13_habit_28 fX13_habit_53 FU a1 a2 x5 m4 else none else none))
theorem fX13_habit_x : ∃ f : Int32 → Int32 → qM → Option (Int32 × qM), f = fun a1 a2 m => fX13_habit_0 a1 a2 m := ⟨_, rfl⟩
noncomputable def fX13_habit : Int32 → Int32 → qM → Option (Int32 × qM) := Classical.choose fX13_habit_x
theorem fX13_habit_d : fX13_habit = fun a1 a2 m => fX13_habit_0 a1 a2 m := Classical.choose_spec fX13_habit_x
noncomputable def fX13_foretoldOf_22 (s0 : Int32) (m : qM) : Option (Int32 × qM) :=
  some (s0, m)
noncomputable def fX13_foretoldOf_0 (a1 : Int32) (m : qM) : Option (Int32 × qM) :=
  bif inb a1 10 then bif eqb ((gI m 132 (ix a1))) ((0 : Int32)) then fX13_foretoldOf_22 ((0 : Int32)) m else bif inb a1 10 then bif eqb ((2 : Int32)) (0 : Int32) then none else bif inb ((((20 : Int32) * a1) + (((gI m 132 (ix a1)) - (1 : Int32)) / (2 : Int32)))) 200 then fX13_foretoldOf_22 ((gI m 133 (ix ((((20 : Int32) * a1) + (((gI m 132 (ix a1)) - (1 : Int32)) / (2 : Int32))))))) m else none else none else none
theorem fX13_foretoldOf_x : ∃ f : Int32 → qM → Option (Int32 × qM), f = fun a1 m => fX13_foretoldOf_0 a1 m := ⟨_, rfl⟩
noncomputable def fX13_foretoldOf : Int32 → qM → Option (Int32 × qM) := Classical.choose fX13_foretoldOf_x
theorem fX13_foretoldOf_d : fX13_foretoldOf = fun a1 m => fX13_foretoldOf_0 a1 m := Classical.choose_spec fX13_foretoldOf_x
noncomputable def fX13_foretold_8 (s0 : Int32) (m : qM) : Option (Int32 × qM) :=
  some (s0, m)
noncomputable def fX13_foretold_0 (a1 : Int32) (m : qM) : Option (Int32 × qM) :=
  qbI (fX13_isTeacher a1 m) (fun x1 m2 => bif eqb x1 ((0 : Int32)) then fX13_foretold_8 ((-2 : Int32)) m2 else qbI (fX13_foretoldOf a1 m2) (fun x3 m4 => fX13_foretold_8 x3 m4))
theorem fX13_foretold_x : ∃ f : Int32 → qM → Option (Int32 × qM), f = fun a1 m => fX13_foretold_0 a1 m := ⟨_, rfl⟩
noncomputable def fX13_foretold : Int32 → qM → Option (Int32 × qM) := Classical.choose fX13_foretold_x
theorem fX13_foretold_d : fX13_foretold = fun a1 m => fX13_foretold_0 a1 m := Classical.choose_spec fX13_foretold_x
noncomputable def fX13_begin_0 (m : qM) : Option (Int32 × qM) :=
  bif eqb ((gI m 98 33)) ((0 : Int32)) then bif qb ((1 : Int32)) then let m1 := (sI m 98 33 ((1 : Int32))); qbI (fX13_laidMany m1) (fun x2 m3 => some (x2, m3)) else none else some ((-4 : Int32), m)
theorem fX13_begin_x : ∃ f : qM → Option (Int32 × qM), f = fun m => fX13_begin_0 m := ⟨_, rfl⟩
noncomputable def fX13_begin : qM → Option (Int32 × qM) := Classical.choose fX13_begin_x
theorem fX13_begin_d : fX13_begin = fun m => fX13_begin_0 m := Classical.choose_spec fX13_begin_x
noncomputable def fX13_isMinute_0 (a1 : Int32) (m : qM) : Option (Int32 × qM) :=
  qbI (fX13_in ((Int32.toInt64 a1)) ((0 : Int64)) ((799 : Int64)) m) (fun x1 m2 => some (nz x1, m2))
theorem fX13_isMinute_x : ∃ f : Int32 → qM → Option (Int32 × qM), f = fun a1 m => fX13_isMinute_0 a1 m := ⟨_, rfl⟩
noncomputable def fX13_isMinute : Int32 → qM → Option (Int32 × qM) := Classical.choose fX13_isMinute_x
theorem fX13_isMinute_d : fX13_isMinute = fun a1 m => fX13_isMinute_0 a1 m := Classical.choose_spec fX13_isMinute_x
noncomputable def fX13_isNext_19 (s0 : Int32) (m : qM) : Option (Int32 × qM) :=
  some (nz s0, m)
noncomputable def fX13_isNext_18 (m : qM) : Option (Int32 × qM) :=
  fX13_isNext_19 ((0 : Int32)) m
noncomputable def fX13_isNext_16 (m : qM) : Option (Int32 × qM) :=
  fX13_isNext_19 ((1 : Int32)) m
noncomputable def fX13_isNext_0 (a1 : Int32) (m : qM) : Option (Int32 × qM) :=
  qbI (fX13_isMinute a1 m) (fun x1 m2 => bif eqb x1 ((0 : Int32)) then fX13_isNext_18 m2 else bif eqb ((gI m2 98 52)) ((0 : Int32)) then fX13_isNext_16 m2 else bif inb (((gI m2 98 52) - (1 : Int32))) 80 then bif ltb a1 ((gI m2 134 (ix (((gI m2 98 52) - (1 : Int32)))))) then fX13_isNext_18 m2 else fX13_isNext_16 m2 else none)
theorem fX13_isNext_x : ∃ f : Int32 → qM → Option (Int32 × qM), f = fun a1 m => fX13_isNext_0 a1 m := ⟨_, rfl⟩
noncomputable def fX13_isNext : Int32 → qM → Option (Int32 × qM) := Classical.choose fX13_isNext_x
theorem fX13_isNext_d : fX13_isNext = fun a1 m => fX13_isNext_0 a1 m := Classical.choose_spec fX13_isNext_x
noncomputable def fX13_tell_0 (a1 : Int32) (a2 : Int32) (a3 : Int32) (a4 : Int32) (a5 : Int32) (m : qM) : Option (Int32 × qM) :=
  bif eqb ((gI m 98 52)) ((80 : Int32)) then some ((-3 : Int32), m) else bif inb ((gI m 98 52)) 80 then let m1 := (sI m 134 (ix ((gI m 98 52))) a1); bif inb ((gI m1 98 52)) 80 then let m2 := (sI m1 135 (ix ((gI m1 98 52))) a2); bif inb ((gI m2 98 52)) 80 then let m3 := (sI m2 136 (ix ((gI m2 98 52))) a3); bif inb ((gI m3 98 52)) 80 then let m4 := (sI m3 137 (ix ((gI m3 98 52))) a4); bif inb ((gI m4 98 52)) 80 then let m5 := (sI m4 138 (ix ((gI m4 98 52))) a5); let m6 := (sI m5 98 52 (((gI m5 98 52) + (1 : Int32)))); some ((gI m6 98 52), m6) else none else none else none else none else none
theorem fX13_tell_x : ∃ f : Int32 → Int32 → Int32 → Int32 → Int32 → qM → Option (Int32 × qM), f = fun a1 a2 a3 a4 a5 m => fX13_tell_0 a1 a2 a3 a4 a5 m := ⟨_, rfl⟩
noncomputable def fX13_tell : Int32 → Int32 → Int32 → Int32 → Int32 → qM → Option (Int32 × qM) := Classical.choose fX13_tell_x
theorem fX13_tell_d : fX13_tell = fun a1 a2 a3 a4 a5 m => fX13_tell_0 a1 a2 a3 a4 a5 m := Classical.choose_spec fX13_tell_x
noncomputable def fX13_isMeeting_12 (s0 : Int32) (m : qM) : Option (Int32 × qM) :=
  some (nz s0, m)
noncomputable def fX13_isMeeting_11 (m : qM) : Option (Int32 × qM) :=
  fX13_isMeeting_12 ((0 : Int32)) m
noncomputable def fX13_isMeeting_0 (a1 : Int32) (m : qM) : Option (Int32 × qM) :=
  bif eqb ((gI m 98 33)) ((0 : Int32)) then fX13_isMeeting_11 m else bif inb a1 40 then bif eqb ((gI m 125 (ix a1))) ((-1 : Int32)) then fX13_isMeeting_11 m else fX13_isMeeting_12 ((1 : Int32)) m else none
theorem fX13_isMeeting_x : ∃ f : Int32 → qM → Option (Int32 × qM), f = fun a1 m => fX13_isMeeting_0 a1 m := ⟨_, rfl⟩
noncomputable def fX13_isMeeting : Int32 → qM → Option (Int32 × qM) := Classical.choose fX13_isMeeting_x
theorem fX13_isMeeting_d : fX13_isMeeting = fun a1 m => fX13_isMeeting_0 a1 m := Classical.choose_spec fX13_isMeeting_x
noncomputable def fX13_over_14 (m : qM) : Option (Int32 × qM) :=
  some ((-2 : Int32), m)
noncomputable def fX13_over_29 (s0 : Int32) (m : qM) : Option (Int32 × qM) :=
  some (s0, m)
noncomputable def fX13_over_0 (a1 : Int32) (a2 : Int32) (a3 : Int32) (m : qM) : Option (Int32 × qM) :=
  qbI (fX13_isNext a1 m) (fun x1 m2 => bif eqb x1 ((0 : Int32)) then fX13_over_14 m2 else qbI (fX13_isAsk a2 m2) (fun x3 m4 => bif eqb x3 ((0 : Int32)) then fX13_over_14 m4 else qbI (fX13_in ((Int32.toInt64 a3)) ((0 : Int64)) ((60 : Int64)) m4) (fun x5 m6 => bif eqb x5 ((0 : Int32)) then fX13_over_14 m6 else qbI (fX13_isMeeting a2 m6) (fun x7 m8 => bif eqb x7 ((0 : Int32)) then fX13_over_29 ((-4 : Int32)) m8 else qbI (fX13_tell a1 ((0 : Int32)) a2 a3 ((0 : Int32)) m8) (fun x9 m10 => fX13_over_29 x9 m10)))))
theorem fX13_over_x : ∃ f : Int32 → Int32 → Int32 → qM → Option (Int32 × qM), f = fun a1 a2 a3 m => fX13_over_0 a1 a2 a3 m := ⟨_, rfl⟩
noncomputable def fX13_over : Int32 → Int32 → Int32 → qM → Option (Int32 × qM) := Classical.choose fX13_over_x
theorem fX13_over_d : fX13_over = fun a1 a2 a3 m => fX13_over_0 a1 a2 a3 m := Classical.choose_spec fX13_over_x
noncomputable def fX13_absent_8 (m : qM) : Option (Int32 × qM) :=
  some ((-2 : Int32), m)
noncomputable def fX13_absent_27 (s0 : Int32) (m : qM) : Option (Int32 × qM) :=
  some (s0, m)
noncomputable def fX13_absent_23 (s0 : Int32) (s1 : Int32) (s2 : Int32) (s3 : Int32) (m : qM) : Option (Int32 × qM) :=
  qbI (fX13_tell s3 s2 s1 s0 ((0 : Int32)) m) (fun x7 m8 => fX13_absent_27 x7 m8)
noncomputable def fX13_absent_0 (a1 : Int32) (a2 : Int32) (a3 : Int32) (m : qM) : Option (Int32 × qM) :=
  qbI (fX13_isNext a1 m) (fun x1 m2 => bif eqb x1 ((0 : Int32)) then fX13_absent_8 m2 else qbI (fX13_isAsk a2 m2) (fun x3 m4 => bif eqb x3 ((0 : Int32)) then fX13_absent_8 m4 else qbI (fX13_isMeeting a2 m4) (fun x5 m6 => bif eqb x5 ((0 : Int32)) then fX13_absent_27 ((-4 : Int32)) m6 else bif eqb a3 ((0 : Int32)) then fX13_absent_23 ((0 : Int32)) a2 ((1 : Int32)) a1 m6 else fX13_absent_23 ((1 : Int32)) a2 ((1 : Int32)) a1 m6)))
theorem fX13_absent_x : ∃ f : Int32 → Int32 → Int32 → qM → Option (Int32 × qM), f = fun a1 a2 a3 m => fX13_absent_0 a1 a2 a3 m := ⟨_, rfl⟩
noncomputable def fX13_absent : Int32 → Int32 → Int32 → qM → Option (Int32 × qM) := Classical.choose fX13_absent_x
theorem fX13_absent_d : fX13_absent = fun a1 a2 a3 m => fX13_absent_0 a1 a2 a3 m := Classical.choose_spec fX13_absent_x
noncomputable def fX13_comes_11 (m : qM) : Option (Int32 × qM) :=
  some ((-2 : Int32), m)
noncomputable def fX13_comes_25 (s0 : Int32) (m : qM) : Option (Int32 × qM) :=
  some (s0, m)
noncomputable def fX13_comes_0 (a1 : Int32) (a2 : Int32) (a3 : Int32) (m : qM) : Option (Int32 × qM) :=
  qbI (fX13_isNext a1 m) (fun x1 m2 => bif eqb x1 ((0 : Int32)) then fX13_comes_11 m2 else qbI (fX13_isFamily a2 m2) (fun x3 m4 => bif eqb x3 ((0 : Int32)) then fX13_comes_11 m4 else qbI (fX13_isMinute a3 m4) (fun x5 m6 => bif eqb x5 ((0 : Int32)) then fX13_comes_11 m6 else bif eqb ((gI m6 98 33)) ((0 : Int32)) then fX13_comes_25 ((-4 : Int32)) m6 else qbI (fX13_tell a1 ((2 : Int32)) a2 a3 ((0 : Int32)) m6) (fun x7 m8 => fX13_comes_25 x7 m8))))
theorem fX13_comes_x : ∃ f : Int32 → Int32 → Int32 → qM → Option (Int32 × qM), f = fun a1 a2 a3 m => fX13_comes_0 a1 a2 a3 m := ⟨_, rfl⟩
noncomputable def fX13_comes : Int32 → Int32 → Int32 → qM → Option (Int32 × qM) := Classical.choose fX13_comes_x
theorem fX13_comes_d : fX13_comes = fun a1 a2 a3 m => fX13_comes_0 a1 a2 a3 m := Classical.choose_spec fX13_comes_x
noncomputable def fX13_away_18 (m : qM) : Option (Int32 × qM) :=
  some ((-2 : Int32), m)
noncomputable def fX13_away_32 (s0 : Int32) (m : qM) : Option (Int32 × qM) :=
  some (s0, m)
noncomputable def fX13_away_0 (a1 : Int32) (a2 : Int32) (a3 : Int32) (a4 : Int32) (m : qM) : Option (Int32 × qM) :=
  qbI (fX13_isNext a1 m) (fun x1 m2 => bif eqb x1 ((0 : Int32)) then fX13_away_18 m2 else qbI (fX13_isTeacher a2 m2) (fun x3 m4 => bif eqb x3 ((0 : Int32)) then fX13_away_18 m4 else qbI (fX13_isMinute a3 m4) (fun x5 m6 => bif eqb x5 ((0 : Int32)) then fX13_away_18 m6 else qbI (fX13_in ((Int32.toInt64 a4)) ((Int32.toInt64 a3)) ((799 : Int64)) m6) (fun x7 m8 => bif eqb x7 ((0 : Int32)) then fX13_away_18 m8 else bif eqb ((gI m8 98 33)) ((0 : Int32)) then fX13_away_32 ((-4 : Int32)) m8 else qbI (fX13_tell a1 ((3 : Int32)) a2 a3 a4 m8) (fun x9 m10 => fX13_away_32 x9 m10)))))
theorem fX13_away_x : ∃ f : Int32 → Int32 → Int32 → Int32 → qM → Option (Int32 × qM), f = fun a1 a2 a3 a4 m => fX13_away_0 a1 a2 a3 a4 m := ⟨_, rfl⟩
noncomputable def fX13_away : Int32 → Int32 → Int32 → Int32 → qM → Option (Int32 × qM) := Classical.choose fX13_away_x
theorem fX13_away_d : fX13_away = fun a1 a2 a3 a4 m => fX13_away_0 a1 a2 a3 a4 m := Classical.choose_spec fX13_away_x
noncomputable def fX13_know_5 (k28 : Int32 → Int32 → qM → Option (Unit × qM)) : Nat → Int32 → Int32 → qM → Option (Unit × qM)
  | 0, _, _, _ => none
  | n + 1, a1, a2, m =>
    bif leb ((gI m 98 32)) a2 then k28 a1 ((0 : Int32)) m else bif inb a2 40 then qbI (fX13_foretoldOf ((gI m 124 (ix a2))) m) (fun x2 m3 => bif inb a2 40 then let m4 := (sI m3 139 (ix a2) x2); bif inb a2 40 then let m5 := (sI m4 148 (ix a2) ((nz ((0 : Int32))))); (fX13_know_5 k28 n) a1 ((a2 + (1 : Int32))) m5 else none else none) else none
noncomputable def fX13_know_28 (k48 : Int32 → Int32 → qM → Option (Unit × qM)) : Nat → Int32 → Int32 → qM → Option (Unit × qM)
  | 0, _, _, _ => none
  | n + 1, a1, a2, m =>
    bif leb ((15 : Int32)) a2 then k48 a1 ((0 : Int32)) m else bif inb ((0 : Int32)) 6 then bif inb a2 15 then bif inb a2 15 then let m6 := (sI m 140 (ix a2) (((gI m 99 (ix ((0 : Int32)))) * (gI m 116 (ix a2))))); (fX13_know_28 k48 n) a1 ((a2 + (1 : Int32))) m6 else none else none else none
noncomputable def fX13_know_115 (k48 : Int32 → Int32 → qM → Option (Unit × qM)) (a1 : Int32) (a2 : Int32) (m : qM) : Option (Unit × qM) :=
  k48 a1 ((a2 + (1 : Int32))) m
noncomputable def fX13_know_96 (k48 : Int32 → Int32 → qM → Option (Unit × qM)) (a1 : Int32) (a2 : Int32) (s0 : Int32) (s1 : Int32) (m : qM) : Option (Unit × qM) :=
  bif inb s1 40 then let m9 := (sI m 148 (ix s1) ((nz s0))); fX13_know_115 k48 a1 a2 m9 else none
noncomputable def fX13_know_48 (k117 : qM → Option (Unit × qM)) : Nat → Int32 → Int32 → qM → Option (Unit × qM)
  | 0, _, _, _ => none
  | n + 1, a1, a2, m =>
    bif leb ((gI m 98 52)) a2 then k117 m else bif inb a2 80 then bif ltb a1 ((gI m 134 (ix a2))) then k117 m else bif inb a2 80 then bif eqb ((gI m 135 (ix a2))) ((0 : Int32)) then bif inb a2 80 then bif inb a2 80 then bif inb ((gI m 136 (ix a2))) 40 then let m8 := (sI m 139 (ix ((gI m 136 (ix a2)))) ((gI m 137 (ix a2)))); fX13_know_115 (fX13_know_48 k117 n) a1 a2 m8 else none else none else none else bif inb a2 80 then bif eqb ((gI m 135 (ix a2))) ((1 : Int32)) then bif inb a2 80 then bif inb a2 80 then bif eqb ((gI m 137 (ix a2))) ((1 : Int32)) then fX13_know_96 (fX13_know_48 k117 n) a1 a2 ((1 : Int32)) ((gI m 136 (ix a2))) m else fX13_know_96 (fX13_know_48 k117 n) a1 a2 ((0 : Int32)) ((gI m 136 (ix a2))) m else none else none else bif inb a2 80 then bif eqb ((gI m 135 (ix a2))) ((2 : Int32)) then bif inb a2 80 then bif inb a2 80 then bif inb ((gI m 136 (ix a2))) 15 then let m7 := (sI m 140 (ix ((gI m 136 (ix a2)))) ((gI m 137 (ix a2)))); fX13_know_115 (fX13_know_48 k117 n) a1 a2 m7 else none else none else none else fX13_know_115 (fX13_know_48 k117 n) a1 a2 m else none else none else none else none
noncomputable def fX13_know_117 (m : qM) : Option (Unit × qM) :=
  some ((), m)
noncomputable def fX13_know_0 (a1 : Int32) (m : qM) : Option (Unit × qM) :=
  let m1 := (sI m 98 70 a1); fX13_know_5 (fX13_know_28 (fX13_know_48 fX13_know_117 FU) FU) FU a1 ((0 : Int32)) m1
theorem fX13_know_x : ∃ f : Int32 → qM → Option (Unit × qM), f = fun a1 m => fX13_know_0 a1 m := ⟨_, rfl⟩
noncomputable def fX13_know : Int32 → qM → Option (Unit × qM) := Classical.choose fX13_know_x
theorem fX13_know_d : fX13_know = fun a1 m => fX13_know_0 a1 m := Classical.choose_spec fX13_know_x
noncomputable def fX13_isAway_41 (k2 : Int32 → Int32 → Int32 → qM → Option (Int32 × qM)) (a1 : Int32) (a2 : Int32) (a3 : Int32) (m : qM) : Option (Int32 × qM) :=
  k2 a1 a2 ((a3 + (1 : Int32))) m
noncomputable def fX13_isAway_2 (k43 : qM → Option (Int32 × qM)) : Nat → Int32 → Int32 → Int32 → qM → Option (Int32 × qM)
  | 0, _, _, _, _ => none
  | n + 1, a1, a2, a3, m =>
    bif leb ((gI m 98 52)) a3 then k43 m else bif inb a3 80 then bif ltb ((gI m 98 70)) ((gI m 134 (ix a3))) then k43 m else bif inb a3 80 then bif eqb ((gI m 135 (ix a3))) ((3 : Int32)) then bif inb a3 80 then bif eqb ((gI m 136 (ix a3))) a1 then bif inb a3 80 then bif inb a3 80 then qbI (fX13_in ((Int32.toInt64 a2)) ((Int32.toInt64 ((gI m 137 (ix a3))))) ((Int32.toInt64 ((gI m 138 (ix a3))))) m) (fun x1 m2 => bif eqb x1 ((0 : Int32)) then fX13_isAway_41 (fX13_isAway_2 k43 n) a1 a2 a3 m2 else some (nz ((1 : Int32)), m2)) else none else none else fX13_isAway_41 (fX13_isAway_2 k43 n) a1 a2 a3 m else none else fX13_isAway_41 (fX13_isAway_2 k43 n) a1 a2 a3 m else none else none
noncomputable def fX13_isAway_43 (m : qM) : Option (Int32 × qM) :=
  some (nz ((0 : Int32)), m)
noncomputable def fX13_isAway_0 (a1 : Int32) (a2 : Int32) (m : qM) : Option (Int32 × qM) :=
  fX13_isAway_2 fX13_isAway_43 FU a1 a2 ((0 : Int32)) m
theorem fX13_isAway_x : ∃ f : Int32 → Int32 → qM → Option (Int32 × qM), f = fun a1 a2 m => fX13_isAway_0 a1 a2 m := ⟨_, rfl⟩
noncomputable def fX13_isAway : Int32 → Int32 → qM → Option (Int32 × qM) := Classical.choose fX13_isAway_x
theorem fX13_isAway_d : fX13_isAway = fun a1 a2 m => fX13_isAway_0 a1 a2 m := Classical.choose_spec fX13_isAway_x
noncomputable def fX13_isOpen_20 (s0 : Int32) (m : qM) : Option (Int32 × qM) :=
  some (nz s0, m)
noncomputable def fX13_isOpen_19 (m : qM) : Option (Int32 × qM) :=
  fX13_isOpen_20 ((0 : Int32)) m
noncomputable def fX13_isOpen_0 (a1 : Int32) (m : qM) : Option (Int32 × qM) :=
  bif inb a1 40 then bif eqb ((gI m 125 (ix a1))) ((-1 : Int32)) then fX13_isOpen_19 m else bif inb a1 40 then bif eqb ((gI m 141 (ix a1))) ((-1 : Int32)) then bif inb a1 40 then bif eqb ((gI m 149 (ix a1))) ((0 : Int32)) then fX13_isOpen_20 ((1 : Int32)) m else fX13_isOpen_19 m else none else fX13_isOpen_19 m else none else none
theorem fX13_isOpen_x : ∃ f : Int32 → qM → Option (Int32 × qM), f = fun a1 m => fX13_isOpen_0 a1 m := ⟨_, rfl⟩
noncomputable def fX13_isOpen : Int32 → qM → Option (Int32 × qM) := Classical.choose fX13_isOpen_x
theorem fX13_isOpen_d : fX13_isOpen = fun a1 m => fX13_isOpen_0 a1 m := Classical.choose_spec fX13_isOpen_x
noncomputable def fX13_frontOf_38 (k4 : Int32 → Int32 → Int32 → Int32 → qM → Option (Int32 × qM)) (a1 : Int32) (a2 : Int32) (a3 : Int32) (a4 : Int32) (m : qM) : Option (Int32 × qM) :=
  k4 a1 a2 a3 ((a4 + (1 : Int32))) m
noncomputable def fX13_frontOf_36 (k4 : Int32 → Int32 → Int32 → Int32 → qM → Option (Int32 × qM)) (a1 : Int32) (a2 : Int32) (a4 : Int32) (m : qM) : Option (Int32 × qM) :=
  fX13_frontOf_38 k4 a1 a2 a4 a4 m
noncomputable def fX13_frontOf_4 : Nat → Int32 → Int32 → Int32 → Int32 → qM → Option (Int32 × qM)
  | 0, _, _, _, _, _ => none
  | n + 1, a1, a2, a3, a4, m =>
    bif leb ((gI m 98 32)) a4 then some (a3, m) else bif inb a4 40 then bif eqb ((gI m 124 (ix a4))) a1 then qbI (fX13_isOpen a4 m) (fun x1 m2 => bif eqb x1 ((0 : Int32)) then fX13_frontOf_38 (fX13_frontOf_4 n) a1 a2 a3 a4 m2 else bif inb a4 40 then bif leb ((gI m2 125 (ix a4))) a2 then fX13_frontOf_38 (fX13_frontOf_4 n) a1 a2 a3 a4 m2 else bif eqb a3 ((-1 : Int32)) then fX13_frontOf_36 (fX13_frontOf_4 n) a1 a2 a4 m2 else bif inb a4 40 then bif inb a3 40 then bif leb ((gI m2 125 (ix a3))) ((gI m2 125 (ix a4))) then fX13_frontOf_38 (fX13_frontOf_4 n) a1 a2 a3 a4 m2 else fX13_frontOf_36 (fX13_frontOf_4 n) a1 a2 a4 m2 else none else none else none) else fX13_frontOf_38 (fX13_frontOf_4 n) a1 a2 a3 a4 m else none
noncomputable def fX13_frontOf_0 (a1 : Int32) (a2 : Int32) (m : qM) : Option (Int32 × qM) :=
  fX13_frontOf_4 FU a1 a2 ((-1 : Int32)) ((0 : Int32)) m
theorem fX13_frontOf_x : ∃ f : Int32 → Int32 → qM → Option (Int32 × qM), f = fun a1 a2 m => fX13_frontOf_0 a1 a2 m := ⟨_, rfl⟩
noncomputable def fX13_frontOf : Int32 → Int32 → qM → Option (Int32 × qM) := Classical.choose fX13_frontOf_x
theorem fX13_frontOf_d : fX13_frontOf = fun a1 a2 m => fX13_frontOf_0 a1 a2 m := Classical.choose_spec fX13_frontOf_x
noncomputable def fX13_minuteOf_0 (a1 : Int32) (m : qM) : Option (Int32 × qM) :=
  bif inb ((0 : Int32)) 6 then bif inb a1 40 then some (((gI m 99 (ix ((0 : Int32)))) * (gI m 125 (ix a1))), m) else none else none
theorem fX13_minuteOf_x : ∃ f : Int32 → qM → Option (Int32 × qM), f = fun a1 m => fX13_minuteOf_0 a1 m := ⟨_, rfl⟩
noncomputable def fX13_minuteOf : Int32 → qM → Option (Int32 × qM) := Classical.choose fX13_minuteOf_x
theorem fX13_minuteOf_d : fX13_minuteOf = fun a1 m => fX13_minuteOf_0 a1 m := Classical.choose_spec fX13_minuteOf_x
noncomputable def fX13_isHere_22 (m : qM) : Option (Int32 × qM) :=
  some (nz ((0 : Int32)), m)
noncomputable def fX13_isHere_66 (s0 : Int32) (m : qM) : Option (Int32 × qM) :=
  some (nz s0, m)
noncomputable def fX13_isHere_63 (m : qM) : Option (Int32 × qM) :=
  fX13_isHere_66 ((1 : Int32)) m
noncomputable def fX13_isHere_49 (a2 : Int32) (a3 : Int32) (m : qM) : Option (Int32 × qM) :=
  bif inb a3 15 then bif eqb ((gI m 118 (ix a3))) ((0 : Int32)) then fX13_isHere_63 m else bif inb a3 15 then bif inb ((gI m 118 (ix a3))) 4 then bif ltb a2 ((gI m 147 (ix ((gI m 118 (ix a3)))))) then fX13_isHere_66 ((0 : Int32)) m else fX13_isHere_63 m else none else none else none
noncomputable def fX13_isHere_0 (a1 : Int32) (a2 : Int32) (m : qM) : Option (Int32 × qM) :=
  bif inb a1 40 then bif inb a1 40 then bif eqb ((gI m 148 (ix a1))) ((0 : Int32)) then bif inb ((gI m 123 (ix a1))) 15 then bif ltb a2 ((gI m 140 (ix ((gI m 123 (ix a1)))))) then fX13_isHere_22 m else bif inb ((gI m 123 (ix a1))) 15 then bif leb ((gI m 145 (ix ((gI m 123 (ix a1)))))) a2 then bif inb ((gI m 123 (ix a1))) 15 then bif eqb ((gI m 146 (ix ((gI m 123 (ix a1)))))) ((-1 : Int32)) then fX13_isHere_49 a2 ((gI m 123 (ix a1))) m else bif inb ((gI m 123 (ix a1))) 15 then bif inb ((gI m 123 (ix a1))) 15 then bif inb a1 40 then qbI (fX13_walkOf ((gI m 146 (ix ((gI m 123 (ix a1)))))) ((gI m 124 (ix a1))) m) (fun x1 m2 => bif leb (((gI m 145 (ix ((gI m 123 (ix a1))))) + x1)) a2 then fX13_isHere_49 a2 ((gI m 123 (ix a1))) m2 else some (nz ((0 : Int32)), m2)) else none else none else none else none else fX13_isHere_22 m else none else none else fX13_isHere_22 m else none else none
theorem fX13_isHere_x : ∃ f : Int32 → Int32 → qM → Option (Int32 × qM), f = fun a1 a2 m => fX13_isHere_0 a1 a2 m := ⟨_, rfl⟩
noncomputable def fX13_isHere : Int32 → Int32 → qM → Option (Int32 × qM) := Classical.choose fX13_isHere_x
theorem fX13_isHere_d : fX13_isHere = fun a1 a2 m => fX13_isHere_0 a1 a2 m := Classical.choose_spec fX13_isHere_x
noncomputable def fX13_seen_43 (k12 : Int32 → Int32 → Int32 → Int32 → qM → Option (Int32 × qM)) (a2 : Int32) (a3 : Int32) (a5 : Int32) (s0 : Int32) (s1 : Int32) (m : qM) : Option (Int32 × qM) :=
  k12 a2 a3 ((s1 + s0)) ((a5 + (1 : Int32))) m
noncomputable def fX13_seen_42 (k12 : Int32 → Int32 → Int32 → Int32 → qM → Option (Int32 × qM)) (a2 : Int32) (a3 : Int32) (a5 : Int32) (s0 : Int32) (m : qM) : Option (Int32 × qM) :=
  fX13_seen_43 k12 a2 a3 a5 ((0 : Int32)) s0 m
noncomputable def fX13_seen_12 : Nat → Int32 → Int32 → Int32 → Int32 → qM → Option (Int32 × qM)
  | 0, _, _, _, _, _ => none
  | n + 1, a2, a3, a4, a5, m =>
    bif leb ((gI m 98 32)) a5 then some (a4, m) else bif inb a5 40 then bif inb a2 40 then bif eqb ((gI m 124 (ix a5))) ((gI m 124 (ix a2))) then qbI (fX13_isOpen a5 m) (fun x5 m6 => bif eqb x5 ((0 : Int32)) then fX13_seen_42 (fX13_seen_12 n) a2 a3 a5 a4 m6 else qbI (fX13_minuteOf a5 m6) (fun x7 m8 => bif ltb a3 x7 then fX13_seen_42 (fX13_seen_12 n) a2 a3 a5 a4 m8 else qbI (fX13_isHere a5 a3 m8) (fun x9 m10 => bif eqb x9 ((0 : Int32)) then fX13_seen_42 (fX13_seen_12 n) a2 a3 a5 a4 m10 else fX13_seen_43 (fX13_seen_12 n) a2 a3 a5 ((1 : Int32)) a4 m10))) else fX13_seen_42 (fX13_seen_12 n) a2 a3 a5 a4 m else none else none
noncomputable def fX13_seen_72 (k51 : Int32 → Int32 → Int32 → qM → Option (Int32 × qM)) (a2 : Int32) (a5 : Int32) (s0 : Int32) (s1 : Int32) (m : qM) : Option (Int32 × qM) :=
  k51 a2 ((s1 + s0)) ((a5 + (1 : Int32))) m
noncomputable def fX13_seen_71 (k51 : Int32 → Int32 → Int32 → qM → Option (Int32 × qM)) (a2 : Int32) (a5 : Int32) (s0 : Int32) (m : qM) : Option (Int32 × qM) :=
  fX13_seen_72 k51 a2 a5 ((0 : Int32)) s0 m
noncomputable def fX13_seen_51 : Nat → Int32 → Int32 → Int32 → qM → Option (Int32 × qM)
  | 0, _, _, _, _ => none
  | n + 1, a2, a4, a5, m =>
    bif leb ((gI m 98 32)) a5 then some (a4, m) else bif inb a5 40 then bif inb a2 40 then bif eqb ((gI m 124 (ix a5))) ((gI m 124 (ix a2))) then qbI (fX13_isOpen a5 m) (fun x11 m12 => bif eqb x11 ((0 : Int32)) then fX13_seen_71 (fX13_seen_51 n) a2 a5 a4 m12 else fX13_seen_72 (fX13_seen_51 n) a2 a5 ((1 : Int32)) a4 m12) else fX13_seen_71 (fX13_seen_51 n) a2 a5 a4 m else none else none
noncomputable def fX13_seen_86 (s0 : Int32) (m : qM) : Option (Int32 × qM) :=
  some (s0, m)
noncomputable def fX13_seen_95 (s0 : Int32) (m : qM) : Option (Int32 × qM) :=
  some (s0, m)
noncomputable def fX13_seen_0 (a1 : Int32) (a2 : Int32) (a3 : Int32) (m : qM) : Option (Int32 × qM) :=
  bif eqb a1 (0 : Int32) then qbI (fX13_minuteOf a2 m) (fun x1 m2 => some ((a3 - x1), m2)) else bif eqb a1 ((0 : Int32) + 1) then fX13_seen_12 FU a2 a3 ((0 : Int32)) ((0 : Int32)) m else bif eqb a1 (((0 : Int32) + 1) + 1) then fX13_seen_51 FU a2 ((0 : Int32)) ((0 : Int32)) m else bif eqb a1 ((((0 : Int32) + 1) + 1) + 1) then bif inb a2 40 then bif eqb ((gI m 126 (ix a2))) ((0 : Int32)) then fX13_seen_86 ((0 : Int32)) m else fX13_seen_86 ((1 : Int32)) m else none else bif eqb a1 (((((0 : Int32) + 1) + 1) + 1) + 1) then qbI (fX13_isHere a2 a3 m) (fun x3 m4 => bif eqb x3 ((0 : Int32)) then fX13_seen_95 ((0 : Int32)) m4 else fX13_seen_95 ((1 : Int32)) m4) else bif inb a2 40 then some ((gI m 125 (ix a2)), m) else none
theorem fX13_seen_x : ∃ f : Int32 → Int32 → Int32 → qM → Option (Int32 × qM), f = fun a1 a2 a3 m => fX13_seen_0 a1 a2 a3 m := ⟨_, rfl⟩
noncomputable def fX13_seen : Int32 → Int32 → Int32 → qM → Option (Int32 × qM) := Classical.choose fX13_seen_x
theorem fX13_seen_d : fX13_seen = fun a1 a2 a3 m => fX13_seen_0 a1 a2 a3 m := Classical.choose_spec fX13_seen_x
noncomputable def fX13_holds_62 (k4 : Int32 → Int32 → Int32 → Int32 → qM → Option (Int32 × qM)) (a1 : Int32) (a2 : Int32) (a3 : Int32) (a4 : Int32) (s0 : Int32) (m : qM) : Option (Int32 × qM) :=
  bif eqb s0 ((0 : Int32)) then some (nz ((0 : Int32)), m) else k4 a1 a2 a3 ((a4 + (1 : Int32))) m
noncomputable def fX13_holds_4 : Nat → Int32 → Int32 → Int32 → Int32 → qM → Option (Int32 × qM)
  | 0, _, _, _, _, _ => none
  | n + 1, a1, a2, a3, a4, m =>
    bif inb a1 40 then bif leb ((((4 : Int32) * a1) + (gI m 104 (ix a1)))) a4 then some (nz ((1 : Int32)), m) else bif inb a4 160 then qbI (fX13_seen ((gI m 105 (ix a4))) a2 a3 m) (fun x1 m2 => bif inb a4 160 then bif leb ((gI m2 106 (ix a4))) ((0 : Int32)) then bif inb a4 160 then bif leb ((0 : Int32)) ((gI m2 106 (ix a4))) then bif inb a4 160 then bif eqb x1 ((gI m2 107 (ix a4))) then fX13_holds_62 (fX13_holds_4 n) a1 a2 a3 a4 ((1 : Int32)) m2 else fX13_holds_62 (fX13_holds_4 n) a1 a2 a3 a4 ((0 : Int32)) m2 else none else bif inb a4 160 then bif leb ((gI m2 107 (ix a4))) x1 then fX13_holds_62 (fX13_holds_4 n) a1 a2 a3 a4 ((0 : Int32)) m2 else fX13_holds_62 (fX13_holds_4 n) a1 a2 a3 a4 ((1 : Int32)) m2 else none else none else bif inb a4 160 then bif leb x1 ((gI m2 107 (ix a4))) then fX13_holds_62 (fX13_holds_4 n) a1 a2 a3 a4 ((0 : Int32)) m2 else fX13_holds_62 (fX13_holds_4 n) a1 a2 a3 a4 ((1 : Int32)) m2 else none else none) else none else none
noncomputable def fX13_holds_0 (a1 : Int32) (a2 : Int32) (a3 : Int32) (m : qM) : Option (Int32 × qM) :=
  fX13_holds_4 FU a1 a2 a3 (((4 : Int32) * a1)) m
theorem fX13_holds_x : ∃ f : Int32 → Int32 → Int32 → qM → Option (Int32 × qM), f = fun a1 a2 a3 m => fX13_holds_0 a1 a2 a3 m := ⟨_, rfl⟩
noncomputable def fX13_holds : Int32 → Int32 → Int32 → qM → Option (Int32 × qM) := Classical.choose fX13_holds_x
theorem fX13_holds_d : fX13_holds = fun a1 a2 a3 m => fX13_holds_0 a1 a2 a3 m := Classical.choose_spec fX13_holds_x
noncomputable def fX13_start_62 (m : qM) : Option (Unit × qM) :=
  some ((), m)
noncomputable def fX13_start_0 (a1 : Int32) (a2 : Int32) (a3 : Int32) (m : qM) : Option (Unit × qM) :=
  bif inb a1 40 then let m1 := (sI m 141 (ix a1) a2); bif inb a1 40 then let m2 := (sI m1 142 (ix a1) a3); bif inb a1 40 then bif inb ((gI m2 124 (ix a1))) 10 then let m3 := (sI m2 143 (ix ((gI m2 124 (ix a1)))) ((a2 + a3))); bif inb a1 40 then bif inb ((gI m3 123 (ix a1))) 15 then let m4 := (sI m3 145 (ix ((gI m3 123 (ix a1)))) ((a2 + a3))); bif inb a1 40 then bif inb a1 40 then bif inb ((gI m4 123 (ix a1))) 15 then let m5 := (sI m4 146 (ix ((gI m4 123 (ix a1)))) ((gI m4 124 (ix a1)))); bif inb a1 40 then bif inb ((gI m5 123 (ix a1))) 15 then bif leb ((gI m5 118 (ix ((gI m5 123 (ix a1)))))) ((0 : Int32)) then fX13_start_62 m5 else bif inb a1 40 then bif inb ((gI m5 123 (ix a1))) 15 then bif inb ((gI m5 118 (ix ((gI m5 123 (ix a1)))))) 4 then let m6 := (sI m5 147 (ix ((gI m5 118 (ix ((gI m5 123 (ix a1))))))) ((a2 + a3))); fX13_start_62 m6 else none else none else none else none else none else none else none else none else none else none else none else none else none else none
theorem fX13_start_x : ∃ f : Int32 → Int32 → Int32 → qM → Option (Unit × qM), f = fun a1 a2 a3 m => fX13_start_0 a1 a2 a3 m := ⟨_, rfl⟩
noncomputable def fX13_start : Int32 → Int32 → Int32 → qM → Option (Unit × qM) := Classical.choose fX13_start_x
theorem fX13_start_d : fX13_start = fun a1 a2 a3 m => fX13_start_0 a1 a2 a3 m := Classical.choose_spec fX13_start_x
noncomputable def fX13_does_111 (m : qM) : Option (Unit × qM) :=
  some ((), m)
noncomputable def fX13_does_74 (k94 : Int32 → Int32 → qM → Option (Unit × qM)) : Nat → Int32 → Int32 → Int32 → qM → Option (Unit × qM)
  | 0, _, _, _, _ => none
  | n + 1, a2, a3, a4, m =>
    bif eqb a4 ((-1 : Int32)) then k94 a3 a4 m else qbI (fX13_isHere a4 a3 m) (fun x13 m14 => bif eqb x13 ((0 : Int32)) then bif inb a2 40 then bif inb a4 40 then qbI (fX13_frontOf ((gI m14 124 (ix a2))) ((gI m14 125 (ix a4))) m14) (fun x15 m16 => (fX13_does_74 k94 n) a2 a3 x15 m16) else none else none else k94 a3 a4 m14)
noncomputable def fX13_does_94 (a3 : Int32) (a4 : Int32) (m : qM) : Option (Unit × qM) :=
  bif eqb a4 ((-1 : Int32)) then fX13_does_111 m else bif inb ((0 : Int32)) 6 then bif inb a4 40 then qbV (fX13_start a4 a3 (((gI m 99 (ix ((0 : Int32)))) + (gI m 139 (ix a4)))) m) (fun m17 => fX13_does_111 m17) else none else none
noncomputable def fX13_does_0 (a1 : Int32) (a2 : Int32) (a3 : Int32) (m : qM) : Option (Unit × qM) :=
  bif inb a1 40 then bif eqb ((gI m 102 (ix a1))) (0 : Int32) then bif inb a2 40 then let m1 := (sI m 149 (ix a2) ((nz ((1 : Int32))))); fX13_does_111 m1 else none else bif eqb ((gI m 102 (ix a1))) ((0 : Int32) + 1) then qbI (fX13_isHere a2 a3 m) (fun x2 m3 => bif eqb x2 ((0 : Int32)) then fX13_does_111 m3 else bif inb ((0 : Int32)) 6 then bif inb a2 40 then qbV (fX13_start a2 a3 (((gI m3 99 (ix ((0 : Int32)))) + (gI m3 139 (ix a2)))) m3) (fun m4 => fX13_does_111 m4) else none else none) else bif eqb ((gI m 102 (ix a1))) (((0 : Int32) + 1) + 1) then fX13_does_111 m else bif eqb ((gI m 102 (ix a1))) ((((0 : Int32) + 1) + 1) + 1) then bif inb a2 40 then bif inb a2 40 then qbI (fX13_frontOf ((gI m 124 (ix a2))) ((gI m 125 (ix a2))) m) (fun x5 m6 => fX13_does_74 fX13_does_94 FU a2 a3 x5 m6) else none else none else bif eqb ((gI m 102 (ix a1))) (((((0 : Int32) + 1) + 1) + 1) + 1) then qbI (fX13_isHere a2 a3 m) (fun x7 m8 => bif eqb x7 ((0 : Int32)) then fX13_does_111 m8 else bif inb ((0 : Int32)) 6 then bif inb a1 40 then qbI (fJ9_min_7cf53 ((gI m8 99 (ix ((0 : Int32))))) ((gI m8 103 (ix a1))) m8) (fun x9 m10 => qbV (fX13_start a2 a3 x9 m10) (fun m11 => fX13_does_111 m11)) else none else none) else bif eqb ((gI m 102 (ix a1))) ((((((0 : Int32) + 1) + 1) + 1) + 1) + 1) then bif inb a2 40 then bif inb a1 40 then bif inb ((gI m 124 (ix a2))) 10 then let m12 := (sI m 144 (ix ((gI m 124 (ix a2)))) ((a3 + (gI m 103 (ix a1))))); fX13_does_111 m12 else none else none else none else fX13_does_111 m else none
theorem fX13_does_x : ∃ f : Int32 → Int32 → Int32 → qM → Option (Unit × qM), f = fun a1 a2 a3 m => fX13_does_0 a1 a2 a3 m := ⟨_, rfl⟩
noncomputable def fX13_does : Int32 → Int32 → Int32 → qM → Option (Unit × qM) := Classical.choose fX13_does_x
theorem fX13_does_d : fX13_does = fun a1 a2 a3 m => fX13_does_0 a1 a2 a3 m := Classical.choose_spec fX13_does_x
noncomputable def fX13_look_13 (m : qM) : Option (Unit × qM) :=
  some ((), m)
noncomputable def fX13_look_16 (k55 : Int32 → Int32 → qM → Option (Unit × qM)) : Nat → Int32 → Int32 → Int32 → Int32 → qM → Option (Unit × qM)
  | 0, _, _, _, _, _ => none
  | n + 1, a1, a2, a3, a4, m =>
    bif inb a1 10 then bif eqb ((gI m 108 (ix a1))) ((-1 : Int32)) then k55 a2 a3 m else bif inb a1 10 then bif inb ((gI m 108 (ix a1))) 5 then bif leb ((gI m 101 (ix ((gI m 108 (ix a1)))))) a4 then k55 a2 a3 m else bif inb a1 10 then let x5 : Int32 := (((8 : Int32) * (gI m 108 (ix a1))) + a4); qbI (fX13_holds x5 a3 a2 m) (fun x6 m7 => bif eqb x6 ((0 : Int32)) then (fX13_look_16 k55 n) a1 a2 a3 ((a4 + (1 : Int32))) m7 else qbV (fX13_does x5 a3 a2 m7) (fun m8 => some ((), m8))) else none else none else none else none
noncomputable def fX13_look_89 (m : qM) : Option (Unit × qM) :=
  some ((), m)
noncomputable def fX13_look_55 (a2 : Int32) (a3 : Int32) (m : qM) : Option (Unit × qM) :=
  qbI (fX13_isHere a3 a2 m) (fun x9 m10 => bif eqb x9 ((0 : Int32)) then qbI (fX13_minuteOf a3 m10) (fun x11 m12 => bif inb ((3 : Int32)) 6 then bif leb ((a2 - x11)) ((gI m12 99 (ix ((3 : Int32))))) then fX13_look_89 m12 else bif inb a3 40 then let m13 := (sI m12 149 (ix a3) ((nz ((1 : Int32))))); fX13_look_89 m13 else none else none) else bif inb ((0 : Int32)) 6 then bif inb a3 40 then qbV (fX13_start a3 a2 (((gI m10 99 (ix ((0 : Int32)))) + (gI m10 139 (ix a3)))) m10) (fun m14 => fX13_look_89 m14) else none else none)
noncomputable def fX13_look_0 (a1 : Int32) (a2 : Int32) (m : qM) : Option (Unit × qM) :=
  qbI (fX13_frontOf a1 ((-1 : Int32)) m) (fun x1 m2 => bif eqb x1 ((-1 : Int32)) then fX13_look_13 m2 else qbI (fX13_minuteOf x1 m2) (fun x3 m4 => bif leb x3 a2 then fX13_look_16 fX13_look_55 FU a1 a2 x1 ((0 : Int32)) m4 else fX13_look_13 m4))
theorem fX13_look_x : ∃ f : Int32 → Int32 → qM → Option (Unit × qM), f = fun a1 a2 m => fX13_look_0 a1 a2 m := ⟨_, rfl⟩
noncomputable def fX13_look : Int32 → Int32 → qM → Option (Unit × qM) := Classical.choose fX13_look_x
theorem fX13_look_d : fX13_look = fun a1 a2 m => fX13_look_0 a1 a2 m := Classical.choose_spec fX13_look_x
noncomputable def fX13_goThrough_5 (k28 : Int32 → qM → Option (Unit × qM)) : Nat → Int32 → qM → Option (Unit × qM)
  | 0, _, _ => none
  | n + 1, a2, m =>
    bif leb ((gI m 98 32)) a2 then k28 ((0 : Int32)) m else bif inb a2 40 then let m2 := (sI m 141 (ix a2) ((-1 : Int32))); bif inb a2 40 then let m3 := (sI m2 142 (ix a2) ((0 : Int32))); bif inb a2 40 then let m4 := (sI m3 149 (ix a2) ((nz ((0 : Int32))))); (fX13_goThrough_5 k28 n) ((a2 + (1 : Int32))) m4 else none else none else none
noncomputable def fX13_goThrough_28 (k45 : Int32 → qM → Option (Unit × qM)) : Nat → Int32 → qM → Option (Unit × qM)
  | 0, _, _ => none
  | n + 1, a2, m =>
    bif leb ((10 : Int32)) a2 then k45 ((0 : Int32)) m else bif inb a2 10 then let m5 := (sI m 143 (ix a2) ((0 : Int32))); bif inb a2 10 then let m6 := (sI m5 144 (ix a2) ((0 : Int32))); (fX13_goThrough_28 k45 n) ((a2 + (1 : Int32))) m6 else none else none
noncomputable def fX13_goThrough_45 (k62 : Int32 → qM → Option (Unit × qM)) : Nat → Int32 → qM → Option (Unit × qM)
  | 0, _, _ => none
  | n + 1, a2, m =>
    bif leb ((15 : Int32)) a2 then k62 ((0 : Int32)) m else bif inb a2 15 then let m7 := (sI m 145 (ix a2) ((0 : Int32))); bif inb a2 15 then let m8 := (sI m7 146 (ix a2) ((-1 : Int32))); (fX13_goThrough_45 k62 n) ((a2 + (1 : Int32))) m8 else none else none
noncomputable def fX13_goThrough_62 (k74 : Int32 → qM → Option (Unit × qM)) : Nat → Int32 → qM → Option (Unit × qM)
  | 0, _, _ => none
  | n + 1, a2, m =>
    bif leb ((4 : Int32)) a2 then k74 ((0 : Int32)) m else bif inb a2 4 then let m9 := (sI m 147 (ix a2) ((0 : Int32))); (fX13_goThrough_62 k74 n) ((a2 + (1 : Int32))) m9 else none
noncomputable def fX13_goThrough_103 (k79 : Int32 → Int32 → qM → Option (Unit × qM)) (a2 : Int32) (a3 : Int32) (m : qM) : Option (Unit × qM) :=
  k79 a2 ((a3 + (1 : Int32))) m
noncomputable def fX13_goThrough_79 (k74 : Int32 → qM → Option (Unit × qM)) : Nat → Int32 → Int32 → qM → Option (Unit × qM)
  | 0, _, _, _ => none
  | n + 1, a2, a3, m =>
    bif leb ((10 : Int32)) a3 then k74 ((a2 + (1 : Int32))) m else bif inb a3 10 then bif ltb a2 ((gI m 143 (ix a3))) then fX13_goThrough_103 (fX13_goThrough_79 k74 n) a2 a3 m else bif inb a3 10 then bif ltb a2 ((gI m 144 (ix a3))) then fX13_goThrough_103 (fX13_goThrough_79 k74 n) a2 a3 m else qbI (fX13_isAway a3 a2 m) (fun x10 m11 => bif eqb x10 ((0 : Int32)) then qbV (fX13_look a3 a2 m11) (fun m12 => fX13_goThrough_103 (fX13_goThrough_79 k74 n) a2 a3 m12) else fX13_goThrough_103 (fX13_goThrough_79 k74 n) a2 a3 m11) else none else none
noncomputable def fX13_goThrough_74 (k109 : Int32 → qM → Option (Unit × qM)) : Nat → Int32 → qM → Option (Unit × qM)
  | 0, _, _ => none
  | n + 1, a2, m =>
    bif ltb ((799 : Int32)) a2 then k109 ((0 : Int32)) m else fX13_goThrough_79 (fX13_goThrough_74 k109 n) FU a2 ((0 : Int32)) m
noncomputable def fX13_goThrough_130 (k109 : Int32 → qM → Option (Unit × qM)) (a2 : Int32) (m : qM) : Option (Unit × qM) :=
  k109 ((a2 + (1 : Int32))) m
noncomputable def fX13_goThrough_109 : Nat → Int32 → qM → Option (Unit × qM)
  | 0, _, _ => none
  | n + 1, a2, m =>
    bif leb ((gI m 98 32)) a2 then some ((), m) else bif inb a2 40 then bif eqb ((gI m 125 (ix a2))) ((-1 : Int32)) then fX13_goThrough_130 (fX13_goThrough_109 n) a2 m else bif inb a2 40 then bif eqb ((gI m 141 (ix a2))) ((-1 : Int32)) then bif inb a2 40 then let m13 := (sI m 149 (ix a2) ((nz ((1 : Int32))))); fX13_goThrough_130 (fX13_goThrough_109 n) a2 m13 else none else fX13_goThrough_130 (fX13_goThrough_109 n) a2 m else none else none
noncomputable def fX13_goThrough_0 (a1 : Int32) (m : qM) : Option (Unit × qM) :=
  qbV (fX13_know a1 m) (fun m1 => fX13_goThrough_5 (fX13_goThrough_28 (fX13_goThrough_45 (fX13_goThrough_62 (fX13_goThrough_74 (fX13_goThrough_109 FU) FU) FU) FU) FU) FU ((0 : Int32)) m1)
theorem fX13_goThrough_x : ∃ f : Int32 → qM → Option (Unit × qM), f = fun a1 m => fX13_goThrough_0 a1 m := ⟨_, rfl⟩
noncomputable def fX13_goThrough : Int32 → qM → Option (Unit × qM) := Classical.choose fX13_goThrough_x
theorem fX13_goThrough_d : fX13_goThrough = fun a1 m => fX13_goThrough_0 a1 m := Classical.choose_spec fX13_goThrough_x
noncomputable def fX13_meeting_14 (m : qM) : Option (Int32 × qM) :=
  some ((-2 : Int32), m)
noncomputable def fX13_meeting_48 (s0 : Int32) (m : qM) : Option (Int32 × qM) :=
  some (s0, m)
noncomputable def fX13_meeting_57 (s0 : Int32) (m : qM) : Option (Int32 × qM) :=
  some (s0, m)
noncomputable def fX13_meeting_0 (a1 : Int32) (a2 : Int32) (a3 : Int32) (m : qM) : Option (Int32 × qM) :=
  qbI (fX13_isAsk a1 m) (fun x1 m2 => bif eqb x1 ((0 : Int32)) then fX13_meeting_14 m2 else qbI (fX13_isMinute a2 m2) (fun x3 m4 => bif eqb x3 ((0 : Int32)) then fX13_meeting_14 m4 else qbI (fX13_in ((Int32.toInt64 a3)) ((0 : Int64)) ((3 : Int64)) m4) (fun x5 m6 => bif eqb x5 ((0 : Int32)) then fX13_meeting_14 m6 else qbI (fX13_isMeeting a1 m6) (fun x7 m8 => bif eqb x7 ((0 : Int32)) then some ((-4 : Int32), m8) else qbV (fX13_goThrough a2 m8) (fun m9 => bif eqb a3 (0 : Int32) then bif inb a1 40 then some ((gI m9 141 (ix a1)), m9) else none else bif eqb a3 ((0 : Int32) + 1) then bif inb a1 40 then bif eqb ((gI m9 149 (ix a1))) ((0 : Int32)) then bif inb a1 40 then bif inb a1 40 then fX13_meeting_48 (((gI m9 141 (ix a1)) + (gI m9 142 (ix a1)))) m9 else none else none else fX13_meeting_48 ((-1 : Int32)) m9 else none else bif eqb a3 (((0 : Int32) + 1) + 1) then bif inb a1 40 then bif eqb ((gI m9 149 (ix a1))) ((0 : Int32)) then fX13_meeting_57 ((0 : Int32)) m9 else fX13_meeting_57 ((1 : Int32)) m9 else none else bif inb a1 40 then some ((gI m9 142 (ix a1)), m9) else none)))))
theorem fX13_meeting_x : ∃ f : Int32 → Int32 → Int32 → qM → Option (Int32 × qM), f = fun a1 a2 a3 m => fX13_meeting_0 a1 a2 a3 m := ⟨_, rfl⟩
noncomputable def fX13_meeting : Int32 → Int32 → Int32 → qM → Option (Int32 × qM) := Classical.choose fX13_meeting_x
theorem fX13_meeting_d : fX13_meeting = fun a1 a2 a3 m => fX13_meeting_0 a1 a2 a3 m := Classical.choose_spec fX13_meeting_x
noncomputable def fX13_off_16 (k37 : Int32 → Int32 → Int32 → qM → Option (Int32 × qM)) : Nat → Int32 → Int32 → qM → Option (Int32 × qM)
  | 0, _, _, _ => none
  | n + 1, a1, a2, m =>
    bif leb ((gI m 98 32)) a2 then qbV (fX13_goThrough ((799 : Int32)) m) (fun m4 => k37 a1 ((0 : Int32)) ((0 : Int32)) m4) else bif inb a2 40 then bif inb a2 40 then let m5 := (sI m 150 (ix a2) ((gI m 141 (ix a2)))); (fX13_off_16 k37 n) a1 ((a2 + (1 : Int32))) m5 else none else none
noncomputable def fX13_off_102 (k37 : Int32 → Int32 → Int32 → qM → Option (Int32 × qM)) (a1 : Int32) (a2 : Int32) (a3 : Int32) (m : qM) : Option (Int32 × qM) :=
  k37 a1 a2 ((a3 + (1 : Int32))) m
noncomputable def fX13_off_100 (k37 : Int32 → Int32 → Int32 → qM → Option (Int32 × qM)) (a1 : Int32) (a3 : Int32) (s0 : Int32) (s1 : Int32) (m : qM) : Option (Int32 × qM) :=
  fX13_off_102 k37 a1 ((s1 + s0)) a3 m
noncomputable def fX13_off_79 (k37 : Int32 → Int32 → Int32 → qM → Option (Int32 × qM)) (a1 : Int32) (a2 : Int32) (a3 : Int32) (a4 : Int32) (s0 : Int32) (m : qM) : Option (Int32 × qM) :=
  bif eqb a4 s0 then bif eqb a4 ((0 : Int32)) then bif inb a3 40 then bif inb a3 40 then qbI (fJ9_abs_0f7a4 (((gI m 150 (ix a3)) - (gI m 141 (ix a3)))) m) (fun x6 m7 => fX13_off_100 k37 a1 a3 x6 a2 m7) else none else none else fX13_off_100 k37 a1 a3 ((0 : Int32)) a2 m else fX13_off_100 k37 a1 a3 ((30 : Int32)) a2 m
noncomputable def fX13_off_69 (k37 : Int32 → Int32 → Int32 → qM → Option (Int32 × qM)) (a1 : Int32) (a2 : Int32) (a3 : Int32) (s0 : Int32) (m : qM) : Option (Int32 × qM) :=
  bif inb a3 40 then bif eqb ((gI m 141 (ix a3))) ((-1 : Int32)) then fX13_off_79 k37 a1 a2 a3 s0 ((1 : Int32)) m else fX13_off_79 k37 a1 a2 a3 s0 ((0 : Int32)) m else none
noncomputable def fX13_off_60 (k37 : Int32 → Int32 → Int32 → qM → Option (Int32 × qM)) (a1 : Int32) (a2 : Int32) (a3 : Int32) (m : qM) : Option (Int32 × qM) :=
  bif inb a3 40 then bif eqb ((gI m 150 (ix a3))) ((-1 : Int32)) then fX13_off_69 k37 a1 a2 a3 ((1 : Int32)) m else fX13_off_69 k37 a1 a2 a3 ((0 : Int32)) m else none
noncomputable def fX13_off_37 : Nat → Int32 → Int32 → Int32 → qM → Option (Int32 × qM)
  | 0, _, _, _, _ => none
  | n + 1, a1, a2, a3, m =>
    bif leb ((gI m 98 32)) a3 then some (a2, m) else bif inb a3 40 then bif eqb ((gI m 125 (ix a3))) ((-1 : Int32)) then fX13_off_102 (fX13_off_37 n) a1 a2 a3 m else bif inb a3 40 then bif eqb ((gI m 150 (ix a3))) ((-1 : Int32)) then fX13_off_60 (fX13_off_37 n) a1 a2 a3 m else bif inb a3 40 then bif ltb a1 ((gI m 150 (ix a3))) then fX13_off_60 (fX13_off_37 n) a1 a2 a3 m else fX13_off_102 (fX13_off_37 n) a1 a2 a3 m else none else none else none
noncomputable def fX13_off_0 (a1 : Int32) (m : qM) : Option (Int32 × qM) :=
  qbI (fX13_isMinute a1 m) (fun x1 m2 => bif eqb x1 ((0 : Int32)) then some ((-2 : Int32), m2) else bif eqb ((gI m2 98 33)) ((0 : Int32)) then some ((-4 : Int32), m2) else qbV (fX13_goThrough a1 m2) (fun m3 => fX13_off_16 (fX13_off_37 FU) FU a1 ((0 : Int32)) m3))
theorem fX13_off_x : ∃ f : Int32 → qM → Option (Int32 × qM), f = fun a1 m => fX13_off_0 a1 m := ⟨_, rfl⟩
noncomputable def fX13_off : Int32 → qM → Option (Int32 × qM) := Classical.choose fX13_off_x
theorem fX13_off_d : fX13_off = fun a1 m => fX13_off_0 a1 m := Classical.choose_spec fX13_off_x
noncomputable def fX13_nextOf_40 (k4 : Int32 → Int32 → Int32 → Int32 → qM → Option (Int32 × qM)) (a1 : Int32) (a2 : Int32) (a3 : Int32) (a4 : Int32) (m : qM) : Option (Int32 × qM) :=
  k4 a1 a2 a3 ((a4 + (1 : Int32))) m
noncomputable def fX13_nextOf_38 (k4 : Int32 → Int32 → Int32 → Int32 → qM → Option (Int32 × qM)) (a1 : Int32) (a2 : Int32) (a4 : Int32) (m : qM) : Option (Int32 × qM) :=
  fX13_nextOf_40 k4 a1 a2 a4 a4 m
noncomputable def fX13_nextOf_4 : Nat → Int32 → Int32 → Int32 → Int32 → qM → Option (Int32 × qM)
  | 0, _, _, _, _, _ => none
  | n + 1, a1, a2, a3, a4, m =>
    bif leb ((gI m 98 32)) a4 then some (a3, m) else bif inb a4 40 then bif eqb ((gI m 123 (ix a4))) a1 then bif inb a4 40 then bif eqb ((gI m 125 (ix a4))) ((-1 : Int32)) then fX13_nextOf_40 (fX13_nextOf_4 n) a1 a2 a3 a4 m else bif inb a4 40 then bif leb ((gI m 141 (ix a4))) a2 then fX13_nextOf_40 (fX13_nextOf_4 n) a1 a2 a3 a4 m else bif eqb a3 ((-1 : Int32)) then fX13_nextOf_38 (fX13_nextOf_4 n) a1 a2 a4 m else bif inb a4 40 then bif inb a3 40 then bif leb ((gI m 141 (ix a3))) ((gI m 141 (ix a4))) then fX13_nextOf_40 (fX13_nextOf_4 n) a1 a2 a3 a4 m else fX13_nextOf_38 (fX13_nextOf_4 n) a1 a2 a4 m else none else none else none else none else fX13_nextOf_40 (fX13_nextOf_4 n) a1 a2 a3 a4 m else none
noncomputable def fX13_nextOf_0 (a1 : Int32) (a2 : Int32) (m : qM) : Option (Int32 × qM) :=
  fX13_nextOf_4 FU a1 a2 ((-1 : Int32)) ((0 : Int32)) m
theorem fX13_nextOf_x : ∃ f : Int32 → Int32 → qM → Option (Int32 × qM), f = fun a1 a2 m => fX13_nextOf_0 a1 a2 m := ⟨_, rfl⟩
noncomputable def fX13_nextOf : Int32 → Int32 → qM → Option (Int32 × qM) := Classical.choose fX13_nextOf_x
theorem fX13_nextOf_d : fX13_nextOf = fun a1 a2 m => fX13_nextOf_0 a1 a2 m := Classical.choose_spec fX13_nextOf_x
noncomputable def fX13_next_7 (m : qM) : Option (Int32 × qM) :=
  some ((-2 : Int32), m)
noncomputable def fX13_next_0 (a1 : Int32) (a2 : Int32) (m : qM) : Option (Int32 × qM) :=
  qbI (fX13_isFamily a1 m) (fun x1 m2 => bif eqb x1 ((0 : Int32)) then fX13_next_7 m2 else qbI (fX13_isMinute a2 m2) (fun x3 m4 => bif eqb x3 ((0 : Int32)) then fX13_next_7 m4 else bif eqb ((gI m4 98 33)) ((0 : Int32)) then some ((-4 : Int32), m4) else qbV (fX13_goThrough a2 m4) (fun m5 => qbI (fX13_nextOf a1 a2 m5) (fun x6 m7 => some (x6, m7)))))
theorem fX13_next_x : ∃ f : Int32 → Int32 → qM → Option (Int32 × qM), f = fun a1 a2 m => fX13_next_0 a1 a2 m := ⟨_, rfl⟩
noncomputable def fX13_next : Int32 → Int32 → qM → Option (Int32 × qM) := Classical.choose fX13_next_x
theorem fX13_next_d : fX13_next = fun a1 a2 m => fX13_next_0 a1 a2 m := Classical.choose_spec fX13_next_x
noncomputable def fX13_messages_83 (k14 : Int32 → Int32 → Int32 → qM → Option (Int32 × qM)) (a1 : Int32) (a2 : Int32) (a3 : Int32) (m : qM) : Option (Int32 × qM) :=
  k14 a1 a2 ((a3 + (1 : Int32))) m
noncomputable def fX13_messages_81 (k14 : Int32 → Int32 → Int32 → qM → Option (Int32 × qM)) (a1 : Int32) (a3 : Int32) (s0 : Int32) (s1 : Int32) (m : qM) : Option (Int32 × qM) :=
  fX13_messages_83 k14 a1 ((s1 + s0)) a3 m
noncomputable def fX13_messages_78 (k14 : Int32 → Int32 → Int32 → qM → Option (Int32 × qM)) (a1 : Int32) (a3 : Int32) (s0 : Int32) (m : qM) : Option (Int32 × qM) :=
  fX13_messages_81 k14 a1 a3 ((1 : Int32)) s0 m
noncomputable def fX13_messages_80 (k14 : Int32 → Int32 → Int32 → qM → Option (Int32 × qM)) (a1 : Int32) (a3 : Int32) (s0 : Int32) (m : qM) : Option (Int32 × qM) :=
  fX13_messages_81 k14 a1 a3 ((0 : Int32)) s0 m
noncomputable def fX13_messages_53 (k14 : Int32 → Int32 → Int32 → qM → Option (Int32 × qM)) (a1 : Int32) (a2 : Int32) (a3 : Int32) (a4 : Int32) (a5 : Int32) (s0 : Int32) (m : qM) : Option (Int32 × qM) :=
  qbV (fX13_goThrough a4 m) (fun m6 => qbI (fX13_nextOf a1 a4 m6) (fun x7 m8 => bif eqb x7 a5 then bif eqb x7 ((-1 : Int32)) then fX13_messages_80 k14 a1 a3 a2 m8 else bif inb x7 40 then qbI (fJ9_abs_0f7a4 (((gI m8 141 (ix x7)) - s0)) m8) (fun x9 m10 => bif ltb x9 ((5 : Int32)) then fX13_messages_80 k14 a1 a3 a2 m10 else fX13_messages_78 k14 a1 a3 a2 m10) else none else fX13_messages_78 k14 a1 a3 a2 m8))
noncomputable def fX13_messages_34 (k14 : Int32 → Int32 → Int32 → qM → Option (Int32 × qM)) (a1 : Int32) (a2 : Int32) (a3 : Int32) (a4 : Int32) (m : qM) : Option (Int32 × qM) :=
  qbV (fX13_goThrough ((a4 - (1 : Int32))) m) (fun m3 => qbI (fX13_nextOf a1 a4 m3) (fun x4 m5 => bif eqb x4 ((-1 : Int32)) then fX13_messages_53 k14 a1 a2 a3 a4 x4 ((-1 : Int32)) m5 else bif inb x4 40 then fX13_messages_53 k14 a1 a2 a3 a4 x4 ((gI m5 141 (ix x4))) m5 else none))
noncomputable def fX13_messages_14 : Nat → Int32 → Int32 → Int32 → qM → Option (Int32 × qM)
  | 0, _, _, _, _ => none
  | n + 1, a1, a2, a3, m =>
    bif leb ((gI m 98 52)) a3 then some (a2, m) else bif inb a3 80 then bif leb a3 ((0 : Int32)) then fX13_messages_34 (fX13_messages_14 n) a1 a2 a3 ((gI m 134 (ix a3))) m else bif inb ((a3 - (1 : Int32))) 80 then bif eqb ((gI m 134 (ix ((a3 - (1 : Int32)))))) ((gI m 134 (ix a3))) then fX13_messages_83 (fX13_messages_14 n) a1 a2 a3 m else fX13_messages_34 (fX13_messages_14 n) a1 a2 a3 ((gI m 134 (ix a3))) m else none else none
noncomputable def fX13_messages_0 (a1 : Int32) (m : qM) : Option (Int32 × qM) :=
  qbI (fX13_isFamily a1 m) (fun x1 m2 => bif eqb x1 ((0 : Int32)) then some ((-2 : Int32), m2) else bif eqb ((gI m2 98 33)) ((0 : Int32)) then some ((-4 : Int32), m2) else fX13_messages_14 FU a1 ((0 : Int32)) ((0 : Int32)) m2)
theorem fX13_messages_x : ∃ f : Int32 → qM → Option (Int32 × qM), f = fun a1 m => fX13_messages_0 a1 m := ⟨_, rfl⟩
noncomputable def fX13_messages : Int32 → qM → Option (Int32 × qM) := Classical.choose fX13_messages_x
theorem fX13_messages_d : fX13_messages = fun a1 m => fX13_messages_0 a1 m := Classical.choose_spec fX13_messages_x
noncomputable def fX13_mend_31 (k18 : Int32 → Int32 → Int32 → qM → Option (Int32 × qM)) (a1 : Int32) (a3 : Int32) (s0 : Int32) (s1 : Int32) (m : qM) : Option (Int32 × qM) :=
  k18 a1 ((s1 + s0)) ((a3 + (1 : Int32))) m
noncomputable def fX13_mend_18 (k45 : Int32 → Int32 → qM → Option (Int32 × qM)) : Nat → Int32 → Int32 → Int32 → qM → Option (Int32 × qM)
  | 0, _, _, _, _ => none
  | n + 1, a1, a2, a3, m =>
    bif leb ((gI m 98 32)) a3 then bif leb a2 ((4 : Int32)) then let m4 := (sI m 98 43 ((0 : Int32))); k45 a1 ((0 : Int32)) m4 else some ((-3 : Int32), m) else bif inb a3 40 then bif eqb ((gI m 149 (ix a3))) ((0 : Int32)) then fX13_mend_31 (fX13_mend_18 k45 n) a1 a3 ((0 : Int32)) a2 m else fX13_mend_31 (fX13_mend_18 k45 n) a1 a3 ((1 : Int32)) a2 m else none
noncomputable def fX13_mend_76 (k45 : Int32 → Int32 → qM → Option (Int32 × qM)) (a1 : Int32) (a3 : Int32) (m : qM) : Option (Int32 × qM) :=
  k45 a1 ((a3 + (1 : Int32))) m
noncomputable def fX13_mend_45 (k80 : Int32 → Int32 → qM → Option (Int32 × qM)) : Nat → Int32 → Int32 → qM → Option (Int32 × qM)
  | 0, _, _, _ => none
  | n + 1, a1, a3, m =>
    bif leb ((gI m 98 32)) a3 then k80 a1 ((0 : Int32)) m else bif inb a3 40 then bif eqb ((gI m 149 (ix a3))) ((0 : Int32)) then fX13_mend_76 (fX13_mend_45 k80 n) a1 a3 m else bif inb ((gI m 98 43)) 4 then let m5 := (sI m 129 (ix ((gI m 98 43))) a3); bif inb a3 40 then bif inb ((gI m5 98 43)) 4 then let m6 := (sI m5 131 (ix ((gI m5 98 43))) ((gI m5 125 (ix a3)))); let m7 := (sI m6 98 43 (((gI m6 98 43) + (1 : Int32)))); fX13_mend_76 (fX13_mend_45 k80 n) a1 a3 m7 else none else none else none else none
noncomputable def fX13_mend_80 (k116 : Int32 → Int32 → qM → Option (Int32 × qM)) : Nat → Int32 → Int32 → qM → Option (Int32 × qM)
  | 0, _, _, _ => none
  | n + 1, a1, a3, m =>
    bif leb ((gI m 98 43)) a3 then bif inb ((0 : Int32)) 6 then bif inb ((0 : Int32)) 6 then bif eqb ((gI m 99 (ix ((0 : Int32))))) (0 : Int32) then none else qbI (fJ9_min_7cf53 ((20 : Int32)) ((((a1 + (gI m 99 (ix ((0 : Int32))))) - (1 : Int32)) / (gI m 99 (ix ((0 : Int32)))))) m) (fun x8 m9 => qbI (fX13_layBest x8 m9) (fun x10 m11 => k116 ((0 : Int32)) ((0 : Int32)) m11)) else none else none else bif inb a3 4 then bif inb ((gI m 129 (ix a3))) 40 then let m12 := (sI m 125 (ix ((gI m 129 (ix a3)))) ((-1 : Int32))); (fX13_mend_80 k116 n) a1 ((a3 + (1 : Int32))) m12 else none else none
noncomputable def fX13_mend_136 (k116 : Int32 → Int32 → qM → Option (Int32 × qM)) (a5 : Int32) (s0 : Int32) (s1 : Int32) (m : qM) : Option (Int32 × qM) :=
  k116 ((s1 + s0)) ((a5 + (1 : Int32))) m
noncomputable def fX13_mend_116 : Nat → Int32 → Int32 → qM → Option (Int32 × qM)
  | 0, _, _, _ => none
  | n + 1, a4, a5, m =>
    bif leb ((gI m 98 43)) a5 then some (a4, m) else bif inb a5 4 then bif inb ((gI m 129 (ix a5))) 40 then bif inb a5 4 then bif eqb ((gI m 125 (ix ((gI m 129 (ix a5)))))) ((gI m 131 (ix a5))) then fX13_mend_136 (fX13_mend_116 n) a5 ((0 : Int32)) a4 m else fX13_mend_136 (fX13_mend_116 n) a5 ((1 : Int32)) a4 m else none else none else none
noncomputable def fX13_mend_0 (a1 : Int32) (m : qM) : Option (Int32 × qM) :=
  qbI (fX13_isMinute a1 m) (fun x1 m2 => bif eqb x1 ((0 : Int32)) then some ((-2 : Int32), m2) else bif eqb ((gI m2 98 33)) ((0 : Int32)) then some ((-4 : Int32), m2) else qbV (fX13_goThrough a1 m2) (fun m3 => fX13_mend_18 (fX13_mend_45 (fX13_mend_80 (fX13_mend_116 FU) FU) FU) FU a1 ((0 : Int32)) ((0 : Int32)) m3))
theorem fX13_mend_x : ∃ f : Int32 → qM → Option (Int32 × qM), f = fun a1 m => fX13_mend_0 a1 m := ⟨_, rfl⟩
noncomputable def fX13_mend : Int32 → qM → Option (Int32 × qM) := Classical.choose fX13_mend_x
theorem fX13_mend_d : fX13_mend = fun a1 m => fX13_mend_0 a1 m := Classical.choose_spec fX13_mend_x
noncomputable def fX13_note_19 (k38 : Int32 → Int32 → qM → Option (Int32 × qM)) : Nat → Int32 → Int32 → qM → Option (Int32 × qM)
  | 0, _, _, _ => none
  | n + 1, a1, a2, m =>
    bif leb ((gI m 98 13)) a2 then k38 a1 ((0 : Int32)) m else bif inb a2 400 then qbI (fX13_in ((Int32.toInt64 ((gI m 110 (ix a2))))) ((32 : Int64)) ((126 : Int64)) m) (fun x6 m7 => bif eqb x6 ((0 : Int32)) then some ((-1 : Int32), m7) else (fX13_note_19 k38 n) a1 ((a2 + (1 : Int32))) m7) else none
noncomputable def fX13_note_38 : Nat → Int32 → Int32 → qM → Option (Int32 × qM)
  | 0, _, _, _ => none
  | n + 1, a1, a2, m =>
    bif leb ((gI m 98 13)) a2 then bif inb a1 40 then let m8 := (sI m 151 (ix a1) ((gI m 98 13))); some ((gI m8 98 13), m8) else none else bif inb a2 400 then bif inb ((((60 : Int32) * a1) + a2)) 2400 then let m9 := (sI m 153 (ix ((((60 : Int32) * a1) + a2))) ((nb ((gI m 110 (ix a2)))))); (fX13_note_38 n) a1 ((a2 + (1 : Int32))) m9 else none else none
noncomputable def fX13_note_0 (a1 : Int32) (m : qM) : Option (Int32 × qM) :=
  qbV (fX13_open m) (fun m1 => qbI (fX13_isAsk a1 m1) (fun x2 m3 => bif eqb x2 ((0 : Int32)) then some ((-2 : Int32), m3) else qbI (fX13_in ((Int32.toInt64 ((gI m3 98 13)))) ((1 : Int64)) ((60 : Int64)) m3) (fun x4 m5 => bif eqb x4 ((0 : Int32)) then some ((-1 : Int32), m5) else fX13_note_19 (fX13_note_38 FU) FU a1 ((0 : Int32)) m5)))
theorem fX13_note_x : ∃ f : Int32 → qM → Option (Int32 × qM), f = fun a1 m => fX13_note_0 a1 m := ⟨_, rfl⟩
noncomputable def fX13_note : Int32 → qM → Option (Int32 × qM) := Classical.choose fX13_note_x
theorem fX13_note_d : fX13_note = fun a1 m => fX13_note_0 a1 m := Classical.choose_spec fX13_note_x
noncomputable def fX13_let_7 (m : qM) : Option (Int32 × qM) :=
  some ((-2 : Int32), m)
noncomputable def fX13_let_33 (s0 : Int32) (m : qM) : Option (Int32 × qM) :=
  some (s0, m)
noncomputable def fX13_let_0 (a1 : Int32) (a2 : Int32) (a3 : Int32) (m : qM) : Option (Int32 × qM) :=
  qbI (fX13_isAsk a1 m) (fun x1 m2 => bif eqb x1 ((0 : Int32)) then fX13_let_7 m2 else qbI (fX13_isTeacher a2 m2) (fun x3 m4 => bif eqb x3 ((0 : Int32)) then fX13_let_7 m4 else bif inb ((((10 : Int32) * a1) + a2)) 400 then let x5 : Int32 := (gI m4 154 (ix ((((10 : Int32) * a1) + a2)))); bif inb ((((10 : Int32) * a1) + a2)) 400 then let m6 := (sI m4 154 (ix ((((10 : Int32) * a1) + a2))) ((nz a3))); bif eqb x5 a3 then fX13_let_33 ((0 : Int32)) m6 else fX13_let_33 ((1 : Int32)) m6 else none else none))
theorem fX13_let_x : ∃ f : Int32 → Int32 → Int32 → qM → Option (Int32 × qM), f = fun a1 a2 a3 m => fX13_let_0 a1 a2 a3 m := ⟨_, rfl⟩
noncomputable def fX13_let : Int32 → Int32 → Int32 → qM → Option (Int32 × qM) := Classical.choose fX13_let_x
theorem fX13_let_d : fX13_let = fun a1 a2 a3 m => fX13_let_0 a1 a2 a3 m := Classical.choose_spec fX13_let_x
noncomputable def fX13_mayRead_18 (s0 : Int32) (m : qM) : Option (Int32 × qM) :=
  some (nz s0, m)
noncomputable def fX13_mayRead_15 (m : qM) : Option (Int32 × qM) :=
  fX13_mayRead_18 ((1 : Int32)) m
noncomputable def fX13_mayRead_0 (a1 : Int32) (a2 : Int32) (m : qM) : Option (Int32 × qM) :=
  bif inb a2 40 then bif eqb ((gI m 124 (ix a2))) a1 then fX13_mayRead_15 m else bif inb ((((10 : Int32) * a2) + a1)) 400 then bif eqb ((gI m 154 (ix ((((10 : Int32) * a2) + a1))))) ((0 : Int32)) then fX13_mayRead_18 ((0 : Int32)) m else fX13_mayRead_15 m else none else none
theorem fX13_mayRead_x : ∃ f : Int32 → Int32 → qM → Option (Int32 × qM), f = fun a1 a2 m => fX13_mayRead_0 a1 a2 m := ⟨_, rfl⟩
noncomputable def fX13_mayRead : Int32 → Int32 → qM → Option (Int32 × qM) := Classical.choose fX13_mayRead_x
theorem fX13_mayRead_d : fX13_mayRead = fun a1 a2 m => fX13_mayRead_0 a1 a2 m := Classical.choose_spec fX13_mayRead_x
noncomputable def fX13_read_7 (m : qM) : Option (Int32 × qM) :=
  some ((-2 : Int32), m)
noncomputable def fX13_read_36 (s0 : Int32) (m : qM) : Option (Int32 × qM) :=
  some (s0, m)
noncomputable def fX13_read_35 (m : qM) : Option (Int32 × qM) :=
  fX13_read_36 ((-1 : Int32)) m
noncomputable def fX13_read_0 (a1 : Int32) (a2 : Int32) (a3 : Int32) (m : qM) : Option (Int32 × qM) :=
  qbI (fX13_isTeacher a1 m) (fun x1 m2 => bif eqb x1 ((0 : Int32)) then fX13_read_7 m2 else qbI (fX13_isAsk a2 m2) (fun x3 m4 => bif eqb x3 ((0 : Int32)) then fX13_read_7 m4 else qbI (fX13_mayRead a1 a2 m4) (fun x5 m6 => bif eqb x5 ((0 : Int32)) then fX13_read_35 m6 else bif inb a2 40 then qbI (fX13_in ((Int32.toInt64 a3)) ((0 : Int64)) (((Int32.toInt64 ((gI m6 151 (ix a2)))) - (1 : Int64))) m6) (fun x7 m8 => bif eqb x7 ((0 : Int32)) then fX13_read_35 m8 else bif inb ((((60 : Int32) * a2) + a3)) 2400 then fX13_read_36 ((gI m8 153 (ix ((((60 : Int32) * a2) + a3))))) m8 else none) else none)))
theorem fX13_read_x : ∃ f : Int32 → Int32 → Int32 → qM → Option (Int32 × qM), f = fun a1 a2 a3 m => fX13_read_0 a1 a2 a3 m := ⟨_, rfl⟩
noncomputable def fX13_read : Int32 → Int32 → Int32 → qM → Option (Int32 × qM) := Classical.choose fX13_read_x
theorem fX13_read_d : fX13_read = fun a1 a2 a3 m => fX13_read_0 a1 a2 a3 m := Classical.choose_spec fX13_read_x
noncomputable def fX13_small_11 (s0 : Int32) (m : qM) : Option (Int32 × qM) :=
  some (s0, m)
noncomputable def fX13_small_10 (a0 : Int32) (m : qM) : Option (Int32 × qM) :=
  fX13_small_11 a0 m
noncomputable def fX13_small_0 (a0 : Int32) (m : qM) : Option (Int32 × qM) :=
  bif ltb a0 ((65 : Int32)) then fX13_small_10 a0 m else bif ltb ((90 : Int32)) a0 then fX13_small_10 a0 m else fX13_small_11 ((a0 + (32 : Int32))) m
theorem fX13_small_x : ∃ f : Int32 → qM → Option (Int32 × qM), f = fun a0 m => fX13_small_0 a0 m := ⟨_, rfl⟩
noncomputable def fX13_small : Int32 → qM → Option (Int32 × qM) := Classical.choose fX13_small_x
theorem fX13_small_d : fX13_small = fun a0 m => fX13_small_0 a0 m := Classical.choose_spec fX13_small_x
noncomputable def fX13_isLetterAt_26 (s0 : Int32) (m : qM) : Option (Int32 × qM) :=
  some (nz s0, m)
noncomputable def fX13_isLetterAt_25 (m : qM) : Option (Int32 × qM) :=
  fX13_isLetterAt_26 ((0 : Int32)) m
noncomputable def fX13_isLetterAt_0 (a1 : Int32) (a2 : Int32) (m : qM) : Option (Int32 × qM) :=
  bif inb a1 40 then qbI (fX13_in ((Int32.toInt64 a2)) ((0 : Int64)) (((Int32.toInt64 ((gI m 151 (ix a1)))) - (1 : Int64))) m) (fun x1 m2 => bif eqb x1 ((0 : Int32)) then fX13_isLetterAt_25 m2 else bif inb ((((60 : Int32) * a1) + a2)) 2400 then qbI (fX13_small ((gI m2 153 (ix ((((60 : Int32) * a1) + a2))))) m2) (fun x3 m4 => qbI (fX13_isSmall x3 m4) (fun x5 m6 => bif eqb x5 ((0 : Int32)) then fX13_isLetterAt_25 m6 else fX13_isLetterAt_26 ((1 : Int32)) m6)) else none) else none
theorem fX13_isLetterAt_x : ∃ f : Int32 → Int32 → qM → Option (Int32 × qM), f = fun a1 a2 m => fX13_isLetterAt_0 a1 a2 m := ⟨_, rfl⟩
noncomputable def fX13_isLetterAt : Int32 → Int32 → qM → Option (Int32 × qM) := Classical.choose fX13_isLetterAt_x
theorem fX13_isLetterAt_d : fX13_isLetterAt = fun a1 a2 m => fX13_isLetterAt_0 a1 a2 m := Classical.choose_spec fX13_isLetterAt_x
noncomputable def fX13_hasWord_66 (k2 : Int32 → Int32 → qM → Option (Int32 × qM)) (a1 : Int32) (a2 : Int32) (m : qM) : Option (Int32 × qM) :=
  k2 a1 ((a2 + (1 : Int32))) m
noncomputable def fX13_hasWord_23 (k53 : Int32 → Int32 → Int32 → qM → Option (Int32 × qM)) : Nat → Int32 → Int32 → Int32 → qM → Option (Int32 × qM)
  | 0, _, _, _, _ => none
  | n + 1, a1, a2, a3, m =>
    bif leb ((gI m 98 13)) a3 then k53 a1 a2 a3 m else qbI (fX13_isLetterAt a1 ((a2 + a3)) m) (fun x5 m6 => bif eqb x5 ((0 : Int32)) then k53 a1 a2 a3 m6 else bif inb (((((60 : Int32) * a1) + a2) + a3)) 2400 then qbI (fX13_small ((gI m6 153 (ix (((((60 : Int32) * a1) + a2) + a3))))) m6) (fun x7 m8 => bif inb a3 400 then qbI (fX13_small ((gI m8 110 (ix a3))) m8) (fun x9 m10 => bif eqb x7 x9 then (fX13_hasWord_23 k53 n) a1 a2 ((a3 + (1 : Int32))) m10 else k53 a1 a2 a3 m10) else none) else none)
noncomputable def fX13_hasWord_53 (k2 : Int32 → Int32 → qM → Option (Int32 × qM)) (a1 : Int32) (a2 : Int32) (a3 : Int32) (m : qM) : Option (Int32 × qM) :=
  bif eqb a3 ((gI m 98 13)) then qbI (fX13_isLetterAt a1 ((a2 + a3)) m) (fun x11 m12 => bif eqb x11 ((0 : Int32)) then some (nz ((1 : Int32)), m12) else fX13_hasWord_66 k2 a1 a2 m12) else fX13_hasWord_66 k2 a1 a2 m
noncomputable def fX13_hasWord_2 : Nat → Int32 → Int32 → qM → Option (Int32 × qM)
  | 0, _, _, _ => none
  | n + 1, a1, a2, m =>
    bif inb a1 40 then bif leb ((gI m 151 (ix a1))) a2 then some (nz ((0 : Int32)), m) else qbI (fX13_isLetterAt a1 a2 m) (fun x1 m2 => bif eqb x1 ((0 : Int32)) then fX13_hasWord_66 (fX13_hasWord_2 n) a1 a2 m2 else qbI (fX13_isLetterAt a1 ((a2 - (1 : Int32))) m2) (fun x3 m4 => bif eqb x3 ((0 : Int32)) then fX13_hasWord_23 (fX13_hasWord_53 (fX13_hasWord_2 n)) FU a1 a2 ((0 : Int32)) m4 else fX13_hasWord_66 (fX13_hasWord_2 n) a1 a2 m4)) else none
noncomputable def fX13_hasWord_0 (a1 : Int32) (m : qM) : Option (Int32 × qM) :=
  fX13_hasWord_2 FU a1 ((0 : Int32)) m
theorem fX13_hasWord_x : ∃ f : Int32 → qM → Option (Int32 × qM), f = fun a1 m => fX13_hasWord_0 a1 m := ⟨_, rfl⟩
noncomputable def fX13_hasWord : Int32 → qM → Option (Int32 × qM) := Classical.choose fX13_hasWord_x
theorem fX13_hasWord_d : fX13_hasWord = fun a1 m => fX13_hasWord_0 a1 m := Classical.choose_spec fX13_hasWord_x
noncomputable def fX13_find_18 (k38 : Int32 → Int32 → qM → Option (Int32 × qM)) : Nat → Int32 → Int32 → qM → Option (Int32 × qM)
  | 0, _, _, _ => none
  | n + 1, a1, a2, m =>
    bif leb ((gI m 98 13)) a2 then let m6 := (sI m 98 75 ((0 : Int32))); k38 a1 ((0 : Int32)) m6 else bif inb a2 400 then qbI (fX13_small ((gI m 110 (ix a2))) m) (fun x7 m8 => qbI (fX13_isSmall x7 m8) (fun x9 m10 => bif eqb x9 ((0 : Int32)) then some ((-1 : Int32), m10) else (fX13_find_18 k38 n) a1 ((a2 + (1 : Int32))) m10)) else none
noncomputable def fX13_find_64 (k38 : Int32 → Int32 → qM → Option (Int32 × qM)) (a1 : Int32) (a2 : Int32) (m : qM) : Option (Int32 × qM) :=
  k38 a1 ((a2 + (1 : Int32))) m
noncomputable def fX13_find_38 : Nat → Int32 → Int32 → qM → Option (Int32 × qM)
  | 0, _, _, _ => none
  | n + 1, a1, a2, m =>
    bif leb ((gI m 98 32)) a2 then some ((gI m 98 75), m) else qbI (fX13_mayRead a1 a2 m) (fun x11 m12 => bif eqb x11 ((0 : Int32)) then fX13_find_64 (fX13_find_38 n) a1 a2 m12 else qbI (fX13_hasWord a2 m12) (fun x13 m14 => bif eqb x13 ((0 : Int32)) then fX13_find_64 (fX13_find_38 n) a1 a2 m14 else bif inb ((gI m14 98 75)) 40 then let m15 := (sI m14 152 (ix ((gI m14 98 75))) a2); let m16 := (sI m15 98 75 (((gI m15 98 75) + (1 : Int32)))); fX13_find_64 (fX13_find_38 n) a1 a2 m16 else none))
noncomputable def fX13_find_0 (a1 : Int32) (m : qM) : Option (Int32 × qM) :=
  qbV (fX13_open m) (fun m1 => qbI (fX13_isTeacher a1 m1) (fun x2 m3 => bif eqb x2 ((0 : Int32)) then some ((-2 : Int32), m3) else qbI (fX13_in ((Int32.toInt64 ((gI m3 98 13)))) ((1 : Int64)) ((20 : Int64)) m3) (fun x4 m5 => bif eqb x4 ((0 : Int32)) then some ((-1 : Int32), m5) else fX13_find_18 (fX13_find_38 FU) FU a1 ((0 : Int32)) m5)))
theorem fX13_find_x : ∃ f : Int32 → qM → Option (Int32 × qM), f = fun a1 m => fX13_find_0 a1 m := ⟨_, rfl⟩
noncomputable def fX13_find : Int32 → qM → Option (Int32 × qM) := Classical.choose fX13_find_x
theorem fX13_find_d : fX13_find = fun a1 m => fX13_find_0 a1 m := Classical.choose_spec fX13_find_x
noncomputable def fX13_found_16 (s0 : Int32) (m : qM) : Option (Int32 × qM) :=
  some (s0, m)
noncomputable def fX13_found_0 (a1 : Int32) (m : qM) : Option (Int32 × qM) :=
  qbI (fX13_in ((Int32.toInt64 a1)) ((0 : Int64)) (((Int32.toInt64 ((gI m 98 75))) - (1 : Int64))) m) (fun x1 m2 => bif eqb x1 ((0 : Int32)) then fX13_found_16 ((-1 : Int32)) m2 else bif inb a1 40 then fX13_found_16 ((gI m2 152 (ix a1))) m2 else none)
theorem fX13_found_x : ∃ f : Int32 → qM → Option (Int32 × qM), f = fun a1 m => fX13_found_0 a1 m := ⟨_, rfl⟩
noncomputable def fX13_found : Int32 → qM → Option (Int32 × qM) := Classical.choose fX13_found_x
theorem fX13_found_d : fX13_found = fun a1 m => fX13_found_0 a1 m := Classical.choose_spec fX13_found_x
noncomputable def fX13_count_44 (k25 : Int32 → Int32 → qM → Option (Int32 × qM)) (a3 : Int32) (s0 : Int32) (s1 : Int32) (m : qM) : Option (Int32 × qM) :=
  k25 ((s1 + s0)) ((a3 + (1 : Int32))) m
noncomputable def fX13_count_43 (k25 : Int32 → Int32 → qM → Option (Int32 × qM)) (a3 : Int32) (s0 : Int32) (m : qM) : Option (Int32 × qM) :=
  fX13_count_44 k25 a3 ((0 : Int32)) s0 m
noncomputable def fX13_count_25 : Nat → Int32 → Int32 → qM → Option (Int32 × qM)
  | 0, _, _, _ => none
  | n + 1, a2, a3, m =>
    bif leb ((gI m 98 32)) a3 then some (a2, m) else bif inb a3 40 then bif eqb ((gI m 126 (ix a3))) ((0 : Int32)) then fX13_count_43 (fX13_count_25 n) a3 a2 m else bif inb a3 40 then bif eqb ((gI m 125 (ix a3))) ((-1 : Int32)) then fX13_count_44 (fX13_count_25 n) a3 ((1 : Int32)) a2 m else fX13_count_43 (fX13_count_25 n) a3 a2 m else none else none
noncomputable def fX13_count_56 (s0 : Int32) (m : qM) : Option (Int32 × qM) :=
  some (s0, m)
noncomputable def fX13_count_84 (k68 : Int32 → Int32 → qM → Option (Int32 × qM)) (a3 : Int32) (s0 : Int32) (s1 : Int32) (m : qM) : Option (Int32 × qM) :=
  k68 ((s1 + s0)) ((a3 + (1 : Int32))) m
noncomputable def fX13_count_68 (k88 : Int32 → qM → Option (Int32 × qM)) : Nat → Int32 → Int32 → qM → Option (Int32 × qM)
  | 0, _, _, _ => none
  | n + 1, a2, a3, m =>
    bif leb ((gI m 98 32)) a3 then k88 a2 m else bif eqb ((gI m 98 33)) ((0 : Int32)) then k88 a2 m else bif inb a3 40 then bif eqb ((gI m 149 (ix a3))) ((0 : Int32)) then fX13_count_84 (fX13_count_68 k88 n) a3 ((0 : Int32)) a2 m else fX13_count_84 (fX13_count_68 k88 n) a3 ((1 : Int32)) a2 m else none
noncomputable def fX13_count_88 (a2 : Int32) (m : qM) : Option (Int32 × qM) :=
  some (a2, m)
noncomputable def fX13_count_66 (a2 : Int32) (m : qM) : Option (Int32 × qM) :=
  fX13_count_68 fX13_count_88 FU a2 ((0 : Int32)) m
noncomputable def fX13_count_123 (k98 : Int32 → Int32 → qM → Option (Int32 × qM)) (a2 : Int32) (a3 : Int32) (m : qM) : Option (Int32 × qM) :=
  k98 a2 ((a3 + (1 : Int32))) m
noncomputable def fX13_count_98 (k125 : Int32 → qM → Option (Int32 × qM)) : Nat → Int32 → Int32 → qM → Option (Int32 × qM)
  | 0, _, _, _ => none
  | n + 1, a2, a3, m =>
    bif leb ((gI m 98 32)) a3 then k125 a2 m else bif eqb ((gI m 98 33)) ((0 : Int32)) then k125 a2 m else bif inb a3 40 then bif eqb ((gI m 141 (ix a3))) ((-1 : Int32)) then fX13_count_123 (fX13_count_98 k125 n) a2 a3 m else bif inb a3 40 then bif inb a3 40 then qbI (fJ9_max_7cf53 a2 (((gI m 141 (ix a3)) + (gI m 142 (ix a3)))) m) (fun x7 m8 => fX13_count_123 (fX13_count_98 k125 n) x7 a3 m8) else none else none else none
noncomputable def fX13_count_125 (a2 : Int32) (m : qM) : Option (Int32 × qM) :=
  some (a2, m)
noncomputable def fX13_count_96 (a2 : Int32) (m : qM) : Option (Int32 × qM) :=
  fX13_count_98 fX13_count_125 FU a2 ((0 : Int32)) m
noncomputable def fX13_count_145 (k132 : Int32 → Int32 → qM → Option (Int32 × qM)) (a3 : Int32) (s0 : Int32) (s1 : Int32) (m : qM) : Option (Int32 × qM) :=
  k132 ((s1 + s0)) ((a3 + (1 : Int32))) m
noncomputable def fX13_count_132 : Nat → Int32 → Int32 → qM → Option (Int32 × qM)
  | 0, _, _, _ => none
  | n + 1, a2, a3, m =>
    bif leb ((gI m 98 32)) a3 then some (a2, m) else bif inb a3 40 then bif leb ((gI m 151 (ix a3))) ((0 : Int32)) then fX13_count_145 (fX13_count_132 n) a3 ((0 : Int32)) a2 m else fX13_count_145 (fX13_count_132 n) a3 ((1 : Int32)) a2 m else none
noncomputable def fX13_count_0 (a1 : Int32) (m : qM) : Option (Int32 × qM) :=
  qbI (fX13_in ((Int32.toInt64 a1)) ((10 : Int64)) ((13 : Int64)) m) (fun x1 m2 => bif eqb x1 ((0 : Int32)) then bif eqb a1 (0 : Int32) then some ((gI m2 98 32), m2) else bif eqb a1 ((0 : Int32) + 1) then qbI (fX13_laidMany m2) (fun x3 m4 => some (x3, m4)) else bif eqb a1 (((0 : Int32) + 1) + 1) then fX13_count_25 FU ((0 : Int32)) ((0 : Int32)) m2 else bif eqb a1 ((((0 : Int32) + 1) + 1) + 1) then bif eqb ((gI m2 98 33)) ((0 : Int32)) then fX13_count_56 ((0 : Int32)) m2 else fX13_count_56 ((1 : Int32)) m2 else bif eqb a1 (((((0 : Int32) + 1) + 1) + 1) + 1) then some ((gI m2 98 52), m2) else bif eqb a1 ((((((0 : Int32) + 1) + 1) + 1) + 1) + 1) then bif eqb ((gI m2 98 33)) ((0 : Int32)) then fX13_count_66 ((0 : Int32)) m2 else qbV (fX13_goThrough ((799 : Int32)) m2) (fun m5 => fX13_count_66 ((0 : Int32)) m5) else bif eqb a1 (((((((0 : Int32) + 1) + 1) + 1) + 1) + 1) + 1) then bif eqb ((gI m2 98 33)) ((0 : Int32)) then fX13_count_96 ((0 : Int32)) m2 else qbV (fX13_goThrough ((799 : Int32)) m2) (fun m6 => fX13_count_96 ((0 : Int32)) m6) else bif eqb a1 ((((((((0 : Int32) + 1) + 1) + 1) + 1) + 1) + 1) + 1) then some ((gI m2 98 12), m2) else bif eqb a1 (((((((((0 : Int32) + 1) + 1) + 1) + 1) + 1) + 1) + 1) + 1) then fX13_count_132 FU ((0 : Int32)) ((0 : Int32)) m2 else some ((-1 : Int32), m2) else bif inb ((a1 - (10 : Int32))) 5 then some ((gI m2 101 (ix ((a1 - (10 : Int32))))), m2) else none)
theorem fX13_count_x : ∃ f : Int32 → qM → Option (Int32 × qM), f = fun a1 m => fX13_count_0 a1 m := ⟨_, rfl⟩
noncomputable def fX13_count : Int32 → qM → Option (Int32 × qM) := Classical.choose fX13_count_x
theorem fX13_count_d : fX13_count = fun a1 m => fX13_count_0 a1 m := Classical.choose_spec fX13_count_x
