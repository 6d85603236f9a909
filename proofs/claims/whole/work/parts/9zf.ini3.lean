/-! the class and the reference at the start (by program in part) -/
def iV0 : Nat → Nat → Int32 := fun _ _ => 0
def iV1 : Nat → Nat → Int32 := up1 iV0 3 5 (-1)
def iV2 : Nat → Nat → Int32 := fun c k => if c = 5 ∧ k < 6 then qx10000 k else iV1 c k
def iV3 : Nat → Nat → Int32 := upR iV2 16 10 (-1)
def iV4 : Nat → Nat → Int32 := upR (upR (upR iV3 50 10 (Zi 1048575)) 51 15 (Zi 1048575)) 53 15 (Zi 1048575)
def iV5 : Nat → Nat → Int32 := upR (upR iV4 63 150 (Zi (-1))) 64 200 (Zi (-1))
def iV6 : Nat → Nat → Int32 := up1 (up1 (up1 iV5 68 10 (-1)) 68 11 (-1)) 68 12 (-1)
theorem iVz1 {c k : Nat} (h : 4 ≤ c) : iV1 c k = 0 := by
  rw [iV1, up1, if_neg (by omega)]
  rfl
theorem iVz2 {c k : Nat} (h : 7 ≤ c) : iV2 c k = 0 := by
  rw [iV2, if_neg (by omega)]
  exact iVz1 (by omega)
theorem iVz3 {c k : Nat} (h : 17 ≤ c) : iV3 c k = 0 := by
  rw [iV3, upR, if_neg (by omega)]
  exact iVz2 (by omega)
theorem iVz4 {c k : Nat} (h : 54 ≤ c) : iV4 c k = 0 := by
  rw [iV4, upR, if_neg (by omega), upR, if_neg (by omega), upR, if_neg (by omega)]
  exact iVz3 (by omega)
theorem iVz5 {c k : Nat} (h : 65 ≤ c) : iV5 c k = 0 := by
  rw [iV5, upR, if_neg (by omega), upR, if_neg (by omega)]
  exact iVz4 (by omega)
theorem iVz6 {c k : Nat} (h : 69 ≤ c) : iV6 c k = 0 := by
  rw [iV6, up1, if_neg (by omega), up1, if_neg (by omega), up1, if_neg (by omega)]
  exact iVz5 (by omega)
theorem iV6_0 : iV6 0 10 = 0 := by
  simp (disch := omega) only [iV6, iV5, iV4, iV3, iV2, iV1, iV0, upR, up1, if_neg]
theorem cX11_init_s (m : qM) (h : AG m iV0) : wp (fX11_init m) (fun _ m' => AG m' iV6 ∧ gR m' 7 1 = some 9 ∧ gR m' 8 0 = some 19 ∧ gR m' 8 1 = some 26 ∧ gR m' 8 2 = some 33 ∧ gR m' 8 3 = some 40) := by
  have qb0 : qb (Zi 0) = true := by rw [qb_d]; rfl
  obtain ⟨x1, w1, e1, a1, r1⟩ := cX8_init_s (qz m 1) iV0 (ag_qz h (fun k => rfl)) (fun c k g1 g2 => rfl)
  have b1 : AG w1 iV0 := a1
  obtain ⟨x2, w2, e2, a2, r2⟩ := cX6_init_s (qz (sR w1 0 0 (some 1)) 3) iV0 (ag_qz (ag_sR b1) (fun k => rfl)) (fun c k g1 g2 => rfl)
  have b2 : AG w2 iV1 := fun c k => a2 c k
  have g2_0 : gR w2 0 0 = some 1 := by rw [r2 0 0 (by omega)]; simp [gR_qz, gR_sR]
  obtain ⟨x3, w3, e3, a3, r3⟩ := cX7_init_s (qz (sR w2 0 1 (some 3)) 4) iV1 (ag_qz (ag_sR b2) (fun k => iVz1 (by omega))) (fun c k g1 g2 => iVz1 (by omega))
  have b3 : AG w3 iV2 := fun c k => a3 c k
  have g3_0 : gR w3 0 0 = some 1 := by rw [r3 0 0 (by omega)]; simp [gR_qz, gR_sR, g2_0]
  have g3_1 : gR w3 0 1 = some 3 := by rw [r3 0 1 (by omega)]; simp [gR_qz, gR_sR]
  obtain ⟨x4, w4, e4, a4, r4, p71, p80, p81, p82, p83⟩ := cX10_init_s (qz (sR w3 0 2 (some 4)) 7) iV2 (ag_qz (ag_sR b3) (fun k => iVz2 (by omega))) (fun c k g1 g2 => iVz2 (by omega))
  have b4 : AG w4 iV3 := fun c k => a4 c k
  have g4_0 : gR w4 0 0 = some 1 := by rw [r4 0 0 (by omega)]; simp [gR_qz, gR_sR, g3_0]
  have g4_1 : gR w4 0 1 = some 3 := by rw [r4 0 1 (by omega)]; simp [gR_qz, gR_sR, g3_1]
  have g4_2 : gR w4 0 2 = some 4 := by rw [r4 0 2 (by omega)]; simp [gR_qz, gR_sR]
  obtain ⟨x5, w5, e5, a5, r5⟩ := cX3_init_s (qz (sR w4 0 3 (some 7)) 47) iV3 (ag_qz (ag_sR b4) (fun k => iVz3 (by omega))) (fun c k g1 g2 => iVz3 (by omega))
  have b5 : AG w5 iV4 := fun c k => a5 c k
  have g5_0 : gR w5 0 0 = some 1 := by rw [r5 0 0 (by omega)]; simp [gR_qz, gR_sR, g4_0]
  have g5_1 : gR w5 0 1 = some 3 := by rw [r5 0 1 (by omega)]; simp [gR_qz, gR_sR, g4_1]
  have g5_2 : gR w5 0 2 = some 4 := by rw [r5 0 2 (by omega)]; simp [gR_qz, gR_sR, g4_2]
  have g5_3 : gR w5 0 3 = some 7 := by rw [r5 0 3 (by omega)]; simp [gR_qz, gR_sR]
  obtain ⟨x6, w6, e6, a6, r6⟩ := cX4_init_s (qz (sR w5 0 4 (some 47)) 58) iV4 (ag_qz (ag_sR b5) (fun k => iVz4 (by omega))) (fun c k g1 g2 => iVz4 (by omega))
  have b6 : AG w6 iV5 := fun c k => a6 c k
  have g6_0 : gR w6 0 0 = some 1 := by rw [r6 0 0 (by omega)]; simp [gR_qz, gR_sR, g5_0]
  have g6_1 : gR w6 0 1 = some 3 := by rw [r6 0 1 (by omega)]; simp [gR_qz, gR_sR, g5_1]
  have g6_2 : gR w6 0 2 = some 4 := by rw [r6 0 2 (by omega)]; simp [gR_qz, gR_sR, g5_2]
  have g6_3 : gR w6 0 3 = some 7 := by rw [r6 0 3 (by omega)]; simp [gR_qz, gR_sR, g5_3]
  have g6_4 : gR w6 0 4 = some 47 := by rw [r6 0 4 (by omega)]; simp [gR_qz, gR_sR]
  obtain ⟨x7, w7, e7, a7, r7⟩ := cX0_init_s (qz (sR w6 0 5 (some 58)) 68) iV5 (ag_qz (ag_sR b6) (fun k => iVz5 (by omega))) (fun c k g1 g2 => iVz5 (by omega))
  have b7 : AG w7 iV6 := fun c k => a7 c k
  have g7_0 : gR w7 0 0 = some 1 := by rw [r7 0 0 (by omega)]; simp [gR_qz, gR_sR, g6_0]
  have g7_1 : gR w7 0 1 = some 3 := by rw [r7 0 1 (by omega)]; simp [gR_qz, gR_sR, g6_1]
  have g7_2 : gR w7 0 2 = some 4 := by rw [r7 0 2 (by omega)]; simp [gR_qz, gR_sR, g6_2]
  have g7_3 : gR w7 0 3 = some 7 := by rw [r7 0 3 (by omega)]; simp [gR_qz, gR_sR, g6_3]
  have g7_4 : gR w7 0 4 = some 47 := by rw [r7 0 4 (by omega)]; simp [gR_qz, gR_sR, g6_4]
  have g7_5 : gR w7 0 5 = some 58 := by rw [r7 0 5 (by omega)]; simp [gR_qz, gR_sR]
  obtain ⟨x8, w8, e8, a8, r8⟩ := cX9_init_s (qz (sR w7 0 6 (some 68)) 74) iV6 (ag_qz (ag_sR b7) (fun k => iVz6 (by omega))) (fun c k g1 g2 => iVz6 (by omega))
  have b8 : AG w8 iV6 := a8
  have g8_0 : gR w8 0 0 = some 1 := by rw [r8 0 0 (by omega)]; simp [gR_qz, gR_sR, g7_0]
  have g8_1 : gR w8 0 1 = some 3 := by rw [r8 0 1 (by omega)]; simp [gR_qz, gR_sR, g7_1]
  have g8_2 : gR w8 0 2 = some 4 := by rw [r8 0 2 (by omega)]; simp [gR_qz, gR_sR, g7_2]
  have g8_3 : gR w8 0 3 = some 7 := by rw [r8 0 3 (by omega)]; simp [gR_qz, gR_sR, g7_3]
  have g8_4 : gR w8 0 4 = some 47 := by rw [r8 0 4 (by omega)]; simp [gR_qz, gR_sR, g7_4]
  have g8_5 : gR w8 0 5 = some 58 := by rw [r8 0 5 (by omega)]; simp [gR_qz, gR_sR, g7_5]
  have g8_6 : gR w8 0 6 = some 68 := by rw [r8 0 6 (by omega)]; simp [gR_qz, gR_sR]
  obtain ⟨x9, w9, e9, a9, r9⟩ := cX1_init_s (qz (sR w8 0 7 (some 74)) 80) iV6 (ag_qz (ag_sR b8) (fun k => iVz6 (by omega))) (fun c k g1 g2 => iVz6 (by omega))
  have b9 : AG w9 iV6 := a9
  have g9_0 : gR w9 0 0 = some 1 := by rw [r9 0 0 (by omega)]; simp [gR_qz, gR_sR, g8_0]
  have g9_1 : gR w9 0 1 = some 3 := by rw [r9 0 1 (by omega)]; simp [gR_qz, gR_sR, g8_1]
  have g9_2 : gR w9 0 2 = some 4 := by rw [r9 0 2 (by omega)]; simp [gR_qz, gR_sR, g8_2]
  have g9_3 : gR w9 0 3 = some 7 := by rw [r9 0 3 (by omega)]; simp [gR_qz, gR_sR, g8_3]
  have g9_4 : gR w9 0 4 = some 47 := by rw [r9 0 4 (by omega)]; simp [gR_qz, gR_sR, g8_4]
  have g9_5 : gR w9 0 5 = some 58 := by rw [r9 0 5 (by omega)]; simp [gR_qz, gR_sR, g8_5]
  have g9_6 : gR w9 0 6 = some 68 := by rw [r9 0 6 (by omega)]; simp [gR_qz, gR_sR, g8_6]
  have g9_7 : gR w9 0 7 = some 74 := by rw [r9 0 7 (by omega)]; simp [gR_qz, gR_sR]
  obtain ⟨x10, w10, e10, a10, r10⟩ := cX2_init_s (qz (sR w9 0 8 (some 80)) 93) iV6 (ag_qz (ag_sR b9) (fun k => iVz6 (by omega))) (fun c k g1 g2 => iVz6 (by omega))
  have b10 : AG w10 iV6 := a10
  have g10_0 : gR w10 0 0 = some 1 := by rw [r10 0 0 (by omega)]; simp [gR_qz, gR_sR, g9_0]
  have g10_1 : gR w10 0 1 = some 3 := by rw [r10 0 1 (by omega)]; simp [gR_qz, gR_sR, g9_1]
  have g10_2 : gR w10 0 2 = some 4 := by rw [r10 0 2 (by omega)]; simp [gR_qz, gR_sR, g9_2]
  have g10_3 : gR w10 0 3 = some 7 := by rw [r10 0 3 (by omega)]; simp [gR_qz, gR_sR, g9_3]
  have g10_4 : gR w10 0 4 = some 47 := by rw [r10 0 4 (by omega)]; simp [gR_qz, gR_sR, g9_4]
  have g10_5 : gR w10 0 5 = some 58 := by rw [r10 0 5 (by omega)]; simp [gR_qz, gR_sR, g9_5]
  have g10_6 : gR w10 0 6 = some 68 := by rw [r10 0 6 (by omega)]; simp [gR_qz, gR_sR, g9_6]
  have g10_7 : gR w10 0 7 = some 74 := by rw [r10 0 7 (by omega)]; simp [gR_qz, gR_sR, g9_7]
  have g10_8 : gR w10 0 8 = some 80 := by rw [r10 0 8 (by omega)]; simp [gR_qz, gR_sR]
  have rd2_0 : gR (qz (sR w1 0 0 (some 1)) 3) 0 0 = some 1 := by simp [gR_qz, gR_sR]
  have rd5_2 : gR (qz (sR w4 0 3 (some 7)) 47) 0 2 = some 4 := by simp [gR_qz, gR_sR, g4_2]
  have rd6_2 : gR (qz (sR w5 0 4 (some 47)) 58) 0 2 = some 4 := by simp [gR_qz, gR_sR, g5_2]
  have rd6_4 : gR (qz (sR w5 0 4 (some 47)) 58) 0 4 = some 47 := by simp [gR_qz, gR_sR]
  have rd7_4 : gR (qz (sR w6 0 5 (some 58)) 68) 0 4 = some 47 := by simp [gR_qz, gR_sR, g6_4]
  have rd7_5 : gR (qz (sR w6 0 5 (some 58)) 68) 0 5 = some 58 := by simp [gR_qz, gR_sR]
  have rd9_2 : gR (qz (sR w8 0 7 (some 74)) 80) 0 2 = some 4 := by simp [gR_qz, gR_sR, g8_2]
  have rd9_3 : gR (qz (sR w8 0 7 (some 74)) 80) 0 3 = some 7 := by simp [gR_qz, gR_sR, g8_3]
  have rd9_4 : gR (qz (sR w8 0 7 (some 74)) 80) 0 4 = some 47 := by simp [gR_qz, gR_sR, g8_4]
  have rd9_5 : gR (qz (sR w8 0 7 (some 74)) 80) 0 5 = some 58 := by simp [gR_qz, gR_sR, g8_5]
  have rd9_7 : gR (qz (sR w8 0 7 (some 74)) 80) 0 7 = some 74 := by simp [gR_qz, gR_sR]
  have rd10_5 : gR (qz (sR w9 0 8 (some 80)) 93) 0 5 = some 58 := by simp [gR_qz, gR_sR, g9_5]
  refine wp_e (x := ()) (m := sI (sR w10 0 9 (some 93)) 0 10 0) ?_ ⟨ag_s0 (ag_sR b10) iV6_0, by
    simp only [gR_sI, gR_sR]
    rw [if_neg (by omega), r10 7 1 (by omega), gR_qz, if_neg (by omega), gR_sR, if_neg (by omega), r9 7 1 (by omega), gR_qz, if_neg (by omega), gR_sR, if_neg (by omega), r8 7 1 (by omega), gR_qz, if_neg (by omega), gR_sR, if_neg (by omega), r7 7 1 (by omega), gR_qz, if_neg (by omega), gR_sR, if_neg (by omega), r6 7 1 (by omega), gR_qz, if_neg (by omega), gR_sR, if_neg (by omega), r5 7 1 (by omega), gR_qz, if_neg (by omega), gR_sR, if_neg (by omega)]
    exact p71, by
    simp only [gR_sI, gR_sR]
    rw [if_neg (by omega), r10 8 0 (by omega), gR_qz, if_neg (by omega), gR_sR, if_neg (by omega), r9 8 0 (by omega), gR_qz, if_neg (by omega), gR_sR, if_neg (by omega), r8 8 0 (by omega), gR_qz, if_neg (by omega), gR_sR, if_neg (by omega), r7 8 0 (by omega), gR_qz, if_neg (by omega), gR_sR, if_neg (by omega), r6 8 0 (by omega), gR_qz, if_neg (by omega), gR_sR, if_neg (by omega), r5 8 0 (by omega), gR_qz, if_neg (by omega), gR_sR, if_neg (by omega)]
    exact p80, by
    simp only [gR_sI, gR_sR]
    rw [if_neg (by omega), r10 8 1 (by omega), gR_qz, if_neg (by omega), gR_sR, if_neg (by omega), r9 8 1 (by omega), gR_qz, if_neg (by omega), gR_sR, if_neg (by omega), r8 8 1 (by omega), gR_qz, if_neg (by omega), gR_sR, if_neg (by omega), r7 8 1 (by omega), gR_qz, if_neg (by omega), gR_sR, if_neg (by omega), r6 8 1 (by omega), gR_qz, if_neg (by omega), gR_sR, if_neg (by omega), r5 8 1 (by omega), gR_qz, if_neg (by omega), gR_sR, if_neg (by omega)]
    exact p81, by
    simp only [gR_sI, gR_sR]
    rw [if_neg (by omega), r10 8 2 (by omega), gR_qz, if_neg (by omega), gR_sR, if_neg (by omega), r9 8 2 (by omega), gR_qz, if_neg (by omega), gR_sR, if_neg (by omega), r8 8 2 (by omega), gR_qz, if_neg (by omega), gR_sR, if_neg (by omega), r7 8 2 (by omega), gR_qz, if_neg (by omega), gR_sR, if_neg (by omega), r6 8 2 (by omega), gR_qz, if_neg (by omega), gR_sR, if_neg (by omega), r5 8 2 (by omega), gR_qz, if_neg (by omega), gR_sR, if_neg (by omega)]
    exact p82, by
    simp only [gR_sI, gR_sR]
    rw [if_neg (by omega), r10 8 3 (by omega), gR_qz, if_neg (by omega), gR_sR, if_neg (by omega), r9 8 3 (by omega), gR_qz, if_neg (by omega), gR_sR, if_neg (by omega), r8 8 3 (by omega), gR_qz, if_neg (by omega), gR_sR, if_neg (by omega), r7 8 3 (by omega), gR_qz, if_neg (by omega), gR_sR, if_neg (by omega), r6 8 3 (by omega), gR_qz, if_neg (by omega), gR_sR, if_neg (by omega), r5 8 3 (by omega), gR_qz, if_neg (by omega), gR_sR, if_neg (by omega)]
    exact p83⟩
  rw [fX11_init_d]
  simp (disch := omega) only [fX11_init_0, qbI_s, qbL_s, qbV_s, qbR_s, qbR_n, qbN_s, qbN_n, qbIX_s, qbIX_n, qbVX_s, qbVX_n, cond_true, cond_false, cond_dec, jadd, jsub, jmul, jneg, li_0, li_1, li_2, li_3, li_4, li_5, li_6, li_7, li_8, li_9, li_10, li_14, li_15, li_16, li_19, li_20, li_24, li_30, li_31, li_32, li_39, li_40, li_48, li_57, li_59, li_60, li_63, li_65, li_80, li_81, li_90, li_97, li_99, li_100, li_122, li_126, li_127, li_150, li_160, li_200, li_225, li_255, li_400, li_799, li_800, li_999, li_2400, li_3239, li_3240, li_1048575, li_1431655765, li_858993459, li_252645135, eqb_j, ltb_j, leb_j, inb_j, ix_j, ix_n, nz_b, nz_0, nz_1, eqb_b, bnot, vI_ne, vI_eq, gIL, gLI, gIR, gRI, gLR, gRL, Int.reduceLT, Int.reduceLE, Int.reduceEq, Int.reduceAdd, Int.reduceSub, Int.reduceMul, Int.reduceNeg, Int.reduceToNat, Nat.reduceEqDiff, reduceIte, if_neg, if_pos, gI_ne, e1, e2, e3, e4, e5, e6, e7, e8, e9, e10, rd2_0, rd5_2, rd6_2, rd6_4, rd7_4, rd7_5, rd9_2, rd9_3, rd9_4, rd9_5, rd9_7, rd10_5, show Nat.beq 1 1 = true from rfl, show Nat.beq 4 4 = true from rfl, show Nat.beq 7 7 = true from rfl, show Nat.beq 47 47 = true from rfl, show Nat.beq 58 58 = true from rfl, show Nat.beq 74 74 = true from rfl, qb0]
  all_goals rfl
noncomputable def iW (m : qM) : qM := (sR (qz (sR (qz (sR (qz (sR (qz (sR (qz (sR (qz (sR (qz (sR (qz (sR (qz (sR (qz (sR (qz (sR (qz (sR (qz (sR (qz (sR (qz (sR (qz (sR (qz (sR (qz (sR (qz (sR (qz (sR (qz (sR (qz (sR (qz (sR (qz (sR (qz (sR (qz (sR (qz (sR (qz (sR (qz (sR (qz (sR (qz (sR (qz (sR (qz (sR (qz (sR (qz (sR (qz (sR (qz (sR (qz (sR (qz (sR (qz (sR (qz (sR (qz (sR (qz (sR (qz (sI (sR (qz (sR (sR (sR (sR (sR (sR (sR (sR (qz (sR (qz (sR (qz (sR (qz (sR (qz (sR (qz (sR (qz (sR (qz (sR (qz (sR (qz (sR (sI (sI (sI (sI (sI (sI (qz m 99) 99 0 (Zi 10)) 99 1 (Zi 2)) 99 2 (Zi 1)) 99 3 (Zi 15)) 99 4 (Zi 0)) 99 5 (Zi 0)) 98 0 (some 99)) 100) 98 1 (some 100)) 101) 98 2 (some 101)) 102) 98 3 (some 102)) 103) 98 4 (some 103)) 104) 98 5 (some 104)) 105) 98 6 (some 105)) 106) 98 7 (some 106)) 107) 98 8 (some 107)) 108) 98 9 (some 108)) 109) 109 0 (some 109)) 109 1 (some 10010)) 109 2 (some 10011)) 109 1 none) 109 3 none) 109 0 none) 109 2 none) 98 10 (some 109)) 110) 98 11 (some 110)) 98 19 (Zi (-1))) 111) 98 20 (some 111)) 112) 98 21 (some 112)) 113) 98 22 (some 113)) 114) 98 23 (some 114)) 115) 98 24 (some 115)) 116) 98 25 (some 116)) 117) 98 26 (some 117)) 118) 98 27 (some 118)) 119) 98 28 (some 119)) 120) 98 29 (some 120)) 121) 98 30 (some 121)) 122) 98 31 (some 122)) 123) 98 34 (some 123)) 124) 98 35 (some 124)) 125) 98 36 (some 125)) 126) 98 37 (some 126)) 127) 98 38 (some 127)) 128) 98 39 (some 128)) 129) 98 40 (some 129)) 130) 98 41 (some 130)) 131) 98 42 (some 131)) 132) 98 50 (some 132)) 133) 98 51 (some 133)) 134) 98 53 (some 134)) 135) 98 54 (some 135)) 136) 98 55 (some 136)) 137) 98 56 (some 137)) 138) 98 57 (some 138)) 139) 98 58 (some 139)) 140) 98 59 (some 140)) 141) 98 60 (some 141)) 142) 98 61 (some 142)) 143) 98 62 (some 143)) 144) 98 63 (some 144)) 145) 98 64 (some 145)) 146) 98 65 (some 146)) 147) 98 66 (some 147)) 148) 98 67 (some 148)) 149) 98 68 (some 149)) 150) 98 69 (some 150)) 151) 98 71 (some 151)) 152) 98 72 (some 152)) 153) 98 73 (some 153)) 154) 98 74 (some 154))
def iVF (V : Nat → Nat → Int32) : Nat → Nat → Int32 := (upR (upR (upR (upR (up1 (up1 (up1 (up1 (up1 (up1 (up1 V 99 0 (Zi 10)) 99 1 (Zi 2)) 99 2 (Zi 1)) 99 3 (Zi 15)) 99 4 (Zi 0)) 99 5 (Zi 0)) 98 19 (Zi (-1))) 115 10 (Zi 19)) 108 10 (Zi (-1))) 117 15 (Zi 19)) 120 15 (Zi 19))
theorem iW_ag (m : qM) (V : Nat → Nat → Int32) (h : AG m V) (hz : ∀ c k, 98 ≤ c → c ≤ 154 → V c k = 0) : AG (iW m) (up1 (up1 (up1 (up1 (up1 (up1 (up1 V 99 0 (Zi 10)) 99 1 (Zi 2)) 99 2 (Zi 1)) 99 3 (Zi 15)) 99 4 (Zi 0)) 99 5 (Zi 0)) 98 19 (Zi (-1))) := by
  unfold iW
  repeat first | exact h | refine ag_sR ?_ | refine ag_sI ?_ | refine ag_qz ?_ (fun k => by simp (disch := omega) only [up1, if_neg, hz])
theorem iW_24 (m : qM) : gR (iW m) 98 24 = some 115 := by
  unfold iW
  simp [gR_sR, gR_qz, gR_sI]
theorem iW_9 (m : qM) : gR (iW m) 98 9 = some 108 := by
  unfold iW
  simp [gR_sR, gR_qz, gR_sI]
theorem iW_26 (m : qM) : gR (iW m) 98 26 = some 117 := by
  unfold iW
  simp [gR_sR, gR_qz, gR_sI]
theorem iW_29 (m : qM) : gR (iW m) 98 29 = some 120 := by
  unfold iW
  simp [gR_sR, gR_qz, gR_sI]
theorem iW_out (m : qM) (c k : Nat) (hc : c < 98) : gR (iW m) c k = gR m c k := by
  unfold iW
  simp only [gR_sR, gR_qz, gR_sI]
  repeat rw [if_neg (by omega)]
theorem cX13_init_s (m : qM) (V : Nat → Nat → Int32) (h : AG m V) (hz : ∀ c k, 98 ≤ c → c ≤ 154 → V c k = 0) : wp (fX13_init m) (fun _ m' => AG m' (iVF V) ∧ ∀ c k, c < 98 → gR m' c k = gR m c k) := by
  have k := lX13_256 (fX13_init_273 FU) (fun _ m' => AG m' (iVF V) ∧ ∀ c k, c < 98 → gR m' c k = gR m c k) (up1 (up1 (up1 (up1 (up1 (up1 (up1 V 99 0 (Zi 10)) 99 1 (Zi 2)) 99 2 (Zi 1)) 99 3 (Zi 15)) 99 4 (Zi 0)) 99 5 (Zi 0)) 98 19 (Zi (-1))) 10 0 FU (iW m) (by omega) (by rw [FU_d]; omega) (iW_24 m) (iW_9 m) (by rw [upR_0, upR_0]; exact iW_ag m V h hz) (fun w' h1 h2 => by
    obtain ⟨x, m', e1, e2, e3⟩ := lX13_273 _ 15 0 FU w' (by omega) (by rw [FU_d]; omega) (by rw [h2]; exact iW_26 m) (by rw [h2]; exact iW_29 m) (by rw [upR_0, upR_0]; exact h1)
    refine ⟨x, m', e1, e2, fun c k hc => ?_⟩
    rw [e3, h2]
    exact iW_out m c k hc)
  rw [fX13_init_d]
  simp (disch := omega) only [fX13_init_0, fX13_init_30, fX13_init_58, fX13_init_86, fX13_init_114, fX13_init_142, fX13_init_170, fX13_init_198, fX13_init_226, fX13_init_250, nb_4, nz_4, nb_5, nz_5, nb_6, nz_6, nb_8, nz_8, nb_10, nz_10, nb_15, nz_15, nb_32, nz_32, nb_40, nz_40, nb_80, nz_80, nb_81, nz_81, nb_100, nz_100, nb_150, nz_150, nb_160, nz_160, nb_200, nz_200, nb_225, nz_225, nb_400, nz_400, nb_2400, nz_2400, nb_3240, nz_3240, cond_true, cond_false]
  simp (disch := omega) only [qbI_s, qbL_s, qbV_s, qbR_s, qbR_n, qbN_s, qbN_n, qbIX_s, qbIX_n, qbVX_s, qbVX_n, cond_true, cond_false, cond_dec, jadd, jsub, jmul, jneg, li_0, li_1, li_2, li_3, li_4, li_5, li_6, li_7, li_8, li_9, li_10, li_14, li_15, li_16, li_19, li_20, li_24, li_30, li_31, li_32, li_39, li_40, li_48, li_57, li_59, li_60, li_63, li_65, li_80, li_81, li_90, li_97, li_99, li_100, li_122, li_126, li_127, li_150, li_160, li_200, li_225, li_255, li_400, li_799, li_800, li_999, li_2400, li_3239, li_3240, li_1048575, li_1431655765, li_858993459, li_252645135, eqb_j, ltb_j, leb_j, inb_j, ix_j, ix_n, nz_b, nz_0, nz_1, eqb_b, bnot, vI_ne, vI_eq, gIL, gLI, gIR, gRI, gLR, gRL, Int.reduceLT, Int.reduceLE, Int.reduceEq, Int.reduceAdd, Int.reduceSub, Int.reduceMul, Int.reduceNeg, Int.reduceToNat, Nat.reduceEqDiff, reduceIte, if_neg, if_pos, gI_ne, fX12_init_d, fX12_init_0, fEx_init_d, fEx_init_0, fTh_init_d, fTh_init_0, fTh_init_20, fTh_init_31]
  exact k
