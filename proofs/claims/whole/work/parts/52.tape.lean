/-! from kit/laws: bytes -/
theorem bp_b (x : Int32) : x.toInt8.toInt32 &&& 255 = x &&& 255 := by
  apply Int32.toBitVec_inj.mp
  rw [Int32.toBitVec_and, Int32.toBitVec_and, Int8.toBitVec_toInt32, Int32.toBitVec_toInt8]
  apply BitVec.eq_of_getLsbD_eq
  intro i hi
  rw [BitVec.getLsbD_and, BitVec.getLsbD_and]
  have hm : ∀ i < 32, 8 ≤ i → (255 : Int32).toBitVec.getLsbD i = false := by decide
  rcases Nat.lt_or_ge i 8 with z | z
  · rw [BitVec.getLsbD_signExtend, BitVec.getLsbD_signExtend, if_pos z, if_pos hi]
    simp only [z, hi, decide_true, Bool.true_and]
  · rw [hm i hi z]; simp
theorem fb_byte {x : Int32} (h1 : -128 ≤ x.toInt) (h2 : x.toInt < 128) : x.toInt8.toInt32 = x := by
  apply Int32.toInt_inj.1
  rw [Int8.toInt_toInt32, Int32.toInt_toInt8, Int.bmod_eq_of_le (by omega) (by omega)]
theorem fb_byte_rng (x : Int32) : -128 ≤ x.toInt8.toInt32.toInt ∧ x.toInt8.toInt32.toInt < 128 := by
  rw [Int8.toInt_toInt32]
  have h1 := Int8.le_toInt x.toInt8
  have h2 := Int8.toInt_lt x.toInt8
  omega
theorem fb_byte_twice (x : Int32) : x.toInt8.toInt32.toInt8.toInt32 = x.toInt8.toInt32 := fb_byte (fb_byte_rng x).1 (fb_byte_rng x).2
theorem nb_e (x : Int32) : nb x = x.toInt8.toInt32 := by rw [nb_d]; rfl
theorem FU_s (k : Nat) (h : k < 10000) : ∃ n, FU = n + k + 1 := ⟨9999 - k, by rw [FU_d]; omega⟩
theorem wp_e {ρ : Type} {Q : ρ → qM → Prop} {c : Option (ρ × qM)} {x : ρ} {m : qM} (h : c = some (x, m)) (q : Q x m) : wp c Q := ⟨x, m, h, q⟩
/-! frames: what cells are as they were -/
theorem vI_of {m m' : qM} {c k c' k' : Nat} (h : gI m' c k = gI m c' k') : vI m' c k = vI m c' k' := by unfold vI; rw [h]
theorem gI_of {m m' : qM} {c k c' k' : Nat} (h : vI m' c k = vI m c' k') : gI m' c k = gI m c' k' := by rw [gIv c, gIv c', h]
theorem vI_Zi {m : qM} {c k : Nat} {z : Int} (h : gI m c k = Zi z) (hz : -2147483648 ≤ z ∧ z < 2147483648) : vI m c k = z := by unfold vI; rw [h, jt hz]
/-- all places but those told are as they were -/
def Fr (P : Nat → Nat → Prop) (m m' : qM) : Prop := (∀ c k, ¬ P c k → gI m' c k = gI m c k) ∧ gL m' = gL m ∧ gR m' = gR m
theorem Fr.rf {P : Nat → Nat → Prop} (m : qM) : Fr P m m := ⟨fun _ _ _ => rfl, rfl, rfl⟩
theorem Fr.tr {P : Nat → Nat → Prop} {a b c : qM} (h : Fr P a b) (g : Fr P b c) : Fr P a c := ⟨fun c' k hc => (g.1 c' k hc).trans (h.1 c' k hc), g.2.1.trans h.2.1, g.2.2.trans h.2.2⟩
theorem Fr.wide {P Q : Nat → Nat → Prop} {a b : qM} (h : Fr P a b) (hq : ∀ c k, P c k → Q c k) : Fr Q a b := ⟨fun c k hc => h.1 c k fun z => hc (hq c k z), h.2⟩
theorem Fr.v {P : Nat → Nat → Prop} {a b : qM} (h : Fr P a b) (c k : Nat) (hc : ¬ P c k) : vI b c k = vI a c k := vI_of (h.1 c k hc)
theorem Fr.wI {P : Nat → Nat → Prop} {a b : qM} (h : Fr P a b) (c k : Nat) (x : Int32) (hc : P c k) : Fr P a (sI b c k x) := ⟨fun c' k' hc' => by
  rw [gI_sI, if_neg (fun e => hc' (by rw [e.1, e.2]; exact hc))]
  exact h.1 c' k' hc', by rw [gL_sI]; exact h.2.1, by rw [gR_sI]; exact h.2.2⟩
/-! the tape -/
/-- the bytes of one int, the highest first -/
def by4 (a : Int32) (sh : Nat) : Int32 := (a >>> (nI sh &&& 31)).toInt8.toInt32
theorem by4_low (a : Int32) {sh : Nat} (h : sh < 25) : by4 a sh &&& 255 = ((a.toUInt32 >>> ((nI sh).toUInt32 &&& Int32.toUInt32 31)).toInt32) &&& 255 := by
  unfold by4
  rw [bp_b]
  apply b_ext
  intro i hi
  rw [b_and, b_and, b_255, b_ushr sh (by omega), b_sshr sh (by omega) a hi]
  by_cases h8 : i < 8
  · rw [if_pos (by omega)]
  · simp [h8]
/-- n bytes more on the tape, of the ints of a list -/
def RTape (m : qM) : Prop := 0 ≤ vI m 1 1 ∧ vI m 1 1 ≤ 400 ∧ vI m 98 12 = vI m 1 1 ∧ (∀ k, k < 400 → gI m 2 k = gI m 110 k &&& 255) ∧ (∀ k, k < 400 → -128 ≤ vI m 110 k ∧ vI m 110 k < 128)
theorem addFour_s (a : Int32) (m : qM) (n : Nat) (hn : vI m 1 1 = n) (h : n + 4 ≤ 400) : wp (fX8_addFour a m) (fun _ m' => vI m' 1 1 = (n + 4 : Nat) ∧ (∀ k, gI m' 2 k = if n ≤ k ∧ k < n + 4 then by4 a (24 - 8 * (k - n)) &&& 255 else gI m 2 k) ∧ Fr (fun c k => c = 1 ∧ k = 1 ∨ c = 2) m m') := by
  obtain ⟨f, hf⟩ := FU_s 4 (by decide)
  have h0 : _ = (a.toUInt32 >>> ((Zi 24).toUInt32 &&& (Zi 31).toUInt32)).toInt32 &&& Zi 255 := by4_low a (sh := 24) (by decide)
  have h1 : _ = (a.toUInt32 >>> ((Zi 16).toUInt32 &&& (Zi 31).toUInt32)).toInt32 &&& Zi 255 := by4_low a (sh := 16) (by decide)
  have h2 : _ = (a.toUInt32 >>> ((Zi 8).toUInt32 &&& (Zi 31).toUInt32)).toInt32 &&& Zi 255 := by4_low a (sh := 8) (by decide)
  have h3 : _ = (a.toUInt32 >>> ((Zi 0).toUInt32 &&& (Zi 31).toUInt32)).toInt32 &&& Zi 255 := by4_low a (sh := 0) (by decide)
  refine wp_e (by
    rw [fX8_addFour_d]
    simp (disch := omega) only [fX8_addFour_0, hf, fX8_addFour_2, fX8_addFour_24, qbI_s, qbL_s, qbV_s, qbR_s, qbR_n, qbN_s, qbN_n, qbIX_s, qbIX_n, qbVX_s, qbVX_n, cond_true, cond_false, cond_dec, jadd, jsub, jmul, jneg, li_0, li_1, li_2, li_3, li_4, li_5, li_6, li_7, li_8, li_9, li_10, li_14, li_15, li_16, li_19, li_20, li_24, li_30, li_31, li_32, li_39, li_40, li_48, li_57, li_59, li_60, li_63, li_65, li_80, li_81, li_90, li_97, li_99, li_100, li_122, li_126, li_127, li_150, li_160, li_200, li_225, li_255, li_400, li_799, li_800, li_999, li_2400, li_3239, li_3240, li_1048575, li_1431655765, li_858993459, li_252645135, eqb_j, ltb_j, leb_j, inb_j, ix_j, ix_n, nz_b, nz_0, nz_1, eqb_b, bnot, vI_ne, vI_eq, gIL, gLI, gIR, gRI, gLR, gRL, Int.reduceLT, Int.reduceLE, Int.reduceEq, Int.reduceAdd, Int.reduceSub, Int.reduceMul, Int.reduceNeg, Int.reduceToNat, Nat.reduceEqDiff, reduceIte, if_neg, if_pos, gI_ne, gIv 1, hn]
    rfl) ⟨?_, ?_, ?_⟩
  · rw [vI_eq (by omega), if_pos rfl]
    omega
  · intro k
    simp only [gI_sI, Nat.reduceEqDiff, false_and, true_and, reduceIte, Int.reduceToNat, ix_n, ← h0, ← h1, ← h2, ← h3]
    by_cases hk : n ≤ k ∧ k < n + 4
    · rw [if_pos hk]
      obtain e | e | e | e : k = n ∨ k = n + 1 ∨ k = n + 2 ∨ k = n + 3 := by omega
      · rw [if_neg (by omega), if_neg (by omega), if_neg (by omega), if_pos e, show 24 - 8 * (k - n) = 24 by omega]
      · rw [if_neg (by omega), if_neg (by omega), if_pos (by omega), show 24 - 8 * (k - n) = 16 by omega]
      · rw [if_neg (by omega), if_pos (by omega), show 24 - 8 * (k - n) = 8 by omega]
      · rw [if_pos (by omega), show 24 - 8 * (k - n) = 0 by omega]
    · rw [if_neg hk, if_neg (by omega), if_neg (by omega), if_neg (by omega), if_neg (by omega)]
  · repeat (first | exact Fr.rf _ | refine Fr.wI ?_ _ _ _ (by omega))
theorem lay4_s (a : Int32) (m : qM) (n : Nat) (hn : vI m 98 12 = n) (h : n + 4 ≤ 400) : wp (fX13_lay_0 a m) (fun _ m' => vI m' 98 12 = (n + 4 : Nat) ∧ (∀ k, gI m' 110 k = if n ≤ k ∧ k < n + 4 then by4 a (24 - 8 * (k - n)) else gI m 110 k) ∧ Fr (fun c k => c = 98 ∧ k = 12 ∨ c = 110) m m') := by
  obtain ⟨f, hf⟩ := FU_s 4 (by decide)
  have g : ∀ x : Int32, nb (Int8.toInt32 (Int32.toInt8 x)) = Int8.toInt32 (Int32.toInt8 x) := fun x => by rw [nb_e, fb_byte_twice]
  have h0 : _ = Int8.toInt32 (Int32.toInt8 (a >>> (Zi 24 &&& Zi 31))) := show by4 a 24 = _ from rfl
  have h1 : _ = Int8.toInt32 (Int32.toInt8 (a >>> (Zi 16 &&& Zi 31))) := show by4 a 16 = _ from rfl
  have h2 : _ = Int8.toInt32 (Int32.toInt8 (a >>> (Zi 8 &&& Zi 31))) := show by4 a 8 = _ from rfl
  have h3 : _ = Int8.toInt32 (Int32.toInt8 (a >>> (Zi 0 &&& Zi 31))) := show by4 a 0 = _ from rfl
  refine wp_e (by
    simp (disch := omega) only [fX13_lay_0, hf, fX13_lay_2, qbI_s, qbL_s, qbV_s, qbR_s, qbR_n, qbN_s, qbN_n, qbIX_s, qbIX_n, qbVX_s, qbVX_n, cond_true, cond_false, cond_dec, jadd, jsub, jmul, jneg, li_0, li_1, li_2, li_3, li_4, li_5, li_6, li_7, li_8, li_9, li_10, li_14, li_15, li_16, li_19, li_20, li_24, li_30, li_31, li_32, li_39, li_40, li_48, li_57, li_59, li_60, li_63, li_65, li_80, li_81, li_90, li_97, li_99, li_100, li_122, li_126, li_127, li_150, li_160, li_200, li_225, li_255, li_400, li_799, li_800, li_999, li_2400, li_3239, li_3240, li_1048575, li_1431655765, li_858993459, li_252645135, eqb_j, ltb_j, leb_j, inb_j, ix_j, ix_n, nz_b, nz_0, nz_1, eqb_b, bnot, vI_ne, vI_eq, gIL, gLI, gIR, gRI, gLR, gRL, Int.reduceLT, Int.reduceLE, Int.reduceEq, Int.reduceAdd, Int.reduceSub, Int.reduceMul, Int.reduceNeg, Int.reduceToNat, Nat.reduceEqDiff, reduceIte, if_neg, if_pos, gI_ne, gIv 98, hn, g]
    rfl) ⟨?_, ?_, ?_⟩
  · rw [vI_eq (by omega), if_pos rfl]
    omega
  · intro k
    simp only [gI_sI, Nat.reduceEqDiff, false_and, true_and, reduceIte, Int.reduceToNat, ix_n, ← h0, ← h1, ← h2, ← h3]
    by_cases hk : n ≤ k ∧ k < n + 4
    · rw [if_pos hk]
      obtain e | e | e | e : k = n ∨ k = n + 1 ∨ k = n + 2 ∨ k = n + 3 := by omega
      · rw [if_neg (by omega), if_neg (by omega), if_neg (by omega), if_pos e, show 24 - 8 * (k - n) = 24 by omega]
      · rw [if_neg (by omega), if_neg (by omega), if_pos (by omega), show 24 - 8 * (k - n) = 16 by omega]
      · rw [if_neg (by omega), if_pos (by omega), show 24 - 8 * (k - n) = 8 by omega]
      · rw [if_pos (by omega), show 24 - 8 * (k - n) = 0 by omega]
    · rw [if_neg hk, if_neg (by omega), if_neg (by omega), if_neg (by omega), if_neg (by omega)]
  · repeat (first | exact Fr.rf _ | refine Fr.wI ?_ _ _ _ (by omega))
/-- the byte k places behind the tape's end, of five ints -/
def by20 (a b c d e : Int32) (k : Nat) : Int32 := by4 (if k < 4 then a else if k < 8 then b else if k < 12 then c else if k < 16 then d else e) (24 - 8 * (k % 4))
theorem feedC (a b c d e : Int32) (m : qM) (n : Nat) (hn : vI m 1 1 = n) (h : n + 20 ≤ 400) : wp (fX11_feed a b c d e m) (fun x m' => x = Zi (n + 20 : Nat) ∧ vI m' 1 1 = (n + 20 : Nat) ∧ (∀ k, gI m' 2 k = if n ≤ k ∧ k < n + 20 then by20 a b c d e (k - n) &&& 255 else gI m 2 k) ∧ Fr (fun c k => c = 1 ∧ k = 1 ∨ c = 2) m m') := by
  obtain ⟨u1, m1, e1, s1, b1, f1⟩ := addFour_s a m n hn (by omega)
  obtain ⟨u2, m2, e2, s2, b2, f2⟩ := addFour_s b m1 (n + 4) s1 (by omega)
  obtain ⟨u3, m3, e3, s3, b3, f3⟩ := addFour_s c m2 (n + 4 + 4) s2 (by omega)
  obtain ⟨u4, m4, e4, s4, b4, f4⟩ := addFour_s d m3 (n + 4 + 4 + 4) s3 (by omega)
  obtain ⟨u5, m5, e5, s5, b5, f5⟩ := addFour_s e m4 (n + 4 + 4 + 4 + 4) s4 (by omega)
  refine wp_e (by
    rw [fX11_feed_d]
    simp (disch := omega) only [fX11_feed_0, fX8_size_d, fX8_size_0, qbI_s, qbL_s, qbV_s, qbR_s, qbR_n, qbN_s, qbN_n, qbIX_s, qbIX_n, qbVX_s, qbVX_n, cond_true, cond_false, cond_dec, jadd, jsub, jmul, jneg, li_0, li_1, li_2, li_3, li_4, li_5, li_6, li_7, li_8, li_9, li_10, li_14, li_15, li_16, li_19, li_20, li_24, li_30, li_31, li_32, li_39, li_40, li_48, li_57, li_59, li_60, li_63, li_65, li_80, li_81, li_90, li_97, li_99, li_100, li_122, li_126, li_127, li_150, li_160, li_200, li_225, li_255, li_400, li_799, li_800, li_999, li_2400, li_3239, li_3240, li_1048575, li_1431655765, li_858993459, li_252645135, eqb_j, ltb_j, leb_j, inb_j, ix_j, ix_n, nz_b, nz_0, nz_1, eqb_b, bnot, vI_ne, vI_eq, gIL, gLI, gIR, gRI, gLR, gRL, Int.reduceLT, Int.reduceLE, Int.reduceEq, Int.reduceAdd, Int.reduceSub, Int.reduceMul, Int.reduceNeg, Int.reduceToNat, Nat.reduceEqDiff, reduceIte, if_neg, if_pos, gI_ne, gIv 1, hn, e1, e2, e3, e4, e5]
    rfl) ⟨?_, ?_, ?_, ?_⟩
  · rw [s5]
  · rw [s5]
  · intro k
    rw [b5, b4, b3, b2, b1]
    unfold by20
    by_cases hk : n ≤ k ∧ k < n + 20
    · rw [if_pos hk]
      obtain g | g | g | g | g : k < n + 4 ∨ n + 4 ≤ k ∧ k < n + 8 ∨ n + 8 ≤ k ∧ k < n + 12 ∨ n + 12 ≤ k ∧ k < n + 16 ∨ n + 16 ≤ k := by omega
      · simp (disch := omega) only [if_neg, if_pos]
        congr 3; omega
      · simp (disch := omega) only [if_neg, if_pos]
        congr 3; omega
      · simp (disch := omega) only [if_neg, if_pos]
        congr 3; omega
      · simp (disch := omega) only [if_neg, if_pos]
        congr 3; omega
      · simp (disch := omega) only [if_neg, if_pos]
        congr 3; omega
    · simp (disch := omega) only [if_neg]
  · exact ((((f1.tr f2).tr f3).tr f4).tr f5)
theorem feedM (a b c d e : Int32) (m : qM) (n : Nat) (hn : vI m 98 12 = n) (h : n + 20 ≤ 400) : wp (fX13_feed a b c d e m) (fun x m' => x = Zi (n + 20 : Nat) ∧ vI m' 98 12 = (n + 20 : Nat) ∧ (∀ k, gI m' 110 k = if n ≤ k ∧ k < n + 20 then by20 a b c d e (k - n) else gI m 110 k) ∧ Fr (fun c k => c = 98 ∧ k = 12 ∨ c = 110) m m') := by
  obtain ⟨u1, m1, e1, s1, b1, f1⟩ := lay4_s a m n hn (by omega)
  obtain ⟨u2, m2, e2, s2, b2, f2⟩ := lay4_s b m1 (n + 4) s1 (by omega)
  obtain ⟨u3, m3, e3, s3, b3, f3⟩ := lay4_s c m2 (n + 4 + 4) s2 (by omega)
  obtain ⟨u4, m4, e4, s4, b4, f4⟩ := lay4_s d m3 (n + 4 + 4 + 4) s3 (by omega)
  obtain ⟨u5, m5, e5, s5, b5, f5⟩ := lay4_s e m4 (n + 4 + 4 + 4 + 4) s4 (by omega)
  refine wp_e (by
    rw [fX13_feed_d]
    simp (disch := omega) only [fX13_feed_0, fX13_lay_d, qbI_s, qbL_s, qbV_s, qbR_s, qbR_n, qbN_s, qbN_n, qbIX_s, qbIX_n, qbVX_s, qbVX_n, cond_true, cond_false, cond_dec, jadd, jsub, jmul, jneg, li_0, li_1, li_2, li_3, li_4, li_5, li_6, li_7, li_8, li_9, li_10, li_14, li_15, li_16, li_19, li_20, li_24, li_30, li_31, li_32, li_39, li_40, li_48, li_57, li_59, li_60, li_63, li_65, li_80, li_81, li_90, li_97, li_99, li_100, li_122, li_126, li_127, li_150, li_160, li_200, li_225, li_255, li_400, li_799, li_800, li_999, li_2400, li_3239, li_3240, li_1048575, li_1431655765, li_858993459, li_252645135, eqb_j, ltb_j, leb_j, inb_j, ix_j, ix_n, nz_b, nz_0, nz_1, eqb_b, bnot, vI_ne, vI_eq, gIL, gLI, gIR, gRI, gLR, gRL, Int.reduceLT, Int.reduceLE, Int.reduceEq, Int.reduceAdd, Int.reduceSub, Int.reduceMul, Int.reduceNeg, Int.reduceToNat, Nat.reduceEqDiff, reduceIte, if_neg, if_pos, gI_ne, gIv 98, hn, e1, e2, e3, e4, e5]
    rfl) ⟨?_, ?_, ?_, ?_⟩
  · rw [s5]
  · rw [s5]
  · intro k
    rw [b5, b4, b3, b2, b1]
    unfold by20
    by_cases hk : n ≤ k ∧ k < n + 20
    · rw [if_pos hk]
      obtain g | g | g | g | g : k < n + 4 ∨ n + 4 ≤ k ∧ k < n + 8 ∨ n + 8 ≤ k ∧ k < n + 12 ∨ n + 12 ≤ k ∧ k < n + 16 ∨ n + 16 ≤ k := by omega
      · simp (disch := omega) only [if_neg, if_pos]
        congr 2; omega
      · simp (disch := omega) only [if_neg, if_pos]
        congr 2; omega
      · simp (disch := omega) only [if_neg, if_pos]
        congr 2; omega
      · simp (disch := omega) only [if_neg, if_pos]
        congr 2; omega
      · simp (disch := omega) only [if_neg, if_pos]
        congr 2; omega
    · simp (disch := omega) only [if_neg]
  · exact ((((f1.tr f2).tr f3).tr f4).tr f5)
