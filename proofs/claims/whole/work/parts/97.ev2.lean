/-! the evening: a meeting begins, is missed; who is in front -/
noncomputable def stE (d s : Nat → Nat → Int) (a : Nat) (u n : Int) : Nat → Nat → Int := upE (upE (upE (upE (upE (upE s 141 a u) 142 a n) 143 (d 124 a).toNat (u + n)) 145 (d 123 a).toNat (u + n)) 146 (d 123 a).toNat (d 124 a)) 147 (d 118 (d 123 a).toNat).toNat (if 0 < d 118 (d 123 a).toNat then u + n else 0)
theorem stE_o (d s : Nat → Nat → Int) (a : Nat) (u n : Int) {c k : Nat} (h : ¬ (c = 141 ∨ c = 142 ∨ c = 143 ∨ c = 145 ∨ c = 146 ∨ c = 147)) : stE d s a u n c k = s c k := by
  unfold stE
  rw [upE_c _ _ (by omega), upE_c _ _ (by omega), upE_c _ _ (by omega), upE_c _ _ (by omega), upE_c _ _ (by omega), upE_c _ _ (by omega)]
theorem stE_141 (d s : Nat → Nat → Int) (a : Nat) (u n : Int) (k : Nat) : stE d s a u n 141 k = if k = a then u else s 141 k := by
  unfold stE
  rw [upE_c _ _ (by omega), upE_c _ _ (by omega), upE_c _ _ (by omega), upE_c _ _ (by omega), upE_c _ _ (by omega), upE_eq]
theorem stE_142 (d s : Nat → Nat → Int) (a : Nat) (u n : Int) (k : Nat) : stE d s a u n 142 k = if k = a then n else s 142 k := by
  unfold stE
  rw [upE_c _ _ (by omega), upE_c _ _ (by omega), upE_c _ _ (by omega), upE_c _ _ (by omega), upE_eq, upE_c _ _ (by omega)]
theorem stE_143 (d s : Nat → Nat → Int) (a : Nat) (u n : Int) (k : Nat) : stE d s a u n 143 k = if k = (d 124 a).toNat then u + n else s 143 k := by
  unfold stE
  rw [upE_c _ _ (by omega), upE_c _ _ (by omega), upE_c _ _ (by omega), upE_eq, upE_c _ _ (by omega), upE_c _ _ (by omega)]
theorem stE_145 (d s : Nat → Nat → Int) (a : Nat) (u n : Int) (k : Nat) : stE d s a u n 145 k = if k = (d 123 a).toNat then u + n else s 145 k := by
  unfold stE
  rw [upE_c _ _ (by omega), upE_c _ _ (by omega), upE_eq, upE_c _ _ (by omega), upE_c _ _ (by omega), upE_c _ _ (by omega)]
theorem stE_146 (d s : Nat → Nat → Int) (a : Nat) (u n : Int) (k : Nat) : stE d s a u n 146 k = if k = (d 123 a).toNat then d 124 a else s 146 k := by
  unfold stE
  rw [upE_c _ _ (by omega), upE_eq, upE_c _ _ (by omega), upE_c _ _ (by omega), upE_c _ _ (by omega), upE_c _ _ (by omega)]
theorem stE_147 (d s : Nat → Nat → Int) (a : Nat) (u n : Int) (k : Nat) : stE d s a u n 147 k = if k = (d 118 (d 123 a).toNat).toNat then (if 0 < d 118 (d 123 a).toNat then u + n else 0) else s 147 k := by
  unfold stE
  rw [upE_eq, upE_c _ _ (by omega), upE_c _ _ (by omega), upE_c _ _ (by omega), upE_c _ _ (by omega), upE_c _ _ (by omega)]
theorem SI.st {d s : Nat → Nat → Int} (hD : DOk d) (h : SI d s) (a : Nat) (ha : opn d s a) (u n : Int) (hu : 0 ≤ u ∧ u ≤ 799) (hn : 0 ≤ n ∧ n ≤ 90) : SI d (stE d s a u n) := by
  obtain ⟨s1, s2, s3, s4, s5⟩ := h
  obtain ⟨a1, a2, a3, a4⟩ := ha
  obtain ⟨k1, k2, -⟩ := hD.2.2.2.2.2.2 a a1
  have pF := (hD.2.2.1 (d 123 a).toNat (by omega)).2.1
  refine ⟨fun f hf => ?_, fun k hk => ?_, ?_, fun t ht => ?_, fun b hb => ?_⟩
  · rw [stE_o d s a u n (by omega), stE_145, stE_146]
    have := s1 f hf
    refine ⟨this.1, ?_, ?_⟩
    · split <;> omega
    · split <;> omega
  · rw [stE_147]
    have := s2 k hk
    split
    · split <;> omega
    · exact this
  · rw [stE_147]
    split
    · rw [if_neg (by omega)]
    · exact s3
  · rw [stE_143, stE_o d s a u n (by omega)]
    have := s4 t ht
    refine ⟨?_, this.2⟩
    split <;> omega
  · have := s5 b hb
    rw [stE_141, stE_142, stE_o d s a u n (by omega), stE_o d s a u n (by omega), stE_o d s a u n (by omega)]
    by_cases e : b = a
    · rw [if_pos e, if_pos e]
      subst e
      exact ⟨this.1, by omega, by omega, this.2.2.2.1, this.2.2.2.2.1, fun _ => a4, fun z => absurd z a2, fun z => by omega⟩
    · rw [if_neg e, if_neg e]
      exact this
theorem startM {d s : Nat → Nat → Int} {K : Nat} {v : qM} (hD : DOk d) (hS : SI d s) (h : MS d s K v) (a : Nat) (ha : (a : Int) < d 98 32) (u n : Int) (hu : 0 ≤ u ∧ u ≤ 799) (hn : 0 ≤ n ∧ n ≤ 90) : wp (fX13_start (Zi a) (Zi u) (Zi n) v) (fun _ v' => MS d (stE d s a u n) K v' ∧ Fr (fun c _ => 139 ≤ c ∧ c ≤ 149) v v') := by
  have n1 := hD.2.2.2.2.1
  have n2 := hD.2.2.2.2.2.1
  obtain ⟨k1, k2, -⟩ := hD.2.2.2.2.2.2 a ha
  obtain ⟨f, hf⟩ : ∃ f : Nat, d 123 a = f := ⟨(d 123 a).toNat, by omega⟩
  obtain ⟨t, ht⟩ : ∃ t : Nat, d 124 a = t := ⟨(d 124 a).toNat, by omega⟩
  have pF := (hD.2.2.1 f (by omega)).2.1
  obtain ⟨k, hk⟩ : ∃ k : Nat, d 118 f = k := ⟨(d 118 f).toNat, by omega⟩
  have e123 : vI v 123 a = f := by rw [h.1 123 a (by unfold dE; omega), hf]
  have e124 : vI v 124 a = t := by rw [h.1 124 a (by unfold dE; omega), ht]
  have e118 : vI v 118 f = k := by rw [h.1 118 f (by unfold dE; omega), hk]
  obtain ⟨v5, hv5⟩ : ∃ v5 : qM, v5 = sI (sI (sI (sI (sI v 141 a (Zi u)) 142 a (Zi n)) 143 t (Zi (u + n))) 145 f (Zi (u + n))) 146 f (Zi t) := ⟨_, rfl⟩
  have M5 : MS d (upE (upE (upE (upE (upE s 141 a u) 142 a n) 143 t (u + n)) 145 f (u + n)) 146 f t) K v5 := by
    rw [hv5]
    exact ((((h.set 141 a (by omega) u (by omega)).set 142 a (by omega) n (by omega)).set 143 t (by omega) (u + n) (by omega)).set 145 f (by omega) (u + n) (by omega)).set 146 f (by omega) t (by omega)
  have F5 : Fr (fun c _ => 139 ≤ c ∧ c ≤ 149) v v5 := by
    rw [hv5]
    exact (((((Fr.rf v).wI 141 _ _ (by omega)).wI 142 _ _ (by omega)).wI 143 _ _ (by omega)).wI 145 _ _ (by omega)).wI 146 _ _ (by omega)
  have f123 : vI v5 123 a = f := by rw [F5.v 123 a (by omega), e123]
  have f118 : vI v5 118 f = k := by rw [F5.v 118 f (by omega), e118]
  have eS : stE d s a u n = upE (upE (upE (upE (upE (upE s 141 a u) 142 a n) 143 t (u + n)) 145 f (u + n)) 146 f t) 147 k (if 0 < (k : Int) then u + n else 0) := by
    unfold stE
    simp only [hf, ht, Int.toNat_natCast, hk]
  rw [fX13_start_d, eS]
  by_cases g : k = 0
  · subst g
    refine wp_e (x := ()) (m := v5) ?_ ⟨?_, F5⟩
    · simp (disch := omega) only [fX13_start_0, fX13_start_62, qbI_s, qbL_s, qbV_s, qbR_s, qbR_n, qbN_s, qbN_n, qbIX_s, qbIX_n, qbVX_s, qbVX_n, cond_true, cond_false, cond_dec, jadd, jsub, jmul, jneg, li_0, li_1, li_2, li_3, li_4, li_5, li_6, li_7, li_8, li_9, li_10, li_14, li_15, li_16, li_19, li_20, li_24, li_30, li_31, li_32, li_39, li_40, li_48, li_57, li_59, li_60, li_63, li_65, li_80, li_81, li_90, li_97, li_99, li_100, li_122, li_126, li_127, li_150, li_160, li_200, li_225, li_255, li_400, li_799, li_800, li_999, li_2400, li_3239, li_3240, li_1048575, li_1431655765, li_858993459, li_252645135, eqb_j, ltb_j, leb_j, inb_j, ix_j, ix_n, nz_b, nz_0, nz_1, eqb_b, bnot, vI_ne, vI_eq, gIL, gLI, gIR, gRI, gLR, gRL, Int.reduceLT, Int.reduceLE, Int.reduceEq, Int.reduceAdd, Int.reduceSub, Int.reduceMul, Int.reduceNeg, Int.reduceToNat, Nat.reduceEqDiff, reduceIte, if_neg, if_pos, gI_ne, gIv 124, gIv 123, gIv 118, e124, e123, e118, ← hv5, f123, f118]
    · rw [if_neg (by omega)]
      refine ⟨M5.1, fun c k hc => ?_, M5.2.2⟩
      rw [M5.2.1 c k hc]
      by_cases e : c = 147
      · subst e
        rw [upE_eq]
        by_cases e0 : k = 0
        · rw [if_pos e0, e0, upE_c _ _ (by omega), upE_c _ _ (by omega), upE_c _ _ (by omega), upE_c _ _ (by omega), upE_c _ _ (by omega)]
          exact hS.2.2.1
        · rw [if_neg e0]
      · rw [upE_c _ _ e]
  · refine wp_e (x := ()) (m := sI v5 147 k (Zi (u + n))) ?_ ⟨?_, F5.wI 147 k _ (by omega)⟩
    · simp (disch := omega) only [fX13_start_0, fX13_start_62, qbI_s, qbL_s, qbV_s, qbR_s, qbR_n, qbN_s, qbN_n, qbIX_s, qbIX_n, qbVX_s, qbVX_n, cond_true, cond_false, cond_dec, jadd, jsub, jmul, jneg, li_0, li_1, li_2, li_3, li_4, li_5, li_6, li_7, li_8, li_9, li_10, li_14, li_15, li_16, li_19, li_20, li_24, li_30, li_31, li_32, li_39, li_40, li_48, li_57, li_59, li_60, li_63, li_65, li_80, li_81, li_90, li_97, li_99, li_100, li_122, li_126, li_127, li_150, li_160, li_200, li_225, li_255, li_400, li_799, li_800, li_999, li_2400, li_3239, li_3240, li_1048575, li_1431655765, li_858993459, li_252645135, eqb_j, ltb_j, leb_j, inb_j, ix_j, ix_n, nz_b, nz_0, nz_1, eqb_b, bnot, vI_ne, vI_eq, gIL, gLI, gIR, gRI, gLR, gRL, Int.reduceLT, Int.reduceLE, Int.reduceEq, Int.reduceAdd, Int.reduceSub, Int.reduceMul, Int.reduceNeg, Int.reduceToNat, Nat.reduceEqDiff, reduceIte, if_neg, if_pos, gI_ne, gIv 124, gIv 123, gIv 118, e124, e123, e118, ← hv5, f123, f118]
    · rw [if_pos (by omega)]
      exact M5.set 147 k (by omega) _ (by omega)
/-- the pending ones of the class after one of them is taken out -/
theorem pendOut {m0 : qM} (hR : R0 m0) {s s' : Nat → Nat → Int} (a : Nat) (ha : opn (vI m0) s a) (t b : Nat) (ht : vI m0 124 a = t) (hb : vI m0 125 a = b) (hn : ¬ opn (vI m0) s' a) (hs : ∀ o, o ≠ a → (opn (vI m0) s' o ↔ opn (vI m0) s o)) (x : Int32) (y : Nat → Int32) (hx : ∀ i, i < 32 → bt x i = pd (opS (vI m0) s t i)) (h32 : b < 32) : (∀ i, i < 32 → bt (x &&& (((1 : Int32) <<< (nI b &&& 31)) ^^^ (-1))) i = pd (opS (vI m0) s' t i)) ∧ ∀ t' i : Nat, t' ≠ t → pd (opS (vI m0) s' t' i) = pd (opS (vI m0) s t' i) := by
  have hCl := (CAll.of hR).2.2.2.2.2.2.2.1
  refine ⟨fun i hi => ?_, fun t' i h => ?_⟩
  · rw [b_and, b_not _ hi, b_one h32 hi, hx i hi, Bool.eq_iff_iff, Bool.and_eq_true, Bool.not_eq_true', decide_eq_false_iff_not, pd_iff, pd_iff]
    constructor
    · rintro ⟨⟨o, o1, o2, o3⟩, h⟩
      have : o ≠ a := fun e => h (by rw [e, hb] at o3; omega)
      exact ⟨o, (hs o this).mpr o1, o2, o3⟩
    · rintro ⟨o, o1, o2, o3⟩
      have e : o ≠ a := fun e => hn (by rw [← e]; exact o1)
      have o1' := (hs o e).mp o1
      refine ⟨⟨o, o1', o2, o3⟩, fun z => ?_⟩
      exact (hCl o a o1'.1 ha.1 e o1'.2.1 (by rw [o3, hb, z])).2.1 (by rw [o2, ht])
  · rw [Bool.eq_iff_iff, pd_iff, pd_iff]
    constructor
    · rintro ⟨o, o1, o2, o3⟩
      have e : o ≠ a := fun e => h (by rw [e, ht] at o2; omega)
      exact ⟨o, (hs o e).mp o1, o2, o3⟩
    · rintro ⟨o, o1, o2, o3⟩
      have e : o ≠ a := fun e => h (by rw [e, ht] at o2; omega)
      exact ⟨o, (hs o e).mpr o1, o2, o3⟩
theorem opn_st {d s : Nat → Nat → Int} (a : Nat) (u n : Int) (hu : 0 ≤ u) : ¬ opn d (stE d s a u n) a ∧ ∀ o, o ≠ a → (opn d (stE d s a u n) o ↔ opn d s o) := by
  refine ⟨fun h => ?_, fun o ho => ?_⟩
  · have := h.2.2.1
    rw [stE_141, if_pos rfl] at this
    omega
  · unfold opn
    rw [stE_141, if_neg ho, stE_o d s a u n (by omega)]
theorem opn_ms {d s : Nat → Nat → Int} (a : Nat) : ¬ opn d (upE s 149 a 1) a ∧ ∀ o, o ≠ a → (opn d (upE s 149 a 1) o ↔ opn d s o) := by
  refine ⟨fun h => ?_, fun o ho => ?_⟩
  · have := h.2.2.2
    rw [upE_eq, if_pos rfl] at this
    omega
  · unfold opn
    rw [upE_c _ _ (by omega), upE_eq, if_neg ho]
theorem meetC {m0 w : qM} (hR : R0 m0) {s : Nat → Nat → Int} {K : Nat} (hK : K ≤ 80) (hS : SI (vI m0) s) (h : CS m0 s K w) (a : Nat) (ha : opn (vI m0) s a) (u n : Int) (hu : 0 ≤ u ∧ u ≤ 799) (hn : 0 ≤ n ∧ n ≤ 90) : wp (fX1_meet (Zi a) (Zi u) (Zi n) w) (fun _ w' => CS m0 (stE (vI m0) s a u n) K w' ∧ ∀ t, vI w' 86 t = if t = (vI m0 124 a).toNat then u + n else vI w 86 t) := by
  have hA := CS.all hR h.1
  have hD := DOk.of hA
  have a1 := ha.1
  have n1 := hD.2.2.2.2.1
  have n2 := hD.2.2.2.2.2.1
  obtain ⟨k1, k2, k3, k4⟩ := hD.2.2.2.2.2.2 a a1
  obtain ⟨f, hf⟩ : ∃ f : Nat, vI m0 123 a = f := ⟨(vI m0 123 a).toNat, by omega⟩
  obtain ⟨t, ht⟩ : ∃ t : Nat, vI m0 124 a = t := ⟨(vI m0 124 a).toNat, by omega⟩
  have a2 := ha.2.1
  obtain ⟨b, hb⟩ : ∃ b : Nat, vI m0 125 a = b := ⟨(vI m0 125 a).toNat, by omega⟩
  have pF := (hD.2.2.1 f (by omega)).2.1
  obtain ⟨k, hk⟩ : ∃ k : Nat, vI m0 118 f = k := ⟨(vI m0 118 f).toNat, by omega⟩
  have hA' := hA
  obtain ⟨h1, h2, h3, h4, h5, h6, h7, h8⟩ := h
  have fA := evFam hA a a1
  rw [hf] at fA
  have tA := evTea hA a a1
  rw [ht] at tA
  obtain ⟨w5, hw5⟩ : ∃ w5 : qM, w5 = sI (sI (sI (sI (sI w 81 (40 * K + a) (Zi u)) 82 (40 * K + a) (Zi (u + n))) 86 t (Zi (u + n))) 87 f (Zi (u + n))) 88 f (Zi t) := ⟨_, rfl⟩
  have F5 : Fr evF m0 w5 := by
    rw [hw5]
    exact ((((h1.wI 81 _ _ (by unfold evF; omega)).wI 82 _ _ (by unfold evF; omega)).wI 86 _ _ (by unfold evF; omega)).wI 87 _ _ (by unfold evF; omega)).wI 88 _ _ (by unfold evF; omega)
  obtain ⟨w6, hw6⟩ : ∃ w6 : qM, w6 = if 0 < k then sI w5 89 k (Zi (u + n)) else w5 := ⟨_, rfl⟩
  have F6 : Fr evF m0 w6 := by
    rw [hw6]
    split
    · exact F5.wI 89 _ _ (by unfold evF; omega)
    · exact F5
  obtain ⟨w7, hw7⟩ : ∃ w7 : qM, w7 = sI w6 85 t (gI w6 85 t &&& (((1 : Int32) <<< (nI b &&& 31)) ^^^ (-1))) := ⟨_, rfl⟩
  have F7 : Fr evF m0 w7 := by rw [hw7]; exact F6.wI 85 _ _ (by unfold evF; omega)
  have oA5 := evTon (CS.all hR F5) f (by omega)
  rw [hk] at oA5
  have sA6 := evSlo (CS.all hR F6) a a1
  rw [hb] at sA6
  have i1 : (40 * (K : Int) + a).toNat = 40 * K + a := by omega
  have tail : fX1_meet_58 (Zi a) (Zi t) w6 = some ((), w7) := by
    rw [hw7]
    simp (disch := omega) only [fX1_meet_58, qbI_s, qbL_s, qbV_s, qbR_s, qbR_n, qbN_s, qbN_n, qbIX_s, qbIX_n, qbVX_s, qbVX_n, cond_true, cond_false, cond_dec, jadd, jsub, jmul, jneg, li_0, li_1, li_2, li_3, li_4, li_5, li_6, li_7, li_8, li_9, li_10, li_14, li_15, li_16, li_19, li_20, li_24, li_30, li_31, li_32, li_39, li_40, li_48, li_57, li_59, li_60, li_63, li_65, li_80, li_81, li_90, li_97, li_99, li_100, li_122, li_126, li_127, li_150, li_160, li_200, li_225, li_255, li_400, li_799, li_800, li_999, li_2400, li_3239, li_3240, li_1048575, li_1431655765, li_858993459, li_252645135, eqb_j, ltb_j, leb_j, inb_j, ix_j, ix_n, nz_b, nz_0, nz_1, eqb_b, bnot, vI_ne, vI_eq, gIL, gLI, gIR, gRI, gLR, gRL, Int.reduceLT, Int.reduceLE, Int.reduceEq, Int.reduceAdd, Int.reduceSub, Int.reduceMul, Int.reduceNeg, Int.reduceToNat, Nat.reduceEqDiff, reduceIte, if_neg, if_pos, gI_ne, sA6, show (-1 : Int32) = Zi (-1) from rfl]
    simp only [Zn]
  have run : fX1_meet (Zi a) (Zi u) (Zi n) w = some ((), w7) := by
    rw [fX1_meet_d]
    by_cases g : k = 0
    · subst g
      rw [if_neg (by omega)] at hw6
      subst hw6
      simp (disch := omega) only [fX1_meet_0, qbI_s, qbL_s, qbV_s, qbR_s, qbR_n, qbN_s, qbN_n, qbIX_s, qbIX_n, qbVX_s, qbVX_n, cond_true, cond_false, cond_dec, jadd, jsub, jmul, jneg, li_0, li_1, li_2, li_3, li_4, li_5, li_6, li_7, li_8, li_9, li_10, li_14, li_15, li_16, li_19, li_20, li_24, li_30, li_31, li_32, li_39, li_40, li_48, li_57, li_59, li_60, li_63, li_65, li_80, li_81, li_90, li_97, li_99, li_100, li_122, li_126, li_127, li_150, li_160, li_200, li_225, li_255, li_400, li_799, li_800, li_999, li_2400, li_3239, li_3240, li_1048575, li_1431655765, li_858993459, li_252645135, eqb_j, ltb_j, leb_j, inb_j, ix_j, ix_n, nz_b, nz_0, nz_1, eqb_b, bnot, vI_ne, vI_eq, gIL, gLI, gIR, gRI, gLR, gRL, Int.reduceLT, Int.reduceLE, Int.reduceEq, Int.reduceAdd, Int.reduceSub, Int.reduceMul, Int.reduceNeg, Int.reduceToNat, Nat.reduceEqDiff, reduceIte, if_neg, if_pos, gI_ne, fA, tA, gIv 80, h2.1, h2.2, i1, ← hw5, oA5]
      exact tail
    · rw [if_pos (by omega)] at hw6
      simp (disch := omega) only [fX1_meet_0, qbI_s, qbL_s, qbV_s, qbR_s, qbR_n, qbN_s, qbN_n, qbIX_s, qbIX_n, qbVX_s, qbVX_n, cond_true, cond_false, cond_dec, jadd, jsub, jmul, jneg, li_0, li_1, li_2, li_3, li_4, li_5, li_6, li_7, li_8, li_9, li_10, li_14, li_15, li_16, li_19, li_20, li_24, li_30, li_31, li_32, li_39, li_40, li_48, li_57, li_59, li_60, li_63, li_65, li_80, li_81, li_90, li_97, li_99, li_100, li_122, li_126, li_127, li_150, li_160, li_200, li_225, li_255, li_400, li_799, li_800, li_999, li_2400, li_3239, li_3240, li_1048575, li_1431655765, li_858993459, li_252645135, eqb_j, ltb_j, leb_j, inb_j, ix_j, ix_n, nz_b, nz_0, nz_1, eqb_b, bnot, vI_ne, vI_eq, gIL, gLI, gIR, gRI, gLR, gRL, Int.reduceLT, Int.reduceLE, Int.reduceEq, Int.reduceAdd, Int.reduceSub, Int.reduceMul, Int.reduceNeg, Int.reduceToNat, Nat.reduceEqDiff, reduceIte, if_neg, if_pos, gI_ne, fA, tA, gIv 80, h2.1, h2.2, i1, ← hw5, oA5, ← hw6]
      exact tail
  have v7 : ∀ c j, ¬ (c = 81 ∨ c = 82 ∨ c = 85 ∨ c = 86 ∨ c = 87 ∨ c = 88 ∨ c = 89) → vI w7 c j = vI w c j := fun c j hc => by
    rw [hw7, vI_ne (by omega), hw6]
    split
    · rw [vI_ne (by omega), hw5, vI_ne (by omega), vI_ne (by omega), vI_ne (by omega), vI_ne (by omega), vI_ne (by omega)]
    · rw [hw5, vI_ne (by omega), vI_ne (by omega), vI_ne (by omega), vI_ne (by omega), vI_ne (by omega)]
  have v6 : ∀ c j, c ≠ 89 → vI w6 c j = vI w5 c j := fun c j hc => by
    rw [hw6]
    split
    · rw [vI_ne (by omega)]
    · rfl
  obtain ⟨oq1, oq2⟩ := opn_st (d := vI m0) (s := s) a u n hu.1
  have g85 : gI w6 85 t = gI w 85 t := gI_of (by rw [v6 85 t (by omega), hw5, vI_ne (by omega), vI_ne (by omega), vI_ne (by omega), vI_ne (by omega), vI_ne (by omega)])
  obtain ⟨p1, p2⟩ := pendOut hR a ha t b ht hb oq1 oq2 (gI w 85 t) (fun _ => 0) (fun i hi => h3 t i (by omega) hi) (by omega)
  refine ⟨(), w7, run, ⟨F7, ⟨by rw [v7 80 9 (by omega)]; exact h2.1, by rw [v7 80 8 (by omega)]; exact h2.2⟩, fun t' i ht' hi => ?_, fun f' hf' => ?_, fun k' hk' => ?_, fun o ho => ?_, fun j hj => ?_, fun j => ?_⟩, fun t' => ?_⟩
  · rw [hw7]
    by_cases e : t' = t
    · rw [e, gI_sI, if_pos ⟨rfl, rfl⟩, g85]
      exact p1 i hi
    · rw [gI_sI, if_neg (fun z => e z.2), p2 t' i e, ← h3 t' i ht' hi]
      congr 1
      exact gI_of (by rw [v6 85 t' (by omega), hw5, vI_ne (by omega), vI_ne (by omega), vI_ne (by omega), vI_ne (by omega), vI_ne (by omega)])
  · rw [stE_145, stE_146, stE_o _ _ _ _ _ (by omega), hf, Int.toNat_natCast, hw7, vI_ne (by omega), vI_ne (by omega), vI_ne (by omega), v6 87 _ (by omega), v6 88 _ (by omega), v6 92 _ (by omega), hw5]
    have := h4 f' hf'
    refine ⟨?_, ?_, ?_⟩
    · rw [vI_ne (by omega), vI_eq (by omega)]
      split
      · rfl
      · rw [vI_ne (by omega), vI_ne (by omega), vI_ne (by omega)]; exact this.1
    · rw [vI_eq (by omega)]
      split
      · rw [ht]
      · rw [vI_ne (by omega), vI_ne (by omega), vI_ne (by omega), vI_ne (by omega)]; exact this.2.1
    · rw [vI_ne (by omega), vI_ne (by omega), vI_ne (by omega), vI_ne (by omega), vI_ne (by omega)]; exact this.2.2
  · rw [stE_147, hf, Int.toNat_natCast, hk, Int.toNat_natCast, hw7, vI_ne (by omega), hw6]
    have h59 : vI w5 89 k' = vI w 89 k' := by rw [hw5, vI_ne (by omega), vI_ne (by omega), vI_ne (by omega), vI_ne (by omega), vI_ne (by omega)]
    by_cases g : k = 0
    · rw [if_neg (show ¬ 0 < k by omega), h59, h5 k' hk']
      split
      · rename_i e
        rw [if_neg (by omega), e, g]
        exact hS.2.2.1
      · rfl
    · rw [if_pos (show 0 < k by omega), vI_eq (by omega), h59, h5 k' hk', if_pos (show 0 < (k : Int) by omega)]
  · have := h6 o ho
    rw [stE_141, stE_142, stE_o _ _ _ _ _ (by omega), stE_o _ _ _ _ _ (by omega), v7 90 o (by omega), v7 91 o (by omega), hw7, vI_ne (by omega), vI_ne (by omega), v6 81 _ (by omega), v6 82 _ (by omega), hw5]
    refine ⟨this.1, this.2.1, ?_, ?_⟩
    · rw [vI_ne (by omega), vI_ne (by omega), vI_ne (by omega), vI_ne (by omega), vI_eq (by omega)]
      by_cases e : o = a
      · rw [if_pos (by omega), if_pos e]
      · rw [if_neg (by omega), if_neg e]; exact this.2.2.1
    · rw [vI_ne (by omega), vI_ne (by omega), vI_ne (by omega), vI_eq (by omega), vI_ne (by omega)]
      by_cases e : o = a
      · rw [if_pos (by omega), if_pos e, if_pos e, if_neg (by omega)]
      · rw [if_neg (by omega), if_neg e, if_neg e]; exact this.2.2.2
  · rw [← (h7 j hj).1, ← (h7 j hj).2]
    refine ⟨gI_of ?_, gI_of ?_⟩
    · rw [hw7, vI_ne (by omega), v6 81 _ (by omega), hw5, vI_ne (by omega), vI_ne (by omega), vI_ne (by omega), vI_ne (by omega), vI_nk (by omega)]
    · rw [hw7, vI_ne (by omega), v6 82 _ (by omega), hw5, vI_ne (by omega), vI_ne (by omega), vI_ne (by omega), vI_nk (by omega), vI_ne (by omega)]
  · rw [← h8 j]
    exact gI_of (v7 83 j (by omega))
  · rw [hw7, vI_ne (by omega), v6 86 _ (by omega), hw5, vI_ne (by omega), vI_ne (by omega), vI_eq (by omega), ht, Int.toNat_natCast]
    split
    · rfl
    · rw [vI_ne (by omega), vI_ne (by omega)]
theorem SI.ms {d s : Nat → Nat → Int} (h : SI d s) (a : Nat) (ha : opn d s a) : SI d (upE s 149 a 1) := by
  obtain ⟨s1, s2, s3, s4, s5⟩ := h
  obtain ⟨a1, a2, a3, a4⟩ := ha
  refine ⟨fun f hf => ?_, fun k hk => ?_, ?_, fun t ht => ?_, fun b hb => ?_⟩
  · rw [upE_c _ _ (by omega), upE_c _ _ (by omega), upE_c _ _ (by omega)]; exact s1 f hf
  · rw [upE_c _ _ (by omega)]; exact s2 k hk
  · rw [upE_c _ _ (by omega)]; exact s3
  · rw [upE_c _ _ (by omega), upE_c _ _ (by omega)]; exact s4 t ht
  · have := s5 b hb
    rw [upE_c _ _ (by omega), upE_c _ _ (by omega), upE_c _ _ (by omega), upE_c _ _ (by omega), upE_eq]
    by_cases e : b = a
    · rw [if_pos e]
      subst e
      exact ⟨this.1, this.2.1, this.2.2.1, this.2.2.2.1, Or.inr rfl, fun z => absurd a3 z, fun z => absurd z a2, this.2.2.2.2.2.2.2⟩
    · rw [if_neg e]
      exact this
theorem dropC {m0 w : qM} (hR : R0 m0) {s : Nat → Nat → Int} {K : Nat} (h : CS m0 s K w) (a : Nat) (ha : opn (vI m0) s a) : wp (fX1_drop (Zi a) w) (fun _ w' => CS m0 (upE s 149 a 1) K w' ∧ ∀ t, vI w' 86 t = vI w 86 t) := by
  have hA := CS.all hR h.1
  have hD := DOk.of hA
  have a1 := ha.1
  have n1 := hD.2.2.2.2.1
  have n2 := hD.2.2.2.2.2.1
  obtain ⟨k1, k2, k3, k4⟩ := hD.2.2.2.2.2.2 a a1
  obtain ⟨t, ht⟩ : ∃ t : Nat, vI m0 124 a = t := ⟨(vI m0 124 a).toNat, by omega⟩
  have a2 := ha.2.1
  obtain ⟨b, hb⟩ : ∃ b : Nat, vI m0 125 a = b := ⟨(vI m0 125 a).toNat, by omega⟩
  obtain ⟨h1, h2, h3, h4, h5, h6, h7, h8⟩ := h
  have tA := evTea hA a a1
  rw [ht] at tA
  have sA := evSlo hA a a1
  rw [hb] at sA
  obtain ⟨w7, hw7⟩ : ∃ w7 : qM, w7 = sI w 85 t (gI w 85 t &&& (((1 : Int32) <<< (nI b &&& 31)) ^^^ (-1))) := ⟨_, rfl⟩
  have run : fX1_drop (Zi a) w = some ((), w7) := by
    rw [fX1_drop_d, hw7]
    simp (disch := omega) only [fX1_drop_0, qbI_s, qbL_s, qbV_s, qbR_s, qbR_n, qbN_s, qbN_n, qbIX_s, qbIX_n, qbVX_s, qbVX_n, cond_true, cond_false, cond_dec, jadd, jsub, jmul, jneg, li_0, li_1, li_2, li_3, li_4, li_5, li_6, li_7, li_8, li_9, li_10, li_14, li_15, li_16, li_19, li_20, li_24, li_30, li_31, li_32, li_39, li_40, li_48, li_57, li_59, li_60, li_63, li_65, li_80, li_81, li_90, li_97, li_99, li_100, li_122, li_126, li_127, li_150, li_160, li_200, li_225, li_255, li_400, li_799, li_800, li_999, li_2400, li_3239, li_3240, li_1048575, li_1431655765, li_858993459, li_252645135, eqb_j, ltb_j, leb_j, inb_j, ix_j, ix_n, nz_b, nz_0, nz_1, eqb_b, bnot, vI_ne, vI_eq, gIL, gLI, gIR, gRI, gLR, gRL, Int.reduceLT, Int.reduceLE, Int.reduceEq, Int.reduceAdd, Int.reduceSub, Int.reduceMul, Int.reduceNeg, Int.reduceToNat, Nat.reduceEqDiff, reduceIte, if_neg, if_pos, gI_ne, tA, sA, show (-1 : Int32) = Zi (-1) from rfl]
    simp only [Zn]
  obtain ⟨oq1, oq2⟩ := opn_ms (d := vI m0) (s := s) a
  obtain ⟨p1, p2⟩ := pendOut hR a ha t b ht hb oq1 oq2 (gI w 85 t) (fun _ => 0) (fun i hi => h3 t i (by omega) hi) (by omega)
  have v7 : ∀ c j, ¬ c = 85 → vI w7 c j = vI w c j := fun c j hc => by rw [hw7, vI_ne hc]
  refine ⟨(), w7, run, ⟨by rw [hw7]; exact h1.wI 85 _ _ (by unfold evF; omega), ⟨by rw [v7 80 9 (by omega)]; exact h2.1, by rw [v7 80 8 (by omega)]; exact h2.2⟩, fun t' i ht' hi => ?_, fun f' hf' => ?_, fun k' hk' => ?_, fun o ho => ?_, fun j hj => ?_, fun j => ?_⟩, fun t' => v7 86 t' (by omega)⟩
  · rw [hw7]
    by_cases e : t' = t
    · rw [e, gI_sI, if_pos ⟨rfl, rfl⟩]
      exact p1 i hi
    · rw [gI_sI, if_neg (fun z => e z.2), p2 t' i e]
      exact h3 t' i ht' hi
  · rw [v7 87 _ (by omega), v7 88 _ (by omega), v7 92 _ (by omega), upE_c _ _ (by omega), upE_c _ _ (by omega), upE_c _ _ (by omega)]
    exact h4 f' hf'
  · rw [v7 89 _ (by omega), upE_c _ _ (by omega)]
    exact h5 k' hk'
  · rw [v7 90 _ (by omega), v7 91 _ (by omega), v7 81 _ (by omega), v7 82 _ (by omega), upE_c _ _ (by omega), upE_c _ _ (by omega), upE_c _ _ (by omega), upE_c _ _ (by omega)]
    exact h6 o ho
  · rw [← (h7 j hj).1, ← (h7 j hj).2]
    exact ⟨gI_of (v7 81 _ (by omega)), gI_of (v7 82 _ (by omega))⟩
  · rw [← h8 j]
    exact gI_of (v7 83 j (by omega))
/-! who is in front, for the reference -/
theorem openM_s {d s : Nat → Nat → Int} {K : Nat} {v : qM} (hD : DOk d) (hS : SI d s) (h : MS d s K v) (a : Nat) (ha : (a : Int) < d 98 32) : fX13_isOpen (Zi a) v = some (Zi (bI (pd (opn d s a))), v) := by
  have n2 := hD.2.2.2.2.2.1
  have k4 := (hD.2.2.2.2.2.2 a ha).2.2.2
  have q := hS.2.2.2.2 a ha
  have e1 := h.1 125 a (by unfold dE; omega)
  have e2 := h.2.1 141 a (by unfold dyn; omega)
  have e3 := h.2.1 149 a (by unfold dyn; omega)
  rw [fX13_isOpen_d]
  by_cases g1 : d 125 a = -1
  · rw [pd_f (fun z => z.2.1 g1)]
    simp (disch := omega) only [fX13_isOpen_0, fX13_isOpen_20, fX13_isOpen_19, qbI_s, qbL_s, qbV_s, qbR_s, qbR_n, qbN_s, qbN_n, qbIX_s, qbIX_n, qbVX_s, qbVX_n, cond_true, cond_false, cond_dec, jadd, jsub, jmul, jneg, li_0, li_1, li_2, li_3, li_4, li_5, li_6, li_7, li_8, li_9, li_10, li_14, li_15, li_16, li_19, li_20, li_24, li_30, li_31, li_32, li_39, li_40, li_48, li_57, li_59, li_60, li_63, li_65, li_80, li_81, li_90, li_97, li_99, li_100, li_122, li_126, li_127, li_150, li_160, li_200, li_225, li_255, li_400, li_799, li_800, li_999, li_2400, li_3239, li_3240, li_1048575, li_1431655765, li_858993459, li_252645135, eqb_j, ltb_j, leb_j, inb_j, ix_j, ix_n, nz_b, nz_0, nz_1, eqb_b, bnot, vI_ne, vI_eq, gIL, gLI, gIR, gRI, gLR, gRL, Int.reduceLT, Int.reduceLE, Int.reduceEq, Int.reduceAdd, Int.reduceSub, Int.reduceMul, Int.reduceNeg, Int.reduceToNat, Nat.reduceEqDiff, reduceIte, if_neg, if_pos, gI_ne, gIv 125, e1, show (-1 : Int32) = Zi (-1) from rfl, show bI false = 0 from rfl]
  · by_cases g2 : s 141 a = -1
    · by_cases g3 : s 149 a = 0
      · rw [pd_t ⟨ha, g1, g2, g3⟩]
        simp (disch := omega) only [fX13_isOpen_0, fX13_isOpen_20, fX13_isOpen_19, qbI_s, qbL_s, qbV_s, qbR_s, qbR_n, qbN_s, qbN_n, qbIX_s, qbIX_n, qbVX_s, qbVX_n, cond_true, cond_false, cond_dec, jadd, jsub, jmul, jneg, li_0, li_1, li_2, li_3, li_4, li_5, li_6, li_7, li_8, li_9, li_10, li_14, li_15, li_16, li_19, li_20, li_24, li_30, li_31, li_32, li_39, li_40, li_48, li_57, li_59, li_60, li_63, li_65, li_80, li_81, li_90, li_97, li_99, li_100, li_122, li_126, li_127, li_150, li_160, li_200, li_225, li_255, li_400, li_799, li_800, li_999, li_2400, li_3239, li_3240, li_1048575, li_1431655765, li_858993459, li_252645135, eqb_j, ltb_j, leb_j, inb_j, ix_j, ix_n, nz_b, nz_0, nz_1, eqb_b, bnot, vI_ne, vI_eq, gIL, gLI, gIR, gRI, gLR, gRL, Int.reduceLT, Int.reduceLE, Int.reduceEq, Int.reduceAdd, Int.reduceSub, Int.reduceMul, Int.reduceNeg, Int.reduceToNat, Nat.reduceEqDiff, reduceIte, if_neg, if_pos, gI_ne, gIv 125, e1, gIv 141, e2, gIv 149, e3, show (-1 : Int32) = Zi (-1) from rfl, show bI true = 1 from rfl]
      · rw [pd_f (fun z => g3 z.2.2.2)]
        simp (disch := omega) only [fX13_isOpen_0, fX13_isOpen_20, fX13_isOpen_19, qbI_s, qbL_s, qbV_s, qbR_s, qbR_n, qbN_s, qbN_n, qbIX_s, qbIX_n, qbVX_s, qbVX_n, cond_true, cond_false, cond_dec, jadd, jsub, jmul, jneg, li_0, li_1, li_2, li_3, li_4, li_5, li_6, li_7, li_8, li_9, li_10, li_14, li_15, li_16, li_19, li_20, li_24, li_30, li_31, li_32, li_39, li_40, li_48, li_57, li_59, li_60, li_63, li_65, li_80, li_81, li_90, li_97, li_99, li_100, li_122, li_126, li_127, li_150, li_160, li_200, li_225, li_255, li_400, li_799, li_800, li_999, li_2400, li_3239, li_3240, li_1048575, li_1431655765, li_858993459, li_252645135, eqb_j, ltb_j, leb_j, inb_j, ix_j, ix_n, nz_b, nz_0, nz_1, eqb_b, bnot, vI_ne, vI_eq, gIL, gLI, gIR, gRI, gLR, gRL, Int.reduceLT, Int.reduceLE, Int.reduceEq, Int.reduceAdd, Int.reduceSub, Int.reduceMul, Int.reduceNeg, Int.reduceToNat, Nat.reduceEqDiff, reduceIte, if_neg, if_pos, gI_ne, gIv 125, e1, gIv 141, e2, gIv 149, e3, show (-1 : Int32) = Zi (-1) from rfl, show bI false = 0 from rfl]
    · rw [pd_f (fun z => g2 z.2.2.1)]
      simp (disch := omega) only [fX13_isOpen_0, fX13_isOpen_20, fX13_isOpen_19, qbI_s, qbL_s, qbV_s, qbR_s, qbR_n, qbN_s, qbN_n, qbIX_s, qbIX_n, qbVX_s, qbVX_n, cond_true, cond_false, cond_dec, jadd, jsub, jmul, jneg, li_0, li_1, li_2, li_3, li_4, li_5, li_6, li_7, li_8, li_9, li_10, li_14, li_15, li_16, li_19, li_20, li_24, li_30, li_31, li_32, li_39, li_40, li_48, li_57, li_59, li_60, li_63, li_65, li_80, li_81, li_90, li_97, li_99, li_100, li_122, li_126, li_127, li_150, li_160, li_200, li_225, li_255, li_400, li_799, li_800, li_999, li_2400, li_3239, li_3240, li_1048575, li_1431655765, li_858993459, li_252645135, eqb_j, ltb_j, leb_j, inb_j, ix_j, ix_n, nz_b, nz_0, nz_1, eqb_b, bnot, vI_ne, vI_eq, gIL, gLI, gIR, gRI, gLR, gRL, Int.reduceLT, Int.reduceLE, Int.reduceEq, Int.reduceAdd, Int.reduceSub, Int.reduceMul, Int.reduceNeg, Int.reduceToNat, Nat.reduceEqDiff, reduceIte, if_neg, if_pos, gI_ne, gIv 125, e1, gIv 141, e2, show (-1 : Int32) = Zi (-1) from rfl, show bI false = 0 from rfl]
/-- the first open one of a teacher behind a slot, among the first asks -/
def frQ (d s : Nat → Nat → Int) (t : Nat) (b : Int) (n : Nat) (z : Int) : Prop := (z = -1 ∧ ∀ o, o < n → opn d s o → d 124 o = t → d 125 o ≤ b) ∨ ∃ a : Nat, z = a ∧ a < n ∧ opn d s a ∧ d 124 a = t ∧ b < d 125 a ∧ ∀ o, o < n → opn d s o → d 124 o = t → b < d 125 o → d 125 a ≤ d 125 o
theorem frontM {d s : Nat → Nat → Int} {K : Nat} {v : qM} (hD : DOk d) (hS : SI d s) (h : MS d s K v) (t : Nat) (ht : t < 10) (b : Int) (hb : -1 ≤ b ∧ b ≤ 20) : ∃ z, fX13_frontOf (Zi t) (Zi b) v = some (Zi z, v) ∧ frQ d s t b (d 98 32).toNat z := by
  have n1 := hD.2.2.2.2.1
  have n2 := hD.2.2.2.2.2.1
  have e32 := h.1 98 32 (by unfold dE; omega)
  have key : ∀ (r i g : Nat) (z : Int), i + r = (d 98 32).toNat → r < g → frQ d s t b i z → ∃ z', fX13_frontOf_4 g (Zi t) (Zi b) (Zi z) (Zi i) v = some (Zi z', v) ∧ frQ d s t b (d 98 32).toNat z' := by
    intro r
    induction r with
    | zero =>
      intro i g z hi hg hz
      obtain ⟨g, rfl⟩ : ∃ g', g = g' + 1 := ⟨g - 1, by omega⟩
      refine ⟨z, ?_, by rw [← show i = (d 98 32).toNat by omega]; exact hz⟩
      simp (disch := omega) only [fX13_frontOf_4, qbI_s, qbL_s, qbV_s, qbR_s, qbR_n, qbN_s, qbN_n, qbIX_s, qbIX_n, qbVX_s, qbVX_n, cond_true, cond_false, cond_dec, jadd, jsub, jmul, jneg, li_0, li_1, li_2, li_3, li_4, li_5, li_6, li_7, li_8, li_9, li_10, li_14, li_15, li_16, li_19, li_20, li_24, li_30, li_31, li_32, li_39, li_40, li_48, li_57, li_59, li_60, li_63, li_65, li_80, li_81, li_90, li_97, li_99, li_100, li_122, li_126, li_127, li_150, li_160, li_200, li_225, li_255, li_400, li_799, li_800, li_999, li_2400, li_3239, li_3240, li_1048575, li_1431655765, li_858993459, li_252645135, eqb_j, ltb_j, leb_j, inb_j, ix_j, ix_n, nz_b, nz_0, nz_1, eqb_b, bnot, vI_ne, vI_eq, gIL, gLI, gIR, gRI, gLR, gRL, Int.reduceLT, Int.reduceLE, Int.reduceEq, Int.reduceAdd, Int.reduceSub, Int.reduceMul, Int.reduceNeg, Int.reduceToNat, Nat.reduceEqDiff, reduceIte, if_neg, if_pos, gI_ne, gIv 98, e32]
    | succ r ih =>
      intro i g z hi hg hz
      obtain ⟨g, rfl⟩ : ∃ g', g = g' + 1 := ⟨g - 1, by omega⟩
      have hi' : (i : Int) < d 98 32 := by omega
      obtain ⟨-, k2, -, k4⟩ := hD.2.2.2.2.2.2 i hi'
      have e124 := h.1 124 i (by unfold dE; omega)
      have e125 := h.1 125 i (by unfold dE; omega)
      have oM := openM_s hD hS h i hi'
      have zr : -1 ≤ z ∧ z < 40 := by
        rcases hz with ⟨h1, -⟩ | ⟨a, h1, h2, -⟩ <;> omega
      have keep : ¬ (opn d s i ∧ d 124 i = t ∧ b < d 125 i) → frQ d s t b (i + 1) z := fun hn => by
        rcases hz with ⟨h1, h2⟩ | ⟨a, h1, h2, h3, h4, h5, h6⟩
        · refine Or.inl ⟨h1, fun o ho q1 q2 => ?_⟩
          by_cases e : o = i
          · rw [e] at q1 q2 ⊢
            exact Int.not_lt.mp fun q3 => hn ⟨q1, q2, q3⟩
          · exact h2 o (by omega) q1 q2
        · refine Or.inr ⟨a, h1, by omega, h3, h4, h5, fun o ho q1 q2 q3 => ?_⟩
          by_cases e : o = i
          · rw [e] at q1 q2 q3
            exact absurd ⟨q1, q2, q3⟩ hn
          · exact h6 o (by omega) q1 q2 q3
      by_cases g1 : d 124 i = t
      · by_cases g2 : opn d s i
        · rw [pd_t g2] at oM
          by_cases g3 : b < d 125 i
          · rcases hz with ⟨h1, h2⟩ | ⟨a, h1, h2, h3, h4, h5, h6⟩
            · obtain ⟨z', r1, r2⟩ := ih (i + 1) g i (by omega) (by omega) (Or.inr ⟨i, rfl, by omega, g2, g1, g3, fun o ho q1 q2 q3 => by
                by_cases e : o = i
                · rw [e]; exact Int.le_refl _
                · have := h2 o (by omega) q1 q2
                  omega⟩)
              refine ⟨z', ?_, r2⟩
              simp (disch := omega) only [fX13_frontOf_4, fX13_frontOf_38, fX13_frontOf_36, qbI_s, qbL_s, qbV_s, qbR_s, qbR_n, qbN_s, qbN_n, qbIX_s, qbIX_n, qbVX_s, qbVX_n, cond_true, cond_false, cond_dec, jadd, jsub, jmul, jneg, li_0, li_1, li_2, li_3, li_4, li_5, li_6, li_7, li_8, li_9, li_10, li_14, li_15, li_16, li_19, li_20, li_24, li_30, li_31, li_32, li_39, li_40, li_48, li_57, li_59, li_60, li_63, li_65, li_80, li_81, li_90, li_97, li_99, li_100, li_122, li_126, li_127, li_150, li_160, li_200, li_225, li_255, li_400, li_799, li_800, li_999, li_2400, li_3239, li_3240, li_1048575, li_1431655765, li_858993459, li_252645135, eqb_j, ltb_j, leb_j, inb_j, ix_j, ix_n, nz_b, nz_0, nz_1, eqb_b, bnot, vI_ne, vI_eq, gIL, gLI, gIR, gRI, gLR, gRL, Int.reduceLT, Int.reduceLE, Int.reduceEq, Int.reduceAdd, Int.reduceSub, Int.reduceMul, Int.reduceNeg, Int.reduceToNat, Nat.reduceEqDiff, reduceIte, if_neg, if_pos, gI_ne, gIv 98, e32, gIv 124, e124, g1, gIv 125, e125, oM, h1, show bI true = 1 from rfl, show (-1 : Int32) = Zi (-1) from rfl]
              exact r1
            · have k9 := (hD.2.2.2.2.2.2 a h3.1).2.2.2
              have a125 := h.1 125 a (by unfold dE; omega)
              by_cases g4 : d 125 a ≤ d 125 i
              · obtain ⟨z', r1, r2⟩ := ih (i + 1) g z (by omega) (by omega) (Or.inr ⟨a, h1, by omega, h3, h4, h5, fun o ho q1 q2 q3 => by
                  by_cases e : o = i
                  · rw [e]; exact g4
                  · exact h6 o (by omega) q1 q2 q3⟩)
                refine ⟨z', ?_, r2⟩
                rw [h1] at r1 ⊢
                simp (disch := omega) only [fX13_frontOf_4, fX13_frontOf_38, fX13_frontOf_36, qbI_s, qbL_s, qbV_s, qbR_s, qbR_n, qbN_s, qbN_n, qbIX_s, qbIX_n, qbVX_s, qbVX_n, cond_true, cond_false, cond_dec, jadd, jsub, jmul, jneg, li_0, li_1, li_2, li_3, li_4, li_5, li_6, li_7, li_8, li_9, li_10, li_14, li_15, li_16, li_19, li_20, li_24, li_30, li_31, li_32, li_39, li_40, li_48, li_57, li_59, li_60, li_63, li_65, li_80, li_81, li_90, li_97, li_99, li_100, li_122, li_126, li_127, li_150, li_160, li_200, li_225, li_255, li_400, li_799, li_800, li_999, li_2400, li_3239, li_3240, li_1048575, li_1431655765, li_858993459, li_252645135, eqb_j, ltb_j, leb_j, inb_j, ix_j, ix_n, nz_b, nz_0, nz_1, eqb_b, bnot, vI_ne, vI_eq, gIL, gLI, gIR, gRI, gLR, gRL, Int.reduceLT, Int.reduceLE, Int.reduceEq, Int.reduceAdd, Int.reduceSub, Int.reduceMul, Int.reduceNeg, Int.reduceToNat, Nat.reduceEqDiff, reduceIte, if_neg, if_pos, gI_ne, gIv 98, e32, gIv 124, e124, g1, gIv 125, e125, a125, oM, show bI true = 1 from rfl, show (-1 : Int32) = Zi (-1) from rfl]
                exact r1
              · obtain ⟨z', r1, r2⟩ := ih (i + 1) g i (by omega) (by omega) (Or.inr ⟨i, rfl, by omega, g2, g1, g3, fun o ho q1 q2 q3 => by
                  by_cases e : o = i
                  · rw [e]; exact Int.le_refl _
                  · have := h6 o (by omega) q1 q2 q3
                    omega⟩)
                refine ⟨z', ?_, r2⟩
                rw [h1]
                simp (disch := omega) only [fX13_frontOf_4, fX13_frontOf_38, fX13_frontOf_36, qbI_s, qbL_s, qbV_s, qbR_s, qbR_n, qbN_s, qbN_n, qbIX_s, qbIX_n, qbVX_s, qbVX_n, cond_true, cond_false, cond_dec, jadd, jsub, jmul, jneg, li_0, li_1, li_2, li_3, li_4, li_5, li_6, li_7, li_8, li_9, li_10, li_14, li_15, li_16, li_19, li_20, li_24, li_30, li_31, li_32, li_39, li_40, li_48, li_57, li_59, li_60, li_63, li_65, li_80, li_81, li_90, li_97, li_99, li_100, li_122, li_126, li_127, li_150, li_160, li_200, li_225, li_255, li_400, li_799, li_800, li_999, li_2400, li_3239, li_3240, li_1048575, li_1431655765, li_858993459, li_252645135, eqb_j, ltb_j, leb_j, inb_j, ix_j, ix_n, nz_b, nz_0, nz_1, eqb_b, bnot, vI_ne, vI_eq, gIL, gLI, gIR, gRI, gLR, gRL, Int.reduceLT, Int.reduceLE, Int.reduceEq, Int.reduceAdd, Int.reduceSub, Int.reduceMul, Int.reduceNeg, Int.reduceToNat, Nat.reduceEqDiff, reduceIte, if_neg, if_pos, gI_ne, gIv 98, e32, gIv 124, e124, g1, gIv 125, e125, a125, oM, show bI true = 1 from rfl, show (-1 : Int32) = Zi (-1) from rfl]
                exact r1
          · obtain ⟨z', r1, r2⟩ := ih (i + 1) g z (by omega) (by omega) (keep fun z => g3 z.2.2)
            refine ⟨z', ?_, r2⟩
            simp (disch := omega) only [fX13_frontOf_4, fX13_frontOf_38, qbI_s, qbL_s, qbV_s, qbR_s, qbR_n, qbN_s, qbN_n, qbIX_s, qbIX_n, qbVX_s, qbVX_n, cond_true, cond_false, cond_dec, jadd, jsub, jmul, jneg, li_0, li_1, li_2, li_3, li_4, li_5, li_6, li_7, li_8, li_9, li_10, li_14, li_15, li_16, li_19, li_20, li_24, li_30, li_31, li_32, li_39, li_40, li_48, li_57, li_59, li_60, li_63, li_65, li_80, li_81, li_90, li_97, li_99, li_100, li_122, li_126, li_127, li_150, li_160, li_200, li_225, li_255, li_400, li_799, li_800, li_999, li_2400, li_3239, li_3240, li_1048575, li_1431655765, li_858993459, li_252645135, eqb_j, ltb_j, leb_j, inb_j, ix_j, ix_n, nz_b, nz_0, nz_1, eqb_b, bnot, vI_ne, vI_eq, gIL, gLI, gIR, gRI, gLR, gRL, Int.reduceLT, Int.reduceLE, Int.reduceEq, Int.reduceAdd, Int.reduceSub, Int.reduceMul, Int.reduceNeg, Int.reduceToNat, Nat.reduceEqDiff, reduceIte, if_neg, if_pos, gI_ne, gIv 98, e32, gIv 124, e124, g1, gIv 125, e125, oM, show bI true = 1 from rfl]
            exact r1
        · rw [pd_f g2] at oM
          obtain ⟨z', r1, r2⟩ := ih (i + 1) g z (by omega) (by omega) (keep fun z => g2 z.1)
          refine ⟨z', ?_, r2⟩
          simp (disch := omega) only [fX13_frontOf_4, fX13_frontOf_38, qbI_s, qbL_s, qbV_s, qbR_s, qbR_n, qbN_s, qbN_n, qbIX_s, qbIX_n, qbVX_s, qbVX_n, cond_true, cond_false, cond_dec, jadd, jsub, jmul, jneg, li_0, li_1, li_2, li_3, li_4, li_5, li_6, li_7, li_8, li_9, li_10, li_14, li_15, li_16, li_19, li_20, li_24, li_30, li_31, li_32, li_39, li_40, li_48, li_57, li_59, li_60, li_63, li_65, li_80, li_81, li_90, li_97, li_99, li_100, li_122, li_126, li_127, li_150, li_160, li_200, li_225, li_255, li_400, li_799, li_800, li_999, li_2400, li_3239, li_3240, li_1048575, li_1431655765, li_858993459, li_252645135, eqb_j, ltb_j, leb_j, inb_j, ix_j, ix_n, nz_b, nz_0, nz_1, eqb_b, bnot, vI_ne, vI_eq, gIL, gLI, gIR, gRI, gLR, gRL, Int.reduceLT, Int.reduceLE, Int.reduceEq, Int.reduceAdd, Int.reduceSub, Int.reduceMul, Int.reduceNeg, Int.reduceToNat, Nat.reduceEqDiff, reduceIte, if_neg, if_pos, gI_ne, gIv 98, e32, gIv 124, e124, g1, oM, show bI false = 0 from rfl]
          exact r1
      · obtain ⟨z', r1, r2⟩ := ih (i + 1) g z (by omega) (by omega) (keep fun z => g1 z.2.1)
        refine ⟨z', ?_, r2⟩
        simp (disch := omega) only [fX13_frontOf_4, fX13_frontOf_38, qbI_s, qbL_s, qbV_s, qbR_s, qbR_n, qbN_s, qbN_n, qbIX_s, qbIX_n, qbVX_s, qbVX_n, cond_true, cond_false, cond_dec, jadd, jsub, jmul, jneg, li_0, li_1, li_2, li_3, li_4, li_5, li_6, li_7, li_8, li_9, li_10, li_14, li_15, li_16, li_19, li_20, li_24, li_30, li_31, li_32, li_39, li_40, li_48, li_57, li_59, li_60, li_63, li_65, li_80, li_81, li_90, li_97, li_99, li_100, li_122, li_126, li_127, li_150, li_160, li_200, li_225, li_255, li_400, li_799, li_800, li_999, li_2400, li_3239, li_3240, li_1048575, li_1431655765, li_858993459, li_252645135, eqb_j, ltb_j, leb_j, inb_j, ix_j, ix_n, nz_b, nz_0, nz_1, eqb_b, bnot, vI_ne, vI_eq, gIL, gLI, gIR, gRI, gLR, gRL, Int.reduceLT, Int.reduceLE, Int.reduceEq, Int.reduceAdd, Int.reduceSub, Int.reduceMul, Int.reduceNeg, Int.reduceToNat, Nat.reduceEqDiff, reduceIte, if_neg, if_pos, gI_ne, gIv 98, e32, gIv 124, e124]
        exact r1
  obtain ⟨z, r1, r2⟩ := key (d 98 32).toNat 0 FU (-1) (by omega) (by rw [FU_d]; omega) (Or.inl ⟨rfl, fun o ho => by omega⟩)
  refine ⟨z, ?_, r2⟩
  rw [fX13_frontOf_d]
  simp only [fX13_frontOf_0]
  exact r1
