/-! what a move or a swap of what is laid adds -/
abbrev Cs := Int × Dt × Int × Int × Int
theorem dt_ext {d e : Dt} (h1 : ∀ c k, ¬ c = 125 → d c k = e c k) (h2 : ∀ k, d 125 k = e 125 k) : d = e := by
  funext c k
  by_cases h : c = 125
  · rw [h]; exact h2 k
  · exact h1 c k h
def delS (p : Nat → Bool) (s : Nat) : Nat → Bool := fun k => p k && !decide (k = s)
theorem del_add {p : Nat → Bool} {s : Nat} (h : p s = false) : delS (addS p s) s = p := by
  funext k
  unfold delS addS
  by_cases e : k = s
  · rw [e, h, decide_eq_true (show s = s from rfl)]
    rfl
  · rw [decide_eq_false e]
    simp
theorem add_del {p : Nat → Bool} {s : Nat} (h : p s = true) : addS (delS p s) s = p := by
  funext k
  show ((p k && !decide (k = s)) || decide (k = s)) = p k
  by_cases e : k = s
  · rw [e, h, decide_eq_true (show s = s from rfl)]
    rfl
  · rw [decide_eq_false e, Bool.not_false, Bool.and_true, Bool.or_false]
noncomputable def gnL (d : Dt) (a s s0 : Nat) : Int := ptAt d a s - ptAt d a s0 - ((gapS (addS (delS (lfB d (d 123 a).toNat) s0) s) : Int) - gapS (lfB d (d 123 a).toNat)) * 1024
theorem NC.dn {m : qM} {d d' : Dt} (h : CClash m d) (q : ∀ c k, ¬ c = 125 → d' c k = d c k) {a s : Nat} (ha : (a : Int) < d 98 32) (hs : d 125 a = s) (h2 : ∀ o, o ≠ a → d' 125 o = s → d 125 o = s) : NC d' a s := by
  intro o ho hoa hos
  rw [q _ _ (by omega)] at ho
  have h3 := h2 o hoa hos
  have := h o a ho ha hoa (by omega) (by omega)
  rw [q _ _ (by omega), q _ _ (by omega), q _ _ (by omega), q _ _ (by omega), q _ _ (by omega), q _ _ (by omega)]
  exact ⟨this.1, this.2.1, fun z => this.2.2 ⟨by omega, z.2⟩⟩
/-- an ask is taken out -/
theorem tk_worth {m : qM} {d : Dt} (hD : DOk d) (hCl : CClash m d) {a s : Nat} (ha : (a : Int) < d 98 32) (hs : d 125 a = s) : NC (upS d a (-1)) a s ∧ upS (upS d a (-1)) a s = d ∧ wD d = wD (upS d a (-1)) + gnU (upS d a (-1)) a s ∧ lfB d (d 123 a).toNat = addS (lfB (upS d a (-1)) (d 123 a).toNat) s ∧ lfB (upS d a (-1)) (d 123 a).toNat s = false := by
  have hN : NC (upS d a (-1)) a s := NC.dn hCl (fun c k hc => upS_ne d a (-1) hc) ha hs (fun o h1 h2 => by rw [upS_eq, if_neg h1] at h2; exact h2)
  have hself : upS (upS d a (-1)) a s = d := by rw [upS_up, ← hs, upS_self]
  have hD1 : DOk (upS d a (-1)) := hD.up a (-1) (by omega)
  have ha1 : (a : Int) < upS d a (-1) 98 32 := by rw [upS_ne _ _ _ (by omega)]; exact ha
  have hu1 : upS d a (-1) 125 a = -1 := by rw [upS_eq, if_pos rfl]
  have hw := gn_worth _ hD1 a s ha1 hu1 hN
  have hl := lfB_up _ hD1 a s ha1 hu1 hN (d 123 a).toNat
  have hf := (hD.2.2.2.2.2.2 a ha).1
  rw [hself] at hw hl
  rw [upS_ne _ _ _ (by omega), if_pos (by omega)] at hl
  refine ⟨hN, hself, hw, hl, pd_f fun ⟨o, o1, o2, o3⟩ => ?_⟩
  by_cases e : o = a
  · rw [e, hu1] at o3
    omega
  · have := (hN o o1 e o3).1
    rw [upS_ne _ _ _ (by omega), upS_ne _ _ _ (by omega)] at this
    rw [upS_ne _ _ _ (by omega)] at o2
    omega
theorem pt_up (d : Dt) (x : Nat) (y : Int) (a s : Nat) : ptAt (upS d x y) a s = ptAt d a s := by
  have q : ∀ c k, ¬ c = 125 → (upS d x y) c k = d c k := fun c k hc => upS_ne d x y hc
  unfold ptAt
  simp (disch := omega) only [q]
theorem mu_up (d : Dt) (x : Nat) (y : Int) (a : Nat) : muI (upS d x y) a = muI d a := by
  unfold muI
  rw [upS_ne _ _ _ (by omega)]
theorem gnL_eq {m : qM} {d : Dt} (hD : DOk d) (hCl : CClash m d) {a s0 : Nat} (ha : (a : Int) < d 98 32) (hs : d 125 a = s0) (s : Nat) : gnL d a s s0 = gnU (upS d a (-1)) a s - gnU (upS d a (-1)) a s0 := by
  obtain ⟨-, -, -, h4, h5⟩ := tk_worth hD hCl ha hs
  unfold gnL gnU
  rw [h4, del_add h5, pt_up, pt_up, mu_up, upS_ne _ _ _ (by omega)]
  omega
theorem gnL_self {d : Dt} {a s0 : Nat} (ha : (a : Int) < d 98 32) (hs : d 125 a = s0) (hf : 0 ≤ d 123 a) : gnL d a s0 s0 = 0 := by
  have : lfB d (d 123 a).toNat s0 = true := pd_t ⟨a, ha, by omega, hs⟩
  unfold gnL
  rw [add_del this]
  omega
theorem gnU_fam {d d' : Dt} (q : ∀ c k, ¬ c = 125 → d' c k = d c k) (a x : Nat) (hf : 0 ≤ d 123 a) (h : ∀ o, d 123 o = d 123 a → d' 125 o = d 125 o) : gnU d' a x = gnU d a x := by
  have hl : lfB d' (d 123 a).toNat = lfB d (d 123 a).toNat := by
    funext k
    unfold lfB laidF
    rw [Bool.eq_iff_iff, pd_iff, pd_iff]
    constructor
    · rintro ⟨o, g1, g2, g3⟩
      rw [q _ _ (by omega)] at g1 g2
      rw [h o (by omega)] at g3
      exact ⟨o, g1, g2, g3⟩
    · rintro ⟨o, g1, g2, g3⟩
      refine ⟨o, ?_, ?_, ?_⟩
      · rw [q _ _ (by omega)]; exact g1
      · rw [q _ _ (by omega)]; exact g2
      · rw [h o (by omega)]; exact g3
  unfold gnU muI ptAt
  simp (disch := omega) only [q, hl]
/-- a move's gain -/
theorem mv_worth {m : qM} {d : Dt} (hD : DOk d) (hCl : CClash m d) {a s : Nat} (ha : (a : Int) < d 98 32) (hm : mbV (upS d a (-1)) a s = true) : wD (upS d a s) = wD (upS d a (-1)) + gnU (upS d a (-1)) a s := by
  have h := gn_worth (upS d a (-1)) (hD.up a (-1) (by omega)) a s (by rw [upS_ne _ _ _ (by omega)]; exact ha) (by rw [upS_eq, if_pos rfl]) (NC.of_mb hm)
  rw [upS_up] at h
  exact h
noncomputable def sw2 (d : Dt) (a i : Nat) : Dt := upS (upS d a (-1)) i (-1)
noncomputable def swD (d : Dt) (a i : Nat) : Dt := upS (upS d a (d 125 i)) i (d 125 a)
def swB (d : Dt) (a i : Nat) : Prop := d 125 a ≠ -1 ∧ d 125 i ≠ -1 ∧ d 125 a ≠ d 125 i ∧ mbV (sw2 d a i) a (d 125 i).toNat = true ∧ mbV (upS (sw2 d a i) a (d 125 i)) i (d 125 a).toNat = true
theorem sw_worth {m : qM} {d : Dt} (hD : DOk d) (hCl : CClash m d) {a i s1 s2 : Nat} (ha : (a : Int) < d 98 32) (hi : (i : Int) < d 98 32) (hai : a ≠ i) (h1 : d 125 a = s1) (h2 : d 125 i = s2) (hB : swB d a i) : upS (upS (sw2 d a i) a s2) i s1 = swD d a i ∧ (d 123 a ≠ d 123 i → wD (swD d a i) = wD d + (gnL d a s2 s1 + gnL d i s1 s2)) ∧ (d 123 a = d 123 i → wD (swD d a i) = wD d) := by
  obtain ⟨-, -, -, b1, b2⟩ := hB
  rw [h2, Int.toNat_natCast] at b1
  rw [h2, h1, Int.toNat_natCast] at b2
  have e4 : upS (upS (sw2 d a i) a s2) i s1 = swD d a i := by
    unfold swD sw2
    rw [h1, h2]
    refine dt_ext (fun c k hc => by simp only [upS_ne _ _ _ hc]) fun k => ?_
    simp only [upS_eq]
    by_cases ki : k = i
    · simp only [if_pos ki]
    · simp only [if_neg ki]
      by_cases ka : k = a
      · simp only [if_pos ka]
      · simp only [if_neg ka]
  have q2 : ∀ c k, ¬ c = 125 → sw2 d a i c k = d c k := fun c k hc => by unfold sw2; rw [upS_ne _ _ _ hc, upS_ne _ _ _ hc]
  have D1 : DOk (upS d a (-1)) := hD.up a (-1) (by omega)
  have D1i : DOk (upS d i (-1)) := hD.up i (-1) (by omega)
  have D2 : DOk (sw2 d a i) := D1.up i (-1) (by omega)
  have fa := (hD.2.2.2.2.2.2 a ha).1
  have fi := (hD.2.2.2.2.2.2 i hi).1
  have s1r := (hD.2.2.2.2.2.2 a ha).2.2.2
  have s2r := (hD.2.2.2.2.2.2 i hi).2.2.2
  have C1 : CClash m (upS d a (-1)) := hCl.dn a
  obtain ⟨t1, t2, t3, t4, t5⟩ := tk_worth hD hCl ha h1
  obtain ⟨u1, u2, u3, u4, u5⟩ := tk_worth (a := i) (s := s2) D1 C1 (by rw [upS_ne _ _ _ (by omega)]; exact hi) (by rw [upS_eq, if_neg (by omega)]; exact h2)
  have hu2a : sw2 d a i 125 a = -1 := by unfold sw2; rw [upS_eq, if_neg hai, upS_eq, if_pos rfl]
  have hu2i : sw2 d a i 125 i = -1 := by unfold sw2; rw [upS_eq, if_pos rfl]
  have w3 := gn_worth (sw2 d a i) D2 a s2 (by rw [q2 _ _ (by omega)]; exact ha) hu2a (NC.of_mb b1)
  have D3 : DOk (upS (sw2 d a i) a s2) := D2.up a s2 (by omega)
  have hu3i : upS (sw2 d a i) a s2 125 i = -1 := by rw [upS_eq, if_neg (by omega)]; exact hu2i
  have w4 := gn_worth (upS (sw2 d a i) a s2) D3 i s1 (by rw [upS_ne _ _ _ (by omega), q2 _ _ (by omega)]; exact hi) hu3i (NC.of_mb b2)
  rw [e4] at w4
  have u3' : wD (upS d a (-1)) = wD (sw2 d a i) + gnU (sw2 d a i) i s2 := u3
  refine ⟨e4, fun hf => ?_, fun hf => ?_⟩
  · have g1 := gnL_eq hD hCl ha h1 s2
    have g2 := gnL_eq hD hCl hi h2 s1
    have x1 : ∀ x, gnU (sw2 d a i) a x = gnU (upS d a (-1)) a x := fun x => gnU_fam (fun c k hc => by unfold sw2; rw [upS_ne _ _ _ hc]) a x (by rw [upS_ne _ _ _ (by omega)]; omega) (fun o ho => by
      rw [upS_ne _ _ _ (by omega), upS_ne _ _ _ (by omega)] at ho
      unfold sw2
      rw [upS_eq, if_neg (fun z => hf (by rw [← ho, z]))])
    have x2 : ∀ x, gnU (sw2 d a i) i x = gnU (upS d i (-1)) i x := fun x => gnU_fam (fun c k hc => by unfold sw2; rw [upS_ne _ _ _ hc, upS_ne _ _ _ hc, upS_ne _ _ _ hc]) i x (by rw [upS_ne _ _ _ (by omega)]; omega) (fun o ho => by
      rw [upS_ne _ _ _ (by omega), upS_ne _ _ _ (by omega)] at ho
      have hoa : o ≠ a := fun z => hf (by rw [← ho, z])
      unfold sw2
      rw [upS_eq, upS_eq, if_neg hoa, upS_eq])
    have x3 : gnU (upS (sw2 d a i) a s2) i s1 = gnU (sw2 d a i) i s1 := gnU_fam (fun c k hc => by rw [upS_ne _ _ _ hc]) i s1 (by rw [q2 _ _ (by omega)]; omega) (fun o ho => by
      rw [q2 _ _ (by omega), q2 _ _ (by omega)] at ho
      rw [upS_eq, if_neg (fun z => hf (by rw [← ho, z]))])
    rw [x3, x2] at w4
    rw [x1] at w3
    rw [x2] at u3'
    omega
  · have y4 : lfB (upS d a (-1)) (d 123 a).toNat = addS (lfB (sw2 d a i) (d 123 a).toNat) s2 := by
      have := u4
      rw [upS_ne _ _ _ (by omega), ← hf] at this
      exact this
    have y3 := lfB_up (sw2 d a i) D2 a s2 (by rw [q2 _ _ (by omega)]; exact ha) hu2a (NC.of_mb b1) (d 123 a).toNat
    rw [q2 123 a (by omega), if_pos (by omega)] at y3
    have p1 : ∀ x, ptAt d i x = ptAt d a x := fun x => by unfold ptAt; rw [hf]
    have z1 : gnU (upS d a (-1)) a s1 = muI d a * 67108864 + 1048576 + ptAt d a s1 - ((gapS (addS (addS (lfB (sw2 d a i) (d 123 a).toNat) s2) s1) : Int) - gapS (addS (lfB (sw2 d a i) (d 123 a).toNat) s2)) * 1024 := by
      unfold gnU
      rw [mu_up, pt_up, upS_ne _ _ _ (by omega), y4]
    have z2 : gnU (sw2 d a i) i s2 = muI d i * 67108864 + 1048576 + ptAt d a s2 - ((gapS (addS (lfB (sw2 d a i) (d 123 a).toNat) s2) : Int) - gapS (lfB (sw2 d a i) (d 123 a).toNat)) * 1024 := by
      unfold gnU
      rw [show muI (sw2 d a i) i = muI d i by unfold sw2; rw [mu_up, mu_up], show ptAt (sw2 d a i) i s2 = ptAt d a s2 by unfold sw2; rw [pt_up, pt_up, p1], q2 123 i (by omega), ← hf]
    have z3 : gnU (sw2 d a i) a s2 = muI d a * 67108864 + 1048576 + ptAt d a s2 - ((gapS (addS (lfB (sw2 d a i) (d 123 a).toNat) s2) : Int) - gapS (lfB (sw2 d a i) (d 123 a).toNat)) * 1024 := by
      unfold gnU
      rw [show muI (sw2 d a i) a = muI d a by unfold sw2; rw [mu_up, mu_up], show ptAt (sw2 d a i) a s2 = ptAt d a s2 by unfold sw2; rw [pt_up, pt_up], q2 123 a (by omega)]
    have z4 : gnU (upS (sw2 d a i) a s2) i s1 = muI d i * 67108864 + 1048576 + ptAt d a s1 - ((gapS (addS (addS (lfB (sw2 d a i) (d 123 a).toNat) s2) s1) : Int) - gapS (addS (lfB (sw2 d a i) (d 123 a).toNat) s2)) * 1024 := by
      unfold gnU
      rw [show muI (upS (sw2 d a i) a s2) i = muI d i by unfold sw2; rw [mu_up, mu_up, mu_up], show ptAt (upS (sw2 d a i) a s2) i s1 = ptAt d a s1 by unfold sw2; rw [pt_up, pt_up, pt_up, p1], upS_ne _ _ _ (by omega), q2 123 i (by omega), ← hf, y3]
    omega
theorem gainL_s (m : qM) (d : Dt) (hC : CAll m d) (a s s0 : Nat) (ha : (a : Int) < d 98 32) (hu : d 125 a = s0) (hs : s < 20) : fX4_gain (Zi a) (Zi s) m = some (Zl (gnL d a s s0), m) := by
  have hD := DOk.of hC
  have hlf := fun f hf => bt_lf hC f hf
  obtain ⟨hRu, hPt, hPf, hAp, hWk, hAs, hPa, hCl, hDi, hBi, hCn⟩ := hC
  obtain ⟨e1, e2, e3, e4⟩ := hAs
  obtain ⟨k1, k2, k3, k4⟩ := e4 a ha
  obtain ⟨f, hf⟩ : ∃ f : Nat, d 123 a = f := ⟨(d 123 a).toNat, by omega⟩
  have pF := hPf f (by omega)
  have h59 : vI m 59 a = f := by rw [k1.1, hf]
  have pt := pt_s m d a s f (by omega) (by omega) (by omega) hf h59 (pF.2.2.2.2.1 s (by omega)) pF.2.2.2.2.2.1
  have pt0 := pt_s m d a s0 f (by omega) (by omega) (by omega) hf h59 (pF.2.2.2.2.1 s0 (by omega)) pF.2.2.2.2.2.1
  have ptr := ptAt_r d hD a s ha
  have ptr0 := ptAt_r d hD a s0 ha
  have g1 := gapsW m (x := gI m 65 f) (p := lfB d f) (fun k _ => by rw [hlf f (by omega)]) (fun k hk => lfB_20 hD f k hk)
  have g2 := gapsW m (x := (gI m 65 f &&& ((Zi 1 <<< (Zi s0 &&& Zi 31)) ^^^ Zi (-1))) ||| (Zi 1 <<< (Zi s &&& Zi 31))) (p := addS (delS (lfB d f) s0) s) (fun k hk => by
    rw [b_or, b_and, show Zi (-1) = (-1 : Int32) from rfl, b_not _ hk, hlf f (by omega), show (Zi 1 <<< (Zi s &&& Zi 31)) = ((1 : Int32) <<< (nI s &&& 31)) from by rw [Zn]; rfl, show (Zi 1 <<< (Zi s0 &&& Zi 31)) = ((1 : Int32) <<< (nI s0 &&& 31)) from by rw [Zn]; rfl, b_one (by omega) hk, b_one (by omega) hk]
    rfl) (fun k hk => by
    unfold addS delS
    rw [lfB_20 hD f k hk, Bool.false_and, Bool.false_or]
    exact decide_eq_false (by omega))
  have q1 := gapS_le (lfB d f)
  have q2 := gapS_le (addS (delS (lfB d f) s0) s)
  rw [fX4_gain_d]
  simp (disch := omega) only [fX4_gain_0, fX4_gain_38, fX4_gain_62, qbI_s, qbL_s, qbV_s, qbR_s, qbR_n, qbN_s, qbN_n, qbIX_s, qbIX_n, qbVX_s, qbVX_n, cond_true, cond_false, cond_dec, jadd, jsub, jmul, jneg, li_0, li_1, li_2, li_3, li_4, li_5, li_6, li_7, li_8, li_9, li_10, li_14, li_15, li_16, li_19, li_20, li_24, li_30, li_31, li_32, li_39, li_40, li_48, li_57, li_59, li_60, li_63, li_65, li_80, li_81, li_90, li_97, li_99, li_100, li_122, li_126, li_127, li_150, li_160, li_200, li_225, li_255, li_400, li_799, li_800, li_999, li_2400, li_3239, li_3240, li_1048575, li_1431655765, li_858993459, li_252645135, eqb_j, ltb_j, leb_j, inb_j, ix_j, ix_n, nz_b, nz_0, nz_1, eqb_b, bnot, vI_ne, vI_eq, gIL, gLI, gIR, gRI, gLR, gRL, Int.reduceLT, Int.reduceLE, Int.reduceEq, Int.reduceAdd, Int.reduceSub, Int.reduceMul, Int.reduceNeg, Int.reduceToNat, Nat.reduceEqDiff, reduceIte, if_neg, if_pos, gI_ne, ll_0, ll_1, ll_3, ll_5, ll_9, ll_10, ll_13, ll_14, ll_19, ll_20, ll_32, ll_60, ll_126, ll_799, ll_1024, ll_1048576, ll_67108864, Zladd, Zlsub, Zlmul, Zlneg, toL, lg_lt, lg_gt, lg_le, gIv 59, gIv 61, gIv 62, h59, k4.1, hu, pt, pt0, show (-1 : Int32) = Zi (-1) from rfl]
  simp (disch := omega) only [qbI_s, qbL_s, qbV_s, qbR_s, qbR_n, qbN_s, qbN_n, qbIX_s, qbIX_n, qbVX_s, qbVX_n, cond_true, cond_false, cond_dec, jadd, jsub, jmul, jneg, li_0, li_1, li_2, li_3, li_4, li_5, li_6, li_7, li_8, li_9, li_10, li_14, li_15, li_16, li_19, li_20, li_24, li_30, li_31, li_32, li_39, li_40, li_48, li_57, li_59, li_60, li_63, li_65, li_80, li_81, li_90, li_97, li_99, li_100, li_122, li_126, li_127, li_150, li_160, li_200, li_225, li_255, li_400, li_799, li_800, li_999, li_2400, li_3239, li_3240, li_1048575, li_1431655765, li_858993459, li_252645135, eqb_j, ltb_j, leb_j, inb_j, ix_j, ix_n, nz_b, nz_0, nz_1, eqb_b, bnot, vI_ne, vI_eq, gIL, gLI, gIR, gRI, gLR, gRL, Int.reduceLT, Int.reduceLE, Int.reduceEq, Int.reduceAdd, Int.reduceSub, Int.reduceMul, Int.reduceNeg, Int.reduceToNat, Nat.reduceEqDiff, reduceIte, if_neg, if_pos, gI_ne, ll_0, ll_1, ll_3, ll_5, ll_9, ll_10, ll_13, ll_14, ll_19, ll_20, ll_32, ll_60, ll_126, ll_799, ll_1024, ll_1048576, ll_67108864, Zladd, Zlsub, Zlmul, Zlneg, toL, lg_lt, lg_gt, lg_le, g1, g2]
  refine congrArg (fun z => some (Zl z, m)) ?_
  unfold gnL
  rw [hf, Int.toNat_natCast]
theorem gnL_r (d : Dt) (hD : DOk d) (a s s0 : Nat) (ha : (a : Int) < d 98 32) : -40000 ≤ gnL d a s s0 ∧ gnL d a s s0 ≤ 40000 := by
  have h1 := ptAt_r d hD a s ha
  have h2 := ptAt_r d hD a s0 ha
  have h4 := gapS_le (lfB d (d 123 a).toNat)
  have h5 := gapS_le (addS (delS (lfB d (d 123 a).toNat) s0) s)
  unfold gnL
  omega
