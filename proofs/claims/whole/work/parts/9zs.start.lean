/-! the law from its entry to its loop: both constructors, and what they leave -/
theorem law0_s {nA : Nat} {fA : Nat → Int32} (hn : nA ≤ 3072) (m0 : qM) (z1 : ∀ c k, gI m0 c k = 0) (z2 : ∀ c k, gR m0 c k = none) : ∃ r, fLaw0 nA fA m0 = some r := by
  have a0 : AG (qz m0 0) iV0 := fun c k => by
    rw [gI_qz]
    split
    · rfl
    · exact z1 c k
  have l0 : RLk (qz m0 0) (lzer (fun _ _ => none) 0) := rk_qz (fun c k _ _ => z2 c k)
  obtain ⟨u1, m1, e1, a1, g7, g80, g81, g82, g83⟩ := cX11_init_s (qz m0 0) a0
  have l1 := pX11_init l0 e1
  have hz : ∀ c k, 98 ≤ c → c ≤ 154 → iV6 c k = 0 := fun c k h1 h2 => by
    simp (disch := omega) only [iV6, iV5, iV4, iV3, iV1, iV2_ne, iV2_eq, iV0_0, upR_ne, upR_eq, up1_ne, up1_eq]
  have a1' : AG (qz m1 98) iV6 := ag_qz a1 (fun k => hz 98 k (by omega) (by omega))
  obtain ⟨u2, m2, e2, a2, k2⟩ := cX13_init_s (qz m1 98) iV6 a1' hz
  have l2 : RLk m2 FAll := pX13_init (rk_qz l1) e2
  have kk : ∀ c k, c < 98 → gR m2 c k = gR m1 c k := fun c k hc => by rw [k2 c k hc, gR_qz, if_neg (by omega)]
  have hR : RAll m2 := start_R m2 a2 (by rw [kk _ _ (by omega)]; exact g7) (by rw [kk _ _ (by omega)]; exact g80) (by rw [kk _ _ (by omega)]; exact g81) (by rw [kk _ _ (by omega)]; exact g82) (by rw [kk _ _ (by omega)]; exact g83)
  have hfin : finOk m2 := fun c k q hc hk hq => by
    rcases qfin_D c hc k hk with h | ⟨p, hp, p1, p2, p3⟩
    · rw [h] at hq
      cases hq
    · obtain ⟨⟨b1, b2⟩, b3⟩ := lkD_all p hp
      rw [p3] at hq
      cases hq
      rw [p1] at b1 b2 b3
      rw [p2] at b3
      rw [l2 c k b1 b2]
      exact b3
  obtain ⟨r, hr⟩ := law_go (fA := fA) hn FU 0 m2 hR (by rw [FU_d]; omega) (by rw [FU_d]; omega) (by omega)
  refine ⟨r, ?_⟩
  unfold fLaw0
  rw [e1]
  show qbV (fX13_init (qz m1 98)) _ = some r
  rw [e2]
  show (bif pd (finOk m2) then fL_law_10 nA fA FU (0 : Int32) m2 else none) = some r
  rw [pd_t hfin, cond_true, show (0 : Int32) = Zi ((0 : Nat) : Int) from rfl]
  exact hr
theorem qss_155 : qss 155 - qss 0 ≤ 7293034 := by decide +kernel
