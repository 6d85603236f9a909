/-! methods (by program): X10_addHabit, X11_feed, X11_end, X11_hasSettledPlace, X11_rules, X11_rule, X11_policy, X11_isTeacher, X11_follow, X11_fault, X11_room, X11_isSpan, X11_teacher, X11_isFamily, X11_family, X11_wish, X11_apart, X11_walk, X11_ask -/
theorem dX10_addHabit_0 : decode cX10_addHabit 0 = .ok (.iload_n 1, 1) := by decide +kernel
theorem dX10_addHabit_1 : decode cX10_addHabit 1 = .ok (.bipush 20, 2) := by decide +kernel
theorem dX10_addHabit_3 : decode cX10_addHabit 3 = .ok (.imul, 1) := by decide +kernel
theorem dX10_addHabit_4 : decode cX10_addHabit 4 = .ok (.istore_n 3, 1) := by decide +kernel
theorem dX10_addHabit_5 : decode cX10_addHabit 5 = .ok (.aload_n 0, 1) := by decide +kernel
theorem dX10_addHabit_6 : decode cX10_addHabit 6 = .ok (.getfield 29, 3) := by decide +kernel
theorem dX10_addHabit_9 : decode cX10_addHabit 9 = .ok (.iload_n 1, 1) := by decide +kernel
theorem dX10_addHabit_10 : decode cX10_addHabit 10 = .ok (.iaload, 1) := by decide +kernel
theorem dX10_addHabit_11 : decode cX10_addHabit 11 = .ok (.istore 4, 2) := by decide +kernel
theorem dX10_addHabit_13 : decode cX10_addHabit 13 = .ok (.iload 4, 2) := by decide +kernel
theorem dX10_addHabit_15 : decode cX10_addHabit 15 = .ok (.bipush 20, 2) := by decide +kernel
theorem dX10_addHabit_17 : decode cX10_addHabit 17 = .ok (.if_icmp .lt 6, 3) := by decide +kernel
theorem dX10_addHabit_20 : decode cX10_addHabit 20 = .ok (.bipush (-3), 2) := by decide +kernel
theorem dX10_addHabit_22 : decode cX10_addHabit 22 = .ok (.ireturn, 1) := by decide +kernel
theorem dX10_addHabit_23 : decode cX10_addHabit 23 = .ok (.iload 4, 2) := by decide +kernel
theorem dX10_addHabit_25 : decode cX10_addHabit 25 = .ok (.ifCond .le 44, 3) := by decide +kernel
theorem dX10_addHabit_28 : decode cX10_addHabit 28 = .ok (.aload_n 0, 1) := by decide +kernel
theorem dX10_addHabit_29 : decode cX10_addHabit 29 = .ok (.getfield 26, 3) := by decide +kernel
theorem dX10_addHabit_32 : decode cX10_addHabit 32 = .ok (.iload_n 3, 1) := by decide +kernel
theorem dX10_addHabit_33 : decode cX10_addHabit 33 = .ok (.iload 4, 2) := by decide +kernel
theorem dX10_addHabit_35 : decode cX10_addHabit 35 = .ok (.iadd, 1) := by decide +kernel
theorem dX10_addHabit_36 : decode cX10_addHabit 36 = .ok (.iconst 1, 1) := by decide +kernel
theorem dX10_addHabit_37 : decode cX10_addHabit 37 = .ok (.isub, 1) := by decide +kernel
theorem dX10_addHabit_38 : decode cX10_addHabit 38 = .ok (.iaload, 1) := by decide +kernel
theorem dX10_addHabit_39 : decode cX10_addHabit 39 = .ok (.iload_n 2, 1) := by decide +kernel
theorem dX10_addHabit_40 : decode cX10_addHabit 40 = .ok (.if_icmp .le 29, 3) := by decide +kernel
theorem dX10_addHabit_43 : decode cX10_addHabit 43 = .ok (.aload_n 0, 1) := by decide +kernel
theorem dX10_addHabit_44 : decode cX10_addHabit 44 = .ok (.getfield 26, 3) := by decide +kernel
theorem dX10_addHabit_47 : decode cX10_addHabit 47 = .ok (.iload_n 3, 1) := by decide +kernel
theorem dX10_addHabit_48 : decode cX10_addHabit 48 = .ok (.iload 4, 2) := by decide +kernel
theorem dX10_addHabit_50 : decode cX10_addHabit 50 = .ok (.iadd, 1) := by decide +kernel
theorem dX10_addHabit_51 : decode cX10_addHabit 51 = .ok (.aload_n 0, 1) := by decide +kernel
theorem dX10_addHabit_52 : decode cX10_addHabit 52 = .ok (.getfield 26, 3) := by decide +kernel
theorem dX10_addHabit_55 : decode cX10_addHabit 55 = .ok (.iload_n 3, 1) := by decide +kernel
theorem dX10_addHabit_56 : decode cX10_addHabit 56 = .ok (.iload 4, 2) := by decide +kernel
theorem dX10_addHabit_58 : decode cX10_addHabit 58 = .ok (.iadd, 1) := by decide +kernel
theorem dX10_addHabit_59 : decode cX10_addHabit 59 = .ok (.iconst 1, 1) := by decide +kernel
theorem dX10_addHabit_60 : decode cX10_addHabit 60 = .ok (.isub, 1) := by decide +kernel
theorem dX10_addHabit_61 : decode cX10_addHabit 61 = .ok (.iaload, 1) := by decide +kernel
theorem dX10_addHabit_62 : decode cX10_addHabit 62 = .ok (.iastore, 1) := by decide +kernel
theorem dX10_addHabit_63 : decode cX10_addHabit 63 = .ok (.iinc 4 (-1), 3) := by decide +kernel
theorem dX10_addHabit_66 : decode cX10_addHabit 66 = .ok (.goto (-43), 3) := by decide +kernel
theorem dX10_addHabit_69 : decode cX10_addHabit 69 = .ok (.aload_n 0, 1) := by decide +kernel
theorem dX10_addHabit_70 : decode cX10_addHabit 70 = .ok (.getfield 26, 3) := by decide +kernel
theorem dX10_addHabit_73 : decode cX10_addHabit 73 = .ok (.iload_n 3, 1) := by decide +kernel
theorem dX10_addHabit_74 : decode cX10_addHabit 74 = .ok (.iload 4, 2) := by decide +kernel
theorem dX10_addHabit_76 : decode cX10_addHabit 76 = .ok (.iadd, 1) := by decide +kernel
theorem dX10_addHabit_77 : decode cX10_addHabit 77 = .ok (.iload_n 2, 1) := by decide +kernel
theorem dX10_addHabit_78 : decode cX10_addHabit 78 = .ok (.iastore, 1) := by decide +kernel
theorem dX10_addHabit_79 : decode cX10_addHabit 79 = .ok (.aload_n 0, 1) := by decide +kernel
theorem dX10_addHabit_80 : decode cX10_addHabit 80 = .ok (.getfield 29, 3) := by decide +kernel
theorem dX10_addHabit_83 : decode cX10_addHabit 83 = .ok (.iload_n 1, 1) := by decide +kernel
theorem dX10_addHabit_84 : decode cX10_addHabit 84 = .ok (.dup2, 1) := by decide +kernel
theorem dX10_addHabit_85 : decode cX10_addHabit 85 = .ok (.iaload, 1) := by decide +kernel
theorem dX10_addHabit_86 : decode cX10_addHabit 86 = .ok (.iconst 1, 1) := by decide +kernel
theorem dX10_addHabit_87 : decode cX10_addHabit 87 = .ok (.iadd, 1) := by decide +kernel
theorem dX10_addHabit_88 : decode cX10_addHabit 88 = .ok (.iastore, 1) := by decide +kernel
theorem dX10_addHabit_89 : decode cX10_addHabit 89 = .ok (.aload_n 0, 1) := by decide +kernel
theorem dX10_addHabit_90 : decode cX10_addHabit 90 = .ok (.getfield 29, 3) := by decide +kernel
theorem dX10_addHabit_93 : decode cX10_addHabit 93 = .ok (.iload_n 1, 1) := by decide +kernel
theorem dX10_addHabit_94 : decode cX10_addHabit 94 = .ok (.iaload, 1) := by decide +kernel
theorem dX10_addHabit_95 : decode cX10_addHabit 95 = .ok (.ireturn, 1) := by decide +kernel
noncomputable def tX10_addHabit_14 (j42 : qT (Int32 × qM)) (j14 : qT (Int32 × qM)) : qT (Int32 × qM) :=
  oLi 4 (oLe (j42) (oLa 0 (oGf 7 3 17 (oLi 3 (oLi 4 (o2 (· + ·) (oC (.int (1 : Int32)) (o2 (· - ·) (oAi 17 200 (oLi 2 (oCLe (j42) (oLa 0 (oGf 7 3 17 (oLi 3 (oLi 4 (o2 (· + ·) (oLa 0 (oGf 7 3 17 (oLi 3 (oLi 4 (o2 (· + ·) (oC (.int (1 : Int32)) (o2 (· - ·) (oAi 17 200 (oWi 17 200 (oInc 4 (-1 : Int32) (j14)))))))))))))))))))))))))))
noncomputable def wX10_addHabit_14 (k : Int32 → Int32 → Int32 → Int32 → qM → Option (Int32 × qM)) : qT (Int32 × qM) := fun lo st m => match lo, st with
  | [some (.ref 7), some (.int a1), some (.int a2), some (.int a3), some (.int a4)], [] => k a1 a2 a3 a4 m
  | _, _ => none
noncomputable def wX10_addHabit_42 (k : Int32 → Int32 → Int32 → Int32 → qM → Option (Int32 × qM)) : qT (Int32 × qM) := fun lo st m => match lo, st with
  | [some (.ref 7), some (.int a1), some (.int a2), some (.int a3), some (.int a4)], [] => k a1 a2 a3 a4 m
  | _, _ => none
set_option maxRecDepth 20000 in
theorem sX10_addHabit_14 {C : qCx} {w : qWp} (h : qOk C w RX10 cX10_addHabit 5 0 155 155) (hm : qMt C (some .int)) (hx : qNx C) {j42 : qT (Int32 × qM)} {j14 : qT (Int32 × qM)} (k42 : qSnd C w 5 155 (qQf C w 155 155 jI) qfin 155 69 j42) (k14 : qSnd C w 5 155 (qQf C w 155 155 jI) qfin 155 23 j14) : qSnd C w 5 155 (qQf C w 155 155 jI) qfin 155 23 (tX10_addHabit_14 j42 j14) :=
  cLI (pc := 23) h dX10_addHabit_23 (jLe (pc := 25) h dX10_addHabit_25 rfl (k42) (cLa (pc := 28) h dX10_addHabit_28 rfl (gGf (pc := 29) h dX10_addHabit_29 ff_X10_26_7 (Nat.le_of_ble_eq_true rfl) (Nat.le_of_ble_eq_true rfl) rfl (cLi (pc := 32) h dX10_addHabit_32 rfl (cLI (pc := 33) h dX10_addHabit_33 (aAdd (pc := 35) h dX10_addHabit_35 (cC (pc := 36) h dX10_addHabit_36 rfl (aSub (pc := 37) h dX10_addHabit_37 (rAi (pc := 38) h dX10_addHabit_38 rfl (Nat.le_of_ble_eq_true rfl) (Nat.le_of_ble_eq_true rfl) (cLi (pc := 39) h dX10_addHabit_39 rfl (jCLe (pc := 40) h dX10_addHabit_40 rfl (k42) (cLa (pc := 43) h dX10_addHabit_43 rfl (gGf (pc := 44) h dX10_addHabit_44 ff_X10_26_7 (Nat.le_of_ble_eq_true rfl) (Nat.le_of_ble_eq_true rfl) rfl (cLi (pc := 47) h dX10_addHabit_47 rfl (cLI (pc := 48) h dX10_addHabit_48 (aAdd (pc := 50) h dX10_addHabit_50 (cLa (pc := 51) h dX10_addHabit_51 rfl (gGf (pc := 52) h dX10_addHabit_52 ff_X10_26_7 (Nat.le_of_ble_eq_true rfl) (Nat.le_of_ble_eq_true rfl) rfl (cLi (pc := 55) h dX10_addHabit_55 rfl (cLI (pc := 56) h dX10_addHabit_56 (aAdd (pc := 58) h dX10_addHabit_58 (cC (pc := 59) h dX10_addHabit_59 rfl (aSub (pc := 60) h dX10_addHabit_60 (rAi (pc := 61) h dX10_addHabit_61 rfl (Nat.le_of_ble_eq_true rfl) (Nat.le_of_ble_eq_true rfl) (rWi (pc := 62) h dX10_addHabit_62 rfl (Nat.le_of_ble_eq_true rfl) (Nat.le_of_ble_eq_true rfl) (cInc (pc := 63) h dX10_addHabit_63 rfl (jGo (pc := 66) h dX10_addHabit_66 rfl (k14))))))))))))))))))))))))))))
set_option maxRecDepth 20000 in
theorem lX10_addHabit_14 (k42 : Int32 → Int32 → Int32 → Int32 → qM → Option (Int32 × qM)) (n : Nat) (a1 : Int32) (a2 : Int32) (a3 : Int32) (a4 : Int32) (m : qM) : tX10_addHabit_14 (wX10_addHabit_42 k42) (wX10_addHabit_14 ((fX10_addHabit_14 k42 n))) [some (.ref 7), some (.int a1), some (.int a2), some (.int a3), some (.int a4)] [] m = fX10_addHabit_14 k42 (n + 1) a1 a2 a3 a4 m := rfl
theorem bX10_addHabit_14 {C : qCx} {w : qWp} (h : qOk C w RX10 cX10_addHabit 5 0 155 155) (hm : qMt C (some .int)) (hx : qNx C) {k42 : Int32 → Int32 → Int32 → Int32 → qM → Option (Int32 × qM)} (h42 : qSnd C w 5 155 (qQf C w 155 155 jI) qfin 155 69 (wX10_addHabit_42 k42)) : ∀ n : Nat, qSnd C w 5 155 (qQf C w 155 155 jI) qfin 155 23 (wX10_addHabit_14 (fX10_addHabit_14 k42 n))
  | 0 => qSnd_of0 (fun lo st m x hr0 => by
    unfold wX10_addHabit_14 at hr0
    split at hr0
    · cases hr0
    · cases hr0)
  | n + 1 => by
    have ih := bX10_addHabit_14 h hm hx h42 n
    exact qSnd_of (fun lo st m x hr0 => by
    unfold wX10_addHabit_14 at hr0
    split at hr0
    · exact ⟨_, (qsub_e (qsub_e (qsub_e (qsub_e (qsub_e qsub_nil))))), (lX10_addHabit_14 _ n _ _ _ _ _).trans hr0⟩
    · cases hr0) (sX10_addHabit_14 h hm hx h42 ih)
noncomputable def tX10_addHabit_42 : qT (Int32 × qM) :=
  oLa 0 (oGf 7 3 17 (oLi 3 (oLi 4 (o2 (· + ·) (oLi 2 (oWi 17 200 (oLa 0 (oGf 7 4 18 (oLi 1 (oDup2 (oAi 18 10 (oC (.int (1 : Int32)) (o2 (· + ·) (oWi 18 10 (oLa 0 (oGf 7 4 18 (oLi 1 (oAi 18 10 (eI)))))))))))))))))))
set_option maxRecDepth 20000 in
theorem sX10_addHabit_42 {C : qCx} {w : qWp} (h : qOk C w RX10 cX10_addHabit 5 0 155 155) (hm : qMt C (some .int)) (hx : qNx C) : qSnd C w 5 155 (qQf C w 155 155 jI) qfin 155 69 (tX10_addHabit_42) :=
  cLa (pc := 69) h dX10_addHabit_69 rfl (gGf (pc := 70) h dX10_addHabit_70 ff_X10_26_7 (Nat.le_of_ble_eq_true rfl) (Nat.le_of_ble_eq_true rfl) rfl (cLi (pc := 73) h dX10_addHabit_73 rfl (cLI (pc := 74) h dX10_addHabit_74 (aAdd (pc := 76) h dX10_addHabit_76 (cLi (pc := 77) h dX10_addHabit_77 rfl (rWi (pc := 78) h dX10_addHabit_78 rfl (Nat.le_of_ble_eq_true rfl) (Nat.le_of_ble_eq_true rfl) (cLa (pc := 79) h dX10_addHabit_79 rfl (gGf (pc := 80) h dX10_addHabit_80 ff_X10_29_7 (Nat.le_of_ble_eq_true rfl) (Nat.le_of_ble_eq_true rfl) rfl (cLi (pc := 83) h dX10_addHabit_83 rfl (aDup2 (pc := 84) h dX10_addHabit_84 (rAi (pc := 85) h dX10_addHabit_85 rfl (Nat.le_of_ble_eq_true rfl) (Nat.le_of_ble_eq_true rfl) (cC (pc := 86) h dX10_addHabit_86 rfl (aAdd (pc := 87) h dX10_addHabit_87 (rWi (pc := 88) h dX10_addHabit_88 rfl (Nat.le_of_ble_eq_true rfl) (Nat.le_of_ble_eq_true rfl) (cLa (pc := 89) h dX10_addHabit_89 rfl (gGf (pc := 90) h dX10_addHabit_90 ff_X10_29_7 (Nat.le_of_ble_eq_true rfl) (Nat.le_of_ble_eq_true rfl) rfl (cLi (pc := 93) h dX10_addHabit_93 rfl (rAi (pc := 94) h dX10_addHabit_94 rfl (Nat.le_of_ble_eq_true rfl) (Nat.le_of_ble_eq_true rfl) (zI (pc := 95) h hm (Nat.le_refl _) dX10_addHabit_95)))))))))))))))))))
set_option maxRecDepth 20000 in
theorem lX10_addHabit_42 (a1 : Int32) (a2 : Int32) (a3 : Int32) (a4 : Int32) (m : qM) : tX10_addHabit_42 [some (.ref 7), some (.int a1), some (.int a2), some (.int a3), some (.int a4)] [] m = fX10_addHabit_42 a1 a2 a3 a4 m := rfl
theorem bX10_addHabit_42 {C : qCx} {w : qWp} (h : qOk C w RX10 cX10_addHabit 5 0 155 155) (hm : qMt C (some .int)) (hx : qNx C) : qSnd C w 5 155 (qQf C w 155 155 jI) qfin 155 69 (wX10_addHabit_42 fX10_addHabit_42) :=
  qSnd_of (fun lo st m x hr0 => by
    unfold wX10_addHabit_42 at hr0
    split at hr0
    · exact ⟨_, (qsub_e (qsub_e (qsub_e (qsub_e (qsub_e qsub_nil))))), (lX10_addHabit_42 _ _ _ _ _).trans hr0⟩
    · cases hr0) (sX10_addHabit_42 h hm hx)
noncomputable def tX10_addHabit_0 (j14 : qT (Int32 × qM)) : qT (Int32 × qM) :=
  oLi 1 (oC (.int (20 : Int32)) (o2 (· * ·) (oSi 3 (oLa 0 (oGf 7 4 18 (oLi 1 (oAi 18 10 (oSi 4 (oLi 4 (oC (.int (20 : Int32)) (oCLt (j14) (oC (.int (-3 : Int32)) (eI)))))))))))))
set_option maxRecDepth 20000 in
theorem sX10_addHabit_0 {C : qCx} {w : qWp} (h : qOk C w RX10 cX10_addHabit 5 0 155 155) (hm : qMt C (some .int)) (hx : qNx C) {j14 : qT (Int32 × qM)} (k14 : qSnd C w 5 155 (qQf C w 155 155 jI) qfin 155 23 j14) : qSnd C w 5 155 (qQf C w 155 155 jI) qfin 155 0 (tX10_addHabit_0 j14) :=
  cLi (pc := 0) h dX10_addHabit_0 rfl (cB (pc := 1) h dX10_addHabit_1 rfl (aMul (pc := 3) h dX10_addHabit_3 (cSi (pc := 4) h dX10_addHabit_4 rfl (cLa (pc := 5) h dX10_addHabit_5 rfl (gGf (pc := 6) h dX10_addHabit_6 ff_X10_29_7 (Nat.le_of_ble_eq_true rfl) (Nat.le_of_ble_eq_true rfl) rfl (cLi (pc := 9) h dX10_addHabit_9 rfl (rAi (pc := 10) h dX10_addHabit_10 rfl (Nat.le_of_ble_eq_true rfl) (Nat.le_of_ble_eq_true rfl) (cSI (pc := 11) h dX10_addHabit_11 (cLI (pc := 13) h dX10_addHabit_13 (cB (pc := 15) h dX10_addHabit_15 rfl (jCLt (pc := 17) h dX10_addHabit_17 rfl (k14) (cB (pc := 20) h dX10_addHabit_20 rfl (zI (pc := 22) h hm (Nat.le_refl _) dX10_addHabit_22)))))))))))))
set_option maxRecDepth 20000 in
theorem lX10_addHabit_0 (a1 : Int32) (a2 : Int32) (m : qM) : tX10_addHabit_0 (wX10_addHabit_14 (fX10_addHabit_14 fX10_addHabit_42 FU)) [some (.ref 7), some (.int a1), some (.int a2), none, none] [] m = fX10_addHabit_0 a1 a2 m := rfl
noncomputable def GX10_addHabit : qG Int32 := fun av m => match av with
  | [.ref 7, .int a1, .int a2] => fX10_addHabit a1 a2 m
  | _ => none
theorem spX10_addHabit : qSpI yX10_addHabit (.code yX10_addHabit cX10_addHabit 5 (some .int)) 0 qfin 155 155 1 GX10_addHabit := by
  intro av m x m' hG
  unfold GX10_addHabit at hG
  split at hG
  · rename_i a1 a2
    rw [fX10_addHabit_d] at hG
    exact ⟨qmeet (J := jI) (r := (x, m')) (av := [.ref 7, .int a1, .int a2]) (by decide +kernel) (Nat.le_of_ble_eq_true rfl) (fun C w h hm hx hn => sX10_addHabit_0 h hm hx (bX10_addHabit_14 h hm hx (bX10_addHabit_42 h hm hx) FU)) ((lX10_addHabit_0 _ _ _).trans hG) (Nat.le_of_ble_eq_true rfl), Or.inl ⟨7, _, 10, _, _, rfl, by decide, rfl, qCk_10, rfl⟩⟩
  · cases hG
theorem ml_X11_95 : Jvm.Cond.methodLink RX11 95 yX8_size ∈ qTw := qm2 (List.mem_of_getElem? (i := 202) (by decide +kernel)) (by decide +kernel)
theorem kd_X11_95 {C : qCx} {w : qWp} {cc : ByteArray} {nL dp n0 n1 pc : Nat} (h : qOk C w RX11 cc nL dp n0 n1) (d : decode cc pc = .ok (.invokevirtual 95, 3)) : qCallOk C w nL dp n0 n1 pc 1 1 yX8_size (.code yX8_size cX8_size 1 (some .int)) := kindV h d ml_X11_95 im_X8_size se_X8_size in_ParentEve_Tape co_X8_size yk_X8_size (by decide)
theorem im_X8_addFour : Jvm.Cond.instanceMethod yX8_addFour ∈ qTw := qm2 (List.mem_of_getElem? (i := 207) (by decide +kernel)) (by decide +kernel)
theorem se_X8_addFour : Jvm.Cond.selects yX8_addFour.cls yX8_addFour yX8_addFour ∈ qTw := qm2 (List.mem_of_getElem? (i := 208) (by decide +kernel)) (by decide +kernel)
theorem co_X8_addFour : Jvm.Cond.code yX8_addFour cX8_addFour 3 none ∈ qTw := qm2 (List.mem_of_getElem? (i := 209) (by decide +kernel)) (by decide +kernel)
theorem yk_X8_addFour : qYk yX8_addFour 1 := ⟨⟨by decide +kernel, by decide +kernel⟩, by decide +kernel⟩
theorem ml_X11_99 : Jvm.Cond.methodLink RX11 99 yX8_addFour ∈ qTw := qm2 (List.mem_of_getElem? (i := 206) (by decide +kernel)) (by decide +kernel)
theorem kd_X11_99 {C : qCx} {w : qWp} {cc : ByteArray} {nL dp n0 n1 pc : Nat} (h : qOk C w RX11 cc nL dp n0 n1) (d : decode cc pc = .ok (.invokevirtual 99, 3)) : qCallOk C w nL dp n0 n1 pc 2 1 yX8_addFour (.code yX8_addFour cX8_addFour 3 none) := kindV h d ml_X11_99 im_X8_addFour se_X8_addFour in_ParentEve_Tape co_X8_addFour yk_X8_addFour (by decide)
theorem dX11_feed_0 : decode cX11_feed 0 = .ok (.aload_n 0, 1) := by decide +kernel
theorem dX11_feed_1 : decode cX11_feed 1 = .ok (.getfield 12, 3) := by decide +kernel
theorem dX11_feed_4 : decode cX11_feed 4 = .ok (.invokevirtual 95, 3) := by decide +kernel
theorem dX11_feed_7 : decode cX11_feed 7 = .ok (.bipush 20, 2) := by decide +kernel
theorem dX11_feed_9 : decode cX11_feed 9 = .ok (.iadd, 1) := by decide +kernel
theorem dX11_feed_10 : decode cX11_feed 10 = .ok (.sipush 400, 3) := by decide +kernel
theorem dX11_feed_13 : decode cX11_feed 13 = .ok (.if_icmp .le 6, 3) := by decide +kernel
theorem dX11_feed_16 : decode cX11_feed 16 = .ok (.bipush (-3), 2) := by decide +kernel
theorem dX11_feed_18 : decode cX11_feed 18 = .ok (.ireturn, 1) := by decide +kernel
theorem dX11_feed_19 : decode cX11_feed 19 = .ok (.aload_n 0, 1) := by decide +kernel
theorem dX11_feed_20 : decode cX11_feed 20 = .ok (.getfield 12, 3) := by decide +kernel
theorem dX11_feed_23 : decode cX11_feed 23 = .ok (.iload_n 1, 1) := by decide +kernel
theorem dX11_feed_24 : decode cX11_feed 24 = .ok (.invokevirtual 99, 3) := by decide +kernel
theorem dX11_feed_27 : decode cX11_feed 27 = .ok (.aload_n 0, 1) := by decide +kernel
theorem dX11_feed_28 : decode cX11_feed 28 = .ok (.getfield 12, 3) := by decide +kernel
theorem dX11_feed_31 : decode cX11_feed 31 = .ok (.iload_n 2, 1) := by decide +kernel
theorem dX11_feed_32 : decode cX11_feed 32 = .ok (.invokevirtual 99, 3) := by decide +kernel
theorem dX11_feed_35 : decode cX11_feed 35 = .ok (.aload_n 0, 1) := by decide +kernel
theorem dX11_feed_36 : decode cX11_feed 36 = .ok (.getfield 12, 3) := by decide +kernel
theorem dX11_feed_39 : decode cX11_feed 39 = .ok (.iload_n 3, 1) := by decide +kernel
theorem dX11_feed_40 : decode cX11_feed 40 = .ok (.invokevirtual 99, 3) := by decide +kernel
theorem dX11_feed_43 : decode cX11_feed 43 = .ok (.aload_n 0, 1) := by decide +kernel
theorem dX11_feed_44 : decode cX11_feed 44 = .ok (.getfield 12, 3) := by decide +kernel
theorem dX11_feed_47 : decode cX11_feed 47 = .ok (.iload 4, 2) := by decide +kernel
theorem dX11_feed_49 : decode cX11_feed 49 = .ok (.invokevirtual 99, 3) := by decide +kernel
theorem dX11_feed_52 : decode cX11_feed 52 = .ok (.aload_n 0, 1) := by decide +kernel
theorem dX11_feed_53 : decode cX11_feed 53 = .ok (.getfield 12, 3) := by decide +kernel
theorem dX11_feed_56 : decode cX11_feed 56 = .ok (.iload 5, 2) := by decide +kernel
theorem dX11_feed_58 : decode cX11_feed 58 = .ok (.invokevirtual 99, 3) := by decide +kernel
theorem dX11_feed_61 : decode cX11_feed 61 = .ok (.aload_n 0, 1) := by decide +kernel
theorem dX11_feed_62 : decode cX11_feed 62 = .ok (.getfield 12, 3) := by decide +kernel
theorem dX11_feed_65 : decode cX11_feed 65 = .ok (.invokevirtual 95, 3) := by decide +kernel
theorem dX11_feed_68 : decode cX11_feed 68 = .ok (.ireturn, 1) := by decide +kernel
noncomputable def tX11_feed_0 : qT (Int32 × qM) :=
  oLa 0 (oGf 0 0 1 (oCi GX8_size 1 (oC (.int (20 : Int32)) (o2 (· + ·) (oC (.int (400 : Int32)) (oCLe (oLa 0 (oGf 0 0 1 (oLi 1 (oCv GX8_addFour 2 (oLa 0 (oGf 0 0 1 (oLi 2 (oCv GX8_addFour 2 (oLa 0 (oGf 0 0 1 (oLi 3 (oCv GX8_addFour 2 (oLa 0 (oGf 0 0 1 (oLi 4 (oCv GX8_addFour 2 (oLa 0 (oGf 0 0 1 (oLi 5 (oCv GX8_addFour 2 (oLa 0 (oGf 0 0 1 (oCi GX8_size 1 (eI)))))))))))))))))))))))) (oC (.int (-3 : Int32)) (eI))))))))
set_option maxRecDepth 20000 in
theorem sX11_feed_0 {C : qCx} {w : qWp} (h : qOk C w RX11 cX11_feed 6 1 155 155) (hm : qMt C (some .int)) (hx : qNx C) : qSnd C w 6 155 (qQf C w 155 155 jI) qfin 155 0 (tX11_feed_0) :=
  cLa (pc := 0) h dX11_feed_0 rfl (gGf (pc := 1) h dX11_feed_1 ff_X11_12_0 (Nat.le_of_ble_eq_true rfl) (Nat.le_of_ble_eq_true rfl) rfl (kCi (pc := 4) h (kd_X11_95 h dX11_feed_4) spX8_size (by decide) (by decide) (by decide) (by decide) (cB (pc := 7) h dX11_feed_7 rfl (aAdd (pc := 9) h dX11_feed_9 (cS (pc := 10) h dX11_feed_10 rfl (jCLe (pc := 13) h dX11_feed_13 rfl (cLa (pc := 19) h dX11_feed_19 rfl (gGf (pc := 20) h dX11_feed_20 ff_X11_12_0 (Nat.le_of_ble_eq_true rfl) (Nat.le_of_ble_eq_true rfl) rfl (cLi (pc := 23) h dX11_feed_23 rfl (kCv (pc := 24) h (kd_X11_99 h dX11_feed_24) spX8_addFour (by decide) (by decide) (by decide) (by decide) (cLa (pc := 27) h dX11_feed_27 rfl (gGf (pc := 28) h dX11_feed_28 ff_X11_12_0 (Nat.le_of_ble_eq_true rfl) (Nat.le_of_ble_eq_true rfl) rfl (cLi (pc := 31) h dX11_feed_31 rfl (kCv (pc := 32) h (kd_X11_99 h dX11_feed_32) spX8_addFour (by decide) (by decide) (by decide) (by decide) (cLa (pc := 35) h dX11_feed_35 rfl (gGf (pc := 36) h dX11_feed_36 ff_X11_12_0 (Nat.le_of_ble_eq_true rfl) (Nat.le_of_ble_eq_true rfl) rfl (cLi (pc := 39) h dX11_feed_39 rfl (kCv (pc := 40) h (kd_X11_99 h dX11_feed_40) spX8_addFour (by decide) (by decide) (by decide) (by decide) (cLa (pc := 43) h dX11_feed_43 rfl (gGf (pc := 44) h dX11_feed_44 ff_X11_12_0 (Nat.le_of_ble_eq_true rfl) (Nat.le_of_ble_eq_true rfl) rfl (cLI (pc := 47) h dX11_feed_47 (kCv (pc := 49) h (kd_X11_99 h dX11_feed_49) spX8_addFour (by decide) (by decide) (by decide) (by decide) (cLa (pc := 52) h dX11_feed_52 rfl (gGf (pc := 53) h dX11_feed_53 ff_X11_12_0 (Nat.le_of_ble_eq_true rfl) (Nat.le_of_ble_eq_true rfl) rfl (cLI (pc := 56) h dX11_feed_56 (kCv (pc := 58) h (kd_X11_99 h dX11_feed_58) spX8_addFour (by decide) (by decide) (by decide) (by decide) (cLa (pc := 61) h dX11_feed_61 rfl (gGf (pc := 62) h dX11_feed_62 ff_X11_12_0 (Nat.le_of_ble_eq_true rfl) (Nat.le_of_ble_eq_true rfl) rfl (kCi (pc := 65) h (kd_X11_95 h dX11_feed_65) spX8_size (by decide) (by decide) (by decide) (by decide) (zI (pc := 68) h hm (Nat.le_refl _) dX11_feed_68)))))))))))))))))))))))) (cB (pc := 16) h dX11_feed_16 rfl (zI (pc := 18) h hm (Nat.le_refl _) dX11_feed_18))))))))
set_option maxRecDepth 20000 in
theorem lX11_feed_0 (a1 : Int32) (a2 : Int32) (a3 : Int32) (a4 : Int32) (a5 : Int32) (m : qM) : tX11_feed_0 [some (.ref 0), some (.int a1), some (.int a2), some (.int a3), some (.int a4), some (.int a5)] [] m = fX11_feed_0 a1 a2 a3 a4 a5 m := rfl
noncomputable def GX11_feed : qG Int32 := fun av m => match av with
  | [.ref 0, .int a1, .int a2, .int a3, .int a4, .int a5] => fX11_feed a1 a2 a3 a4 a5 m
  | _ => none
theorem spX11_feed : qSpI yX11_feed (.code yX11_feed cX11_feed 6 (some .int)) 1 qfin 155 155 1 GX11_feed := by
  intro av m x m' hG
  unfold GX11_feed at hG
  split at hG
  · rename_i a1 a2 a3 a4 a5
    rw [fX11_feed_d] at hG
    exact ⟨qmeet (J := jI) (r := (x, m')) (av := [.ref 0, .int a1, .int a2, .int a3, .int a4, .int a5]) (by decide +kernel) (Nat.le_of_ble_eq_true rfl) (fun C w h hm hx hn => sX11_feed_0 h hm hx) ((lX11_feed_0 _ _ _ _ _ _).trans hG) (Nat.le_of_ble_eq_true rfl), Or.inl ⟨0, _, 11, _, _, rfl, by decide, rfl, qCk_11, rfl⟩⟩
  · cases hG
theorem im_X8_cut : Jvm.Cond.instanceMethod yX8_cut ∈ qTw := qm2 (List.mem_of_getElem? (i := 218) (by decide +kernel)) (by decide +kernel)
theorem se_X8_cut : Jvm.Cond.selects yX8_cut.cls yX8_cut yX8_cut ∈ qTw := qm2 (List.mem_of_getElem? (i := 219) (by decide +kernel)) (by decide +kernel)
theorem co_X8_cut : Jvm.Cond.code yX8_cut cX8_cut 2 none ∈ qTw := qm2 (List.mem_of_getElem? (i := 220) (by decide +kernel)) (by decide +kernel)
theorem yk_X8_cut : qYk yX8_cut 1 := ⟨⟨by decide +kernel, by decide +kernel⟩, by decide +kernel⟩
theorem ml_X11_107 : Jvm.Cond.methodLink RX11 107 yX8_cut ∈ qTw := qm2 (List.mem_of_getElem? (i := 217) (by decide +kernel)) (by decide +kernel)
theorem kd_X11_107 {C : qCx} {w : qWp} {cc : ByteArray} {nL dp n0 n1 pc : Nat} (h : qOk C w RX11 cc nL dp n0 n1) (d : decode cc pc = .ok (.invokevirtual 107, 3)) : qCallOk C w nL dp n0 n1 pc 2 1 yX8_cut (.code yX8_cut cX8_cut 2 none) := kindV h d ml_X11_107 im_X8_cut se_X8_cut in_ParentEve_Tape co_X8_cut yk_X8_cut (by decide)
theorem dX11_end_0 : decode cX11_end 0 = .ok (.iload_n 1, 1) := by decide +kernel
theorem dX11_end_1 : decode cX11_end 1 = .ok (.iconst 0, 1) := by decide +kernel
theorem dX11_end_2 : decode cX11_end 2 = .ok (.aload_n 0, 1) := by decide +kernel
theorem dX11_end_3 : decode cX11_end 3 = .ok (.getfield 12, 3) := by decide +kernel
theorem dX11_end_6 : decode cX11_end 6 = .ok (.invokevirtual 95, 3) := by decide +kernel
theorem dX11_end_9 : decode cX11_end 9 = .ok (.invokestatic 103, 3) := by decide +kernel
theorem dX11_end_12 : decode cX11_end 12 = .ok (.ifCond .ne 5, 3) := by decide +kernel
theorem dX11_end_15 : decode cX11_end 15 = .ok (.iconst (-1), 1) := by decide +kernel
theorem dX11_end_16 : decode cX11_end 16 = .ok (.ireturn, 1) := by decide +kernel
theorem dX11_end_17 : decode cX11_end 17 = .ok (.aload_n 0, 1) := by decide +kernel
theorem dX11_end_18 : decode cX11_end 18 = .ok (.getfield 12, 3) := by decide +kernel
theorem dX11_end_21 : decode cX11_end 21 = .ok (.iload_n 1, 1) := by decide +kernel
theorem dX11_end_22 : decode cX11_end 22 = .ok (.invokevirtual 107, 3) := by decide +kernel
theorem dX11_end_25 : decode cX11_end 25 = .ok (.iload_n 1, 1) := by decide +kernel
theorem dX11_end_26 : decode cX11_end 26 = .ok (.ireturn, 1) := by decide +kernel
noncomputable def tX11_end_0 : qT (Int32 × qM) :=
  oLi 1 (oC (.int (0 : Int32)) (oLa 0 (oGf 0 0 1 (oCi GX8_size 1 (oCi GX11_within 3 (oEq (oC (.int (-1 : Int32)) (eI)) (oLa 0 (oGf 0 0 1 (oLi 1 (oCv GX8_cut 2 (oLi 1 (eI))))))))))))
set_option maxRecDepth 20000 in
theorem sX11_end_0 {C : qCx} {w : qWp} (h : qOk C w RX11 cX11_end 2 2 155 155) (hm : qMt C (some .int)) (hx : qNx C) : qSnd C w 2 155 (qQf C w 155 155 jI) qfin 155 0 (tX11_end_0) :=
  cLi (pc := 0) h dX11_end_0 rfl (cC (pc := 1) h dX11_end_1 rfl (cLa (pc := 2) h dX11_end_2 rfl (gGf (pc := 3) h dX11_end_3 ff_X11_12_0 (Nat.le_of_ble_eq_true rfl) (Nat.le_of_ble_eq_true rfl) rfl (kCi (pc := 6) h (kd_X11_95 h dX11_end_6) spX8_size (by decide) (by decide) (by decide) (by decide) (kCi (pc := 9) h (kd_X11_103 h dX11_end_9) spX11_within (by decide) (by decide) (by decide) (by decide) (jNe (pc := 12) h dX11_end_12 rfl (cLa (pc := 17) h dX11_end_17 rfl (gGf (pc := 18) h dX11_end_18 ff_X11_12_0 (Nat.le_of_ble_eq_true rfl) (Nat.le_of_ble_eq_true rfl) rfl (cLi (pc := 21) h dX11_end_21 rfl (kCv (pc := 22) h (kd_X11_107 h dX11_end_22) spX8_cut (by decide) (by decide) (by decide) (by decide) (cLi (pc := 25) h dX11_end_25 rfl (zI (pc := 26) h hm (Nat.le_refl _) dX11_end_26)))))) (cC (pc := 15) h dX11_end_15 rfl (zI (pc := 16) h hm (Nat.le_refl _) dX11_end_16))))))))
set_option maxRecDepth 20000 in
theorem lX11_end_0 (a1 : Int32) (m : qM) : tX11_end_0 [some (.ref 0), some (.int a1)] [] m = fX11_end_0 a1 m := rfl
noncomputable def GX11_end : qG Int32 := fun av m => match av with
  | [.ref 0, .int a1] => fX11_end a1 m
  | _ => none
theorem spX11_end : qSpI yX11_end (.code yX11_end cX11_end 2 (some .int)) 2 qfin 155 155 1 GX11_end := by
  intro av m x m' hG
  unfold GX11_end at hG
  split at hG
  · rename_i a1
    rw [fX11_end_d] at hG
    exact ⟨qmeet (J := jI) (r := (x, m')) (av := [.ref 0, .int a1]) (by decide +kernel) (Nat.le_of_ble_eq_true rfl) (fun C w h hm hx hn => sX11_end_0 h hm hx) ((lX11_end_0 _ _).trans hG) (Nat.le_of_ble_eq_true rfl), Or.inl ⟨0, _, 11, _, _, rfl, by decide, rfl, qCk_11, rfl⟩⟩
  · cases hG
theorem ml_X11_262 : Jvm.Cond.methodLink RX11 262 yX4_laid ∈ qTw := qm2 (List.mem_of_getElem? (i := 235) (by decide +kernel)) (by decide +kernel)
theorem kd_X11_262 {C : qCx} {w : qWp} {cc : ByteArray} {nL dp n0 n1 pc : Nat} (h : qOk C w RX11 cc nL dp n0 n1) (d : decode cc pc = .ok (.invokevirtual 262, 3)) : qCallOk C w nL dp n0 n1 pc 1 1 yX4_laid (.code yX4_laid cX4_laid 1 (some .int)) := kindV h d ml_X11_262 im_X4_laid se_X4_laid in_ParentEve_Plan co_X4_laid yk_X4_laid (by decide)
theorem dX11_hasSettledPlace_0 : decode cX11_hasSettledPlace 0 = .ok (.aload_n 0, 1) := by decide +kernel
theorem dX11_hasSettledPlace_1 : decode cX11_hasSettledPlace 1 = .ok (.getfield 91, 3) := by decide +kernel
theorem dX11_hasSettledPlace_4 : decode cX11_hasSettledPlace 4 = .ok (.ifCond .ne 13, 3) := by decide +kernel
theorem dX11_hasSettledPlace_7 : decode cX11_hasSettledPlace 7 = .ok (.aload_n 0, 1) := by decide +kernel
theorem dX11_hasSettledPlace_8 : decode cX11_hasSettledPlace 8 = .ok (.getfield 53, 3) := by decide +kernel
theorem dX11_hasSettledPlace_11 : decode cX11_hasSettledPlace 11 = .ok (.invokevirtual 262, 3) := by decide +kernel
theorem dX11_hasSettledPlace_14 : decode cX11_hasSettledPlace 14 = .ok (.ifCond .le 7, 3) := by decide +kernel
theorem dX11_hasSettledPlace_17 : decode cX11_hasSettledPlace 17 = .ok (.iconst 1, 1) := by decide +kernel
theorem dX11_hasSettledPlace_18 : decode cX11_hasSettledPlace 18 = .ok (.goto 4, 3) := by decide +kernel
theorem dX11_hasSettledPlace_21 : decode cX11_hasSettledPlace 21 = .ok (.iconst 0, 1) := by decide +kernel
theorem dX11_hasSettledPlace_22 : decode cX11_hasSettledPlace 22 = .ok (.ireturn, 1) := by decide +kernel
noncomputable def tX11_hasSettledPlace_10 : qT (Int32 × qM) :=
  eZ
noncomputable def wX11_hasSettledPlace_10 (k : Int32 → qM → Option (Int32 × qM)) : qT (Int32 × qM) := fun lo st m => match lo, st with
  | [_], [.int s0] => k s0 m
  | _, _ => none
set_option maxRecDepth 20000 in
theorem sX11_hasSettledPlace_10 {C : qCx} {w : qWp} (h : qOk C w RX11 cX11_hasSettledPlace 1 1 155 155) (hm : qMt C (some .boolean)) (hx : qNx C) : qSnd C w 1 155 (qQf C w 155 155 jI) qfin 155 22 (tX11_hasSettledPlace_10) :=
  zZ (pc := 22) h hm (Nat.le_refl _) dX11_hasSettledPlace_22
set_option maxRecDepth 20000 in
theorem lX11_hasSettledPlace_10 (s0 : Int32) (m : qM) : tX11_hasSettledPlace_10 [none] [(.int s0)] m = fX11_hasSettledPlace_10 s0 m := rfl
theorem bX11_hasSettledPlace_10 {C : qCx} {w : qWp} (h : qOk C w RX11 cX11_hasSettledPlace 1 1 155 155) (hm : qMt C (some .boolean)) (hx : qNx C) : qSnd C w 1 155 (qQf C w 155 155 jI) qfin 155 22 (wX11_hasSettledPlace_10 fX11_hasSettledPlace_10) :=
  qSnd_of (fun lo st m x hr0 => by
    unfold wX11_hasSettledPlace_10 at hr0
    split at hr0
    · exact ⟨_, (qsub_n qsub_nil), (lX11_hasSettledPlace_10 _ _).trans hr0⟩
    · cases hr0) (sX11_hasSettledPlace_10 h hm hx)
noncomputable def tX11_hasSettledPlace_7 (j10 : qT (Int32 × qM)) : qT (Int32 × qM) :=
  oC (.int (1 : Int32)) (j10)
noncomputable def wX11_hasSettledPlace_7 (k : qM → Option (Int32 × qM)) : qT (Int32 × qM) := fun lo st m => match lo, st with
  | [_], [] => k m
  | _, _ => none
set_option maxRecDepth 20000 in
theorem sX11_hasSettledPlace_7 {C : qCx} {w : qWp} (h : qOk C w RX11 cX11_hasSettledPlace 1 1 155 155) (hm : qMt C (some .boolean)) (hx : qNx C) {j10 : qT (Int32 × qM)} (k10 : qSnd C w 1 155 (qQf C w 155 155 jI) qfin 155 22 j10) : qSnd C w 1 155 (qQf C w 155 155 jI) qfin 155 17 (tX11_hasSettledPlace_7 j10) :=
  cC (pc := 17) h dX11_hasSettledPlace_17 rfl (jGo (pc := 18) h dX11_hasSettledPlace_18 rfl (k10))
set_option maxRecDepth 20000 in
theorem lX11_hasSettledPlace_7 (m : qM) : tX11_hasSettledPlace_7 (wX11_hasSettledPlace_10 fX11_hasSettledPlace_10) [none] [] m = fX11_hasSettledPlace_7 m := rfl
theorem bX11_hasSettledPlace_7 {C : qCx} {w : qWp} (h : qOk C w RX11 cX11_hasSettledPlace 1 1 155 155) (hm : qMt C (some .boolean)) (hx : qNx C) : qSnd C w 1 155 (qQf C w 155 155 jI) qfin 155 17 (wX11_hasSettledPlace_7 fX11_hasSettledPlace_7) :=
  qSnd_of (fun lo st m x hr0 => by
    unfold wX11_hasSettledPlace_7 at hr0
    split at hr0
    · exact ⟨_, (qsub_n qsub_nil), (lX11_hasSettledPlace_7 _).trans hr0⟩
    · cases hr0) (sX11_hasSettledPlace_7 h hm hx (bX11_hasSettledPlace_10 h hm hx))
noncomputable def tX11_hasSettledPlace_0 (j7 : qT (Int32 × qM)) (j10 : qT (Int32 × qM)) : qT (Int32 × qM) :=
  oLa 0 (oGi 0 10 (oEq (oLa 0 (oGf 0 5 58 (oCi GX4_laid 1 (oLe (oC (.int (0 : Int32)) (j10)) (j7))))) (j7)))
set_option maxRecDepth 20000 in
theorem sX11_hasSettledPlace_0 {C : qCx} {w : qWp} (h : qOk C w RX11 cX11_hasSettledPlace 1 1 155 155) (hm : qMt C (some .boolean)) (hx : qNx C) {j7 : qT (Int32 × qM)} {j10 : qT (Int32 × qM)} (k7 : qSnd C w 1 155 (qQf C w 155 155 jI) qfin 155 17 j7) (k10 : qSnd C w 1 155 (qQf C w 155 155 jI) qfin 155 22 j10) : qSnd C w 1 155 (qQf C w 155 155 jI) qfin 155 0 (tX11_hasSettledPlace_0 j7 j10) :=
  cLa (pc := 0) h dX11_hasSettledPlace_0 rfl (gGz (pc := 1) h dX11_hasSettledPlace_1 ff_X11_91_0 (Nat.le_of_ble_eq_true rfl) (Nat.le_of_ble_eq_true rfl) (jNe (pc := 4) h dX11_hasSettledPlace_4 rfl (k7) (cLa (pc := 7) h dX11_hasSettledPlace_7 rfl (gGf (pc := 8) h dX11_hasSettledPlace_8 ff_X11_53_0 (Nat.le_of_ble_eq_true rfl) (Nat.le_of_ble_eq_true rfl) rfl (kCi (pc := 11) h (kd_X11_262 h dX11_hasSettledPlace_11) spX4_laid (by decide) (by decide) (by decide) (by decide) (jLe (pc := 14) h dX11_hasSettledPlace_14 rfl (cC (pc := 21) h dX11_hasSettledPlace_21 rfl (k10)) (k7)))))))
set_option maxRecDepth 20000 in
theorem lX11_hasSettledPlace_0 (m : qM) : tX11_hasSettledPlace_0 (wX11_hasSettledPlace_7 fX11_hasSettledPlace_7) (wX11_hasSettledPlace_10 fX11_hasSettledPlace_10) [some (.ref 0)] [] m = fX11_hasSettledPlace_0 m := rfl
noncomputable def GX11_hasSettledPlace : qG Int32 := fun av m => match av with
  | [.ref 0] => fX11_hasSettledPlace m
  | _ => none
theorem spX11_hasSettledPlace : qSpI yX11_hasSettledPlace (.code yX11_hasSettledPlace cX11_hasSettledPlace 1 (some .boolean)) 1 qfin 155 155 1 GX11_hasSettledPlace := by
  intro av m x m' hG
  unfold GX11_hasSettledPlace at hG
  split at hG
  · rw [fX11_hasSettledPlace_d] at hG
    exact ⟨qmeet (J := jI) (r := (x, m')) (av := [.ref 0]) (by decide +kernel) (Nat.le_of_ble_eq_true rfl) (fun C w h hm hx hn => sX11_hasSettledPlace_0 h hm hx (bX11_hasSettledPlace_7 h hm hx) (bX11_hasSettledPlace_10 h hm hx)) ((lX11_hasSettledPlace_0 _).trans hG) (Nat.le_of_ble_eq_true rfl), Or.inl ⟨0, _, 11, _, _, rfl, by decide, rfl, qCk_11, rfl⟩⟩
  · cases hG
theorem im_X11_hasSettledPlace : Jvm.Cond.instanceMethod yX11_hasSettledPlace ∈ qTw := qm2 (List.mem_of_getElem? (i := 233) (by decide +kernel)) (by decide +kernel)
theorem se_X11_hasSettledPlace : Jvm.Cond.selects yX11_hasSettledPlace.cls yX11_hasSettledPlace yX11_hasSettledPlace ∈ qTw := List.mem_filter.mpr ⟨List.mem_append_left _ (List.mem_of_getElem? (i := 0) (by decide +kernel)), rfl⟩
theorem co_X11_hasSettledPlace : Jvm.Cond.code yX11_hasSettledPlace cX11_hasSettledPlace 1 (some .boolean) ∈ qTw := qm2 (List.mem_of_getElem? (i := 234) (by decide +kernel)) (by decide +kernel)
theorem yk_X11_hasSettledPlace : qYk yX11_hasSettledPlace 0 := ⟨⟨by decide +kernel, by decide +kernel⟩, by decide +kernel⟩
theorem ml_X11_110 : Jvm.Cond.methodLink RX11 110 yX11_hasSettledPlace ∈ qTw := qm2 (List.mem_of_getElem? (i := 231) (by decide +kernel)) (by decide +kernel)
theorem kd_X11_110 {C : qCx} {w : qWp} {cc : ByteArray} {nL dp n0 n1 pc : Nat} (h : qOk C w RX11 cc nL dp n0 n1) (d : decode cc pc = .ok (.invokevirtual 110, 3)) : qCallOk C w nL dp n0 n1 pc 1 1 yX11_hasSettledPlace (.code yX11_hasSettledPlace cX11_hasSettledPlace 1 (some .boolean)) := kindV h d ml_X11_110 im_X11_hasSettledPlace se_X11_hasSettledPlace in_ParentEve co_X11_hasSettledPlace yk_X11_hasSettledPlace (by decide)
theorem im_X7_takeText : Jvm.Cond.instanceMethod yX7_takeText ∈ qTw := qm3 (List.mem_of_getElem? (i := 0) (by decide +kernel)) (by decide +kernel)
theorem se_X7_takeText : Jvm.Cond.selects yX7_takeText.cls yX7_takeText yX7_takeText ∈ qTw := qm3 (List.mem_of_getElem? (i := 1) (by decide +kernel)) (by decide +kernel)
theorem co_X7_takeText : Jvm.Cond.code yX7_takeText cX7_takeText 5 (some .int) ∈ qTw := qm3 (List.mem_of_getElem? (i := 2) (by decide +kernel)) (by decide +kernel)
theorem yk_X7_takeText : qYk yX7_takeText 1 := ⟨⟨by decide +kernel, by decide +kernel⟩, by decide +kernel⟩
theorem ml_X11_114 : Jvm.Cond.methodLink RX11 114 yX7_takeText ∈ qTw := qm2 (List.mem_of_getElem? (i := 239) (by decide +kernel)) (by decide +kernel)
theorem kd_X11_114 {C : qCx} {w : qWp} {cc : ByteArray} {nL dp n0 n1 pc : Nat} (h : qOk C w RX11 cc nL dp n0 n1) (d : decode cc pc = .ok (.invokevirtual 114, 3)) : qCallOk C w nL dp n0 n1 pc 2 1 yX7_takeText (.code yX7_takeText cX7_takeText 5 (some .int)) := kindV h d ml_X11_114 im_X7_takeText se_X7_takeText in_ParentEve_Rules co_X7_takeText yk_X7_takeText (by decide)
theorem ml_X11_118 : Jvm.Cond.methodLink RX11 118 yX3_measureWalks ∈ qTw := qm3 (List.mem_of_getElem? (i := 112) (by decide +kernel)) (by decide +kernel)
theorem kd_X11_118 {C : qCx} {w : qWp} {cc : ByteArray} {nL dp n0 n1 pc : Nat} (h : qOk C w RX11 cc nL dp n0 n1) (d : decode cc pc = .ok (.invokevirtual 118, 3)) : qCallOk C w nL dp n0 n1 pc 1 1 yX3_measureWalks (.code yX3_measureWalks cX3_measureWalks 7 none) := kindV h d ml_X11_118 im_X3_measureWalks se_X3_measureWalks in_ParentEve_People co_X3_measureWalks yk_X3_measureWalks (by decide)
theorem dX11_rules_0 : decode cX11_rules 0 = .ok (.aload_n 0, 1) := by decide +kernel
theorem dX11_rules_1 : decode cX11_rules 1 = .ok (.invokevirtual 110, 3) := by decide +kernel
theorem dX11_rules_4 : decode cX11_rules 4 = .ok (.ifCond .eq 8, 3) := by decide +kernel
theorem dX11_rules_7 : decode cX11_rules 7 = .ok (.bipush (-4), 2) := by decide +kernel
theorem dX11_rules_9 : decode cX11_rules 9 = .ok (.goto 14, 3) := by decide +kernel
theorem dX11_rules_12 : decode cX11_rules 12 = .ok (.aload_n 0, 1) := by decide +kernel
theorem dX11_rules_13 : decode cX11_rules 13 = .ok (.getfield 28, 3) := by decide +kernel
theorem dX11_rules_16 : decode cX11_rules 16 = .ok (.aload_n 0, 1) := by decide +kernel
theorem dX11_rules_17 : decode cX11_rules 17 = .ok (.getfield 21, 3) := by decide +kernel
theorem dX11_rules_20 : decode cX11_rules 20 = .ok (.invokevirtual 114, 3) := by decide +kernel
theorem dX11_rules_23 : decode cX11_rules 23 = .ok (.istore_n 1, 1) := by decide +kernel
theorem dX11_rules_24 : decode cX11_rules 24 = .ok (.aload_n 0, 1) := by decide +kernel
theorem dX11_rules_25 : decode cX11_rules 25 = .ok (.getfield 12, 3) := by decide +kernel
theorem dX11_rules_28 : decode cX11_rules 28 = .ok (.iconst 0, 1) := by decide +kernel
theorem dX11_rules_29 : decode cX11_rules 29 = .ok (.invokevirtual 107, 3) := by decide +kernel
theorem dX11_rules_32 : decode cX11_rules 32 = .ok (.aload_n 0, 1) := by decide +kernel
theorem dX11_rules_33 : decode cX11_rules 33 = .ok (.getfield 44, 3) := by decide +kernel
theorem dX11_rules_36 : decode cX11_rules 36 = .ok (.invokevirtual 118, 3) := by decide +kernel
theorem dX11_rules_39 : decode cX11_rules 39 = .ok (.iload_n 1, 1) := by decide +kernel
theorem dX11_rules_40 : decode cX11_rules 40 = .ok (.ireturn, 1) := by decide +kernel
noncomputable def tX11_rules_10 : qT (Int32 × qM) :=
  oSi 1 (oLa 0 (oGf 0 0 1 (oC (.int (0 : Int32)) (oCv GX8_cut 2 (oLa 0 (oGf 0 4 47 (oCv GX3_measureWalks 1 (oLi 1 (eI)))))))))
noncomputable def wX11_rules_10 (k : Int32 → qM → Option (Int32 × qM)) : qT (Int32 × qM) := fun lo st m => match lo, st with
  | [some (.ref 0), _], [.int s0] => k s0 m
  | _, _ => none
set_option maxRecDepth 20000 in
theorem sX11_rules_10 {C : qCx} {w : qWp} (h : qOk C w RX11 cX11_rules 2 7 155 155) (hm : qMt C (some .int)) (hx : qNx C) : qSnd C w 2 155 (qQf C w 155 155 jI) qfin 155 23 (tX11_rules_10) :=
  cSi (pc := 23) h dX11_rules_23 rfl (cLa (pc := 24) h dX11_rules_24 rfl (gGf (pc := 25) h dX11_rules_25 ff_X11_12_0 (Nat.le_of_ble_eq_true rfl) (Nat.le_of_ble_eq_true rfl) rfl (cC (pc := 28) h dX11_rules_28 rfl (kCv (pc := 29) h (kd_X11_107 h dX11_rules_29) spX8_cut (by decide) (by decide) (by decide) (by decide) (cLa (pc := 32) h dX11_rules_32 rfl (gGf (pc := 33) h dX11_rules_33 ff_X11_44_0 (Nat.le_of_ble_eq_true rfl) (Nat.le_of_ble_eq_true rfl) rfl (kCv (pc := 36) h (kd_X11_118 h dX11_rules_36) spX3_measureWalks (by decide) (by decide) (by decide) (by decide) (cLi (pc := 39) h dX11_rules_39 rfl (zI (pc := 40) h hm (Nat.le_refl _) dX11_rules_40)))))))))
set_option maxRecDepth 20000 in
theorem lX11_rules_10 (s0 : Int32) (m : qM) : tX11_rules_10 [some (.ref 0), none] [(.int s0)] m = fX11_rules_10 s0 m := rfl
theorem bX11_rules_10 {C : qCx} {w : qWp} (h : qOk C w RX11 cX11_rules 2 7 155 155) (hm : qMt C (some .int)) (hx : qNx C) : qSnd C w 2 155 (qQf C w 155 155 jI) qfin 155 23 (wX11_rules_10 fX11_rules_10) :=
  qSnd_of (fun lo st m x hr0 => by
    unfold wX11_rules_10 at hr0
    split at hr0
    · exact ⟨_, (qsub_e (qsub_n qsub_nil)), (lX11_rules_10 _ _).trans hr0⟩
    · cases hr0) (sX11_rules_10 h hm hx)
noncomputable def tX11_rules_0 (j10 : qT (Int32 × qM)) : qT (Int32 × qM) :=
  oLa 0 (oCi GX11_hasSettledPlace 1 (oEq (oLa 0 (oGf 0 2 4 (oLa 0 (oGf 0 1 3 (oCi GX7_takeText 2 (j10)))))) (oC (.int (-4 : Int32)) (j10))))
set_option maxRecDepth 20000 in
theorem sX11_rules_0 {C : qCx} {w : qWp} (h : qOk C w RX11 cX11_rules 2 7 155 155) (hm : qMt C (some .int)) (hx : qNx C) {j10 : qT (Int32 × qM)} (k10 : qSnd C w 2 155 (qQf C w 155 155 jI) qfin 155 23 j10) : qSnd C w 2 155 (qQf C w 155 155 jI) qfin 155 0 (tX11_rules_0 j10) :=
  cLa (pc := 0) h dX11_rules_0 rfl (kCi (pc := 1) h (kd_X11_110 h dX11_rules_1) spX11_hasSettledPlace (by decide) (by decide) (by decide) (by decide) (jEq (pc := 4) h dX11_rules_4 rfl (cLa (pc := 12) h dX11_rules_12 rfl (gGf (pc := 13) h dX11_rules_13 ff_X11_28_0 (Nat.le_of_ble_eq_true rfl) (Nat.le_of_ble_eq_true rfl) rfl (cLa (pc := 16) h dX11_rules_16 rfl (gGf (pc := 17) h dX11_rules_17 ff_X11_21_0 (Nat.le_of_ble_eq_true rfl) (Nat.le_of_ble_eq_true rfl) rfl (kCi (pc := 20) h (kd_X11_114 h dX11_rules_20) spX7_takeText (by decide) (by decide) (by decide) (by decide) (k10)))))) (cB (pc := 7) h dX11_rules_7 rfl (jGo (pc := 9) h dX11_rules_9 rfl (k10)))))
set_option maxRecDepth 20000 in
theorem lX11_rules_0 (m : qM) : tX11_rules_0 (wX11_rules_10 fX11_rules_10) [some (.ref 0), none] [] m = fX11_rules_0 m := rfl
noncomputable def GX11_rules : qG Int32 := fun av m => match av with
  | [.ref 0] => fX11_rules m
  | _ => none
theorem spX11_rules : qSpI yX11_rules (.code yX11_rules cX11_rules 2 (some .int)) 7 qfin 155 155 1 GX11_rules := by
  intro av m x m' hG
  unfold GX11_rules at hG
  split at hG
  · rw [fX11_rules_d] at hG
    exact ⟨qmeet (J := jI) (r := (x, m')) (av := [.ref 0]) (by decide +kernel) (Nat.le_of_ble_eq_true rfl) (fun C w h hm hx hn => sX11_rules_0 h hm hx (bX11_rules_10 h hm hx)) ((lX11_rules_0 _).trans hG) (Nat.le_of_ble_eq_true rfl), Or.inl ⟨0, _, 11, _, _, rfl, by decide, rfl, qCk_11, rfl⟩⟩
  · cases hG
theorem ml_X11_121 : Jvm.Cond.methodLink RX11 121 yX7_told ∈ qTw := qm3 (List.mem_of_getElem? (i := 132) (by decide +kernel)) (by decide +kernel)
theorem kd_X11_121 {C : qCx} {w : qWp} {cc : ByteArray} {nL dp n0 n1 pc : Nat} (h : qOk C w RX11 cc nL dp n0 n1) (d : decode cc pc = .ok (.invokevirtual 121, 3)) : qCallOk C w nL dp n0 n1 pc 2 1 yX7_told (.code yX7_told cX7_told 2 (some .int)) := kindV h d ml_X11_121 im_X7_told se_X7_told in_ParentEve_Rules co_X7_told yk_X7_told (by decide)
theorem dX11_rule_0 : decode cX11_rule 0 = .ok (.iload_n 1, 1) := by decide +kernel
theorem dX11_rule_1 : decode cX11_rule 1 = .ok (.iconst 0, 1) := by decide +kernel
theorem dX11_rule_2 : decode cX11_rule 2 = .ok (.iconst 5, 1) := by decide +kernel
theorem dX11_rule_3 : decode cX11_rule 3 = .ok (.invokestatic 103, 3) := by decide +kernel
theorem dX11_rule_6 : decode cX11_rule 6 = .ok (.ifCond .eq 14, 3) := by decide +kernel
theorem dX11_rule_9 : decode cX11_rule 9 = .ok (.aload_n 0, 1) := by decide +kernel
theorem dX11_rule_10 : decode cX11_rule 10 = .ok (.getfield 28, 3) := by decide +kernel
theorem dX11_rule_13 : decode cX11_rule 13 = .ok (.iload_n 1, 1) := by decide +kernel
theorem dX11_rule_14 : decode cX11_rule 14 = .ok (.invokevirtual 121, 3) := by decide +kernel
theorem dX11_rule_17 : decode cX11_rule 17 = .ok (.goto 5, 3) := by decide +kernel
theorem dX11_rule_20 : decode cX11_rule 20 = .ok (.bipush (-9), 2) := by decide +kernel
theorem dX11_rule_22 : decode cX11_rule 22 = .ok (.ireturn, 1) := by decide +kernel
noncomputable def tX11_rule_11 : qT (Int32 × qM) :=
  eI
noncomputable def wX11_rule_11 (k : Int32 → qM → Option (Int32 × qM)) : qT (Int32 × qM) := fun lo st m => match lo, st with
  | [_, _], [.int s0] => k s0 m
  | _, _ => none
set_option maxRecDepth 20000 in
theorem sX11_rule_11 {C : qCx} {w : qWp} (h : qOk C w RX11 cX11_rule 2 2 155 155) (hm : qMt C (some .int)) (hx : qNx C) : qSnd C w 2 155 (qQf C w 155 155 jI) qfin 155 22 (tX11_rule_11) :=
  zI (pc := 22) h hm (Nat.le_refl _) dX11_rule_22
set_option maxRecDepth 20000 in
theorem lX11_rule_11 (s0 : Int32) (m : qM) : tX11_rule_11 [none, none] [(.int s0)] m = fX11_rule_11 s0 m := rfl
theorem bX11_rule_11 {C : qCx} {w : qWp} (h : qOk C w RX11 cX11_rule 2 2 155 155) (hm : qMt C (some .int)) (hx : qNx C) : qSnd C w 2 155 (qQf C w 155 155 jI) qfin 155 22 (wX11_rule_11 fX11_rule_11) :=
  qSnd_of (fun lo st m x hr0 => by
    unfold wX11_rule_11 at hr0
    split at hr0
    · exact ⟨_, (qsub_n (qsub_n qsub_nil)), (lX11_rule_11 _ _).trans hr0⟩
    · cases hr0) (sX11_rule_11 h hm hx)
noncomputable def tX11_rule_0 (j11 : qT (Int32 × qM)) : qT (Int32 × qM) :=
  oLi 1 (oC (.int (0 : Int32)) (oC (.int (5 : Int32)) (oCi GX11_within 3 (oEq (oC (.int (-9 : Int32)) (j11)) (oLa 0 (oGf 0 2 4 (oLi 1 (oCi GX7_told 2 (j11)))))))))
set_option maxRecDepth 20000 in
theorem sX11_rule_0 {C : qCx} {w : qWp} (h : qOk C w RX11 cX11_rule 2 2 155 155) (hm : qMt C (some .int)) (hx : qNx C) {j11 : qT (Int32 × qM)} (k11 : qSnd C w 2 155 (qQf C w 155 155 jI) qfin 155 22 j11) : qSnd C w 2 155 (qQf C w 155 155 jI) qfin 155 0 (tX11_rule_0 j11) :=
  cLi (pc := 0) h dX11_rule_0 rfl (cC (pc := 1) h dX11_rule_1 rfl (cC (pc := 2) h dX11_rule_2 rfl (kCi (pc := 3) h (kd_X11_103 h dX11_rule_3) spX11_within (by decide) (by decide) (by decide) (by decide) (jEq (pc := 6) h dX11_rule_6 rfl (cB (pc := 20) h dX11_rule_20 rfl (k11)) (cLa (pc := 9) h dX11_rule_9 rfl (gGf (pc := 10) h dX11_rule_10 ff_X11_28_0 (Nat.le_of_ble_eq_true rfl) (Nat.le_of_ble_eq_true rfl) rfl (cLi (pc := 13) h dX11_rule_13 rfl (kCi (pc := 14) h (kd_X11_121 h dX11_rule_14) spX7_told (by decide) (by decide) (by decide) (by decide) (jGo (pc := 17) h dX11_rule_17 rfl (k11))))))))))
set_option maxRecDepth 20000 in
theorem lX11_rule_0 (a1 : Int32) (m : qM) : tX11_rule_0 (wX11_rule_11 fX11_rule_11) [some (.ref 0), some (.int a1)] [] m = fX11_rule_0 a1 m := rfl
noncomputable def GX11_rule : qG Int32 := fun av m => match av with
  | [.ref 0, .int a1] => fX11_rule a1 m
  | _ => none
theorem spX11_rule : qSpI yX11_rule (.code yX11_rule cX11_rule 2 (some .int)) 2 qfin 155 155 1 GX11_rule := by
  intro av m x m' hG
  unfold GX11_rule at hG
  split at hG
  · rename_i a1
    rw [fX11_rule_d] at hG
    exact ⟨qmeet (J := jI) (r := (x, m')) (av := [.ref 0, .int a1]) (by decide +kernel) (Nat.le_of_ble_eq_true rfl) (fun C w h hm hx hn => sX11_rule_0 h hm hx (bX11_rule_11 h hm hx)) ((lX11_rule_0 _ _).trans hG) (Nat.le_of_ble_eq_true rfl), Or.inl ⟨0, _, 11, _, _, rfl, by decide, rfl, qCk_11, rfl⟩⟩
  · cases hG
theorem ml_X11_125 : Jvm.Cond.methodLink RX11 125 yX11_isPolicy ∈ qTw := qm3 (List.mem_of_getElem? (i := 137) (by decide +kernel)) (by decide +kernel)
theorem kd_X11_125 {C : qCx} {w : qWp} {cc : ByteArray} {nL dp n0 n1 pc : Nat} (h : qOk C w RX11 cc nL dp n0 n1) (d : decode cc pc = .ok (.invokestatic 125, 3)) : qCallOk C w nL dp n0 n1 pc 1 0 yX11_isPolicy (.code yX11_isPolicy cX11_isPolicy 1 (some .boolean)) := kindS h d ml_X11_125 im_X11_isPolicy in_ParentEve co_X11_isPolicy yk_X11_isPolicy (by decide)
theorem im_X10_draft : Jvm.Cond.instanceMethod yX10_draft ∈ qTw := qm3 (List.mem_of_getElem? (i := 141) (by decide +kernel)) (by decide +kernel)
theorem se_X10_draft : Jvm.Cond.selects yX10_draft.cls yX10_draft yX10_draft ∈ qTw := qm3 (List.mem_of_getElem? (i := 142) (by decide +kernel)) (by decide +kernel)
theorem co_X10_draft : Jvm.Cond.code yX10_draft cX10_draft 1 (some (.object "ParentEve$Policy")) ∈ qTw := qm3 (List.mem_of_getElem? (i := 143) (by decide +kernel)) (by decide +kernel)
theorem yk_X10_draft : qYk yX10_draft 0 := ⟨⟨by decide +kernel, by decide +kernel⟩, by decide +kernel⟩
theorem ml_X11_129 : Jvm.Cond.methodLink RX11 129 yX10_draft ∈ qTw := qm3 (List.mem_of_getElem? (i := 140) (by decide +kernel)) (by decide +kernel)
theorem kd_X11_129 {C : qCx} {w : qWp} {cc : ByteArray} {nL dp n0 n1 pc : Nat} (h : qOk C w RX11 cc nL dp n0 n1) (d : decode cc pc = .ok (.invokevirtual 129, 3)) : qCallOk C w nL dp n0 n1 pc 1 1 yX10_draft (.code yX10_draft cX10_draft 1 (some (.object "ParentEve$Policy"))) := kindV h d ml_X11_129 im_X10_draft se_X10_draft in_ParentEve_Ways co_X10_draft yk_X10_draft (by decide)
theorem im_X5_takeText : Jvm.Cond.instanceMethod yX5_takeText ∈ qTw := qm3 (List.mem_of_getElem? (i := 145) (by decide +kernel)) (by decide +kernel)
theorem se_X5_takeText : Jvm.Cond.selects yX5_takeText.cls yX5_takeText yX5_takeText ∈ qTw := qm3 (List.mem_of_getElem? (i := 146) (by decide +kernel)) (by decide +kernel)
theorem co_X5_takeText : Jvm.Cond.code yX5_takeText cX5_takeText 3 (some .int) ∈ qTw := qm3 (List.mem_of_getElem? (i := 147) (by decide +kernel)) (by decide +kernel)
theorem yk_X5_takeText : qYk yX5_takeText 1 := ⟨⟨by decide +kernel, by decide +kernel⟩, by decide +kernel⟩
theorem ml_X11_133 : Jvm.Cond.methodLink RX11 133 yX5_takeText ∈ qTw := qm3 (List.mem_of_getElem? (i := 144) (by decide +kernel)) (by decide +kernel)
theorem kd_X11_133 {C : qCx} {w : qWp} {cc : ByteArray} {nL dp n0 n1 pc : Nat} (h : qOk C w RX11 cc nL dp n0 n1) (d : decode cc pc = .ok (.invokevirtual 133, 3)) : qCallOk C w nL dp n0 n1 pc 2 1 yX5_takeText (.code yX5_takeText cX5_takeText 3 (some .int)) := kindV h d ml_X11_133 im_X5_takeText se_X5_takeText in_ParentEve_Policy co_X5_takeText yk_X5_takeText (by decide)
theorem im_X10_keepDraft : Jvm.Cond.instanceMethod yX10_keepDraft ∈ qTw := qm3 (List.mem_of_getElem? (i := 178) (by decide +kernel)) (by decide +kernel)
theorem se_X10_keepDraft : Jvm.Cond.selects yX10_keepDraft.cls yX10_keepDraft yX10_keepDraft ∈ qTw := qm3 (List.mem_of_getElem? (i := 179) (by decide +kernel)) (by decide +kernel)
theorem co_X10_keepDraft : Jvm.Cond.code yX10_keepDraft cX10_keepDraft 4 none ∈ qTw := qm3 (List.mem_of_getElem? (i := 180) (by decide +kernel)) (by decide +kernel)
theorem yk_X10_keepDraft : qYk yX10_keepDraft 2 := ⟨⟨by decide +kernel, by decide +kernel⟩, by decide +kernel⟩
theorem ml_X11_136 : Jvm.Cond.methodLink RX11 136 yX10_keepDraft ∈ qTw := qm3 (List.mem_of_getElem? (i := 177) (by decide +kernel)) (by decide +kernel)
theorem kd_X11_136 {C : qCx} {w : qWp} {cc : ByteArray} {nL dp n0 n1 pc : Nat} (h : qOk C w RX11 cc nL dp n0 n1) (d : decode cc pc = .ok (.invokevirtual 136, 3)) : qCallOk C w nL dp n0 n1 pc 3 1 yX10_keepDraft (.code yX10_keepDraft cX10_keepDraft 4 none) := kindV h d ml_X11_136 im_X10_keepDraft se_X10_keepDraft in_ParentEve_Ways co_X10_keepDraft yk_X10_keepDraft (by decide)
theorem dX11_policy_0 : decode cX11_policy 0 = .ok (.iload_n 1, 1) := by decide +kernel
theorem dX11_policy_1 : decode cX11_policy 1 = .ok (.invokestatic 125, 3) := by decide +kernel
theorem dX11_policy_4 : decode cX11_policy 4 = .ok (.ifCond .eq 8, 3) := by decide +kernel
theorem dX11_policy_7 : decode cX11_policy 7 = .ok (.bipush (-4), 2) := by decide +kernel
theorem dX11_policy_9 : decode cX11_policy 9 = .ok (.goto 5, 3) := by decide +kernel
theorem dX11_policy_12 : decode cX11_policy 12 = .ok (.bipush (-2), 2) := by decide +kernel
theorem dX11_policy_14 : decode cX11_policy 14 = .ok (.istore_n 2, 1) := by decide +kernel
theorem dX11_policy_15 : decode cX11_policy 15 = .ok (.iload_n 2, 1) := by decide +kernel
theorem dX11_policy_16 : decode cX11_policy 16 = .ok (.bipush (-4), 2) := by decide +kernel
theorem dX11_policy_18 : decode cX11_policy 18 = .ok (.if_icmp .ne 43, 3) := by decide +kernel
theorem dX11_policy_21 : decode cX11_policy 21 = .ok (.aload_n 0, 1) := by decide +kernel
theorem dX11_policy_22 : decode cX11_policy 22 = .ok (.getfield 91, 3) := by decide +kernel
theorem dX11_policy_25 : decode cX11_policy 25 = .ok (.ifCond .ne 36, 3) := by decide +kernel
theorem dX11_policy_28 : decode cX11_policy 28 = .ok (.aload_n 0, 1) := by decide +kernel
theorem dX11_policy_29 : decode cX11_policy 29 = .ok (.getfield 35, 3) := by decide +kernel
theorem dX11_policy_32 : decode cX11_policy 32 = .ok (.invokevirtual 129, 3) := by decide +kernel
theorem dX11_policy_35 : decode cX11_policy 35 = .ok (.aload_n 0, 1) := by decide +kernel
theorem dX11_policy_36 : decode cX11_policy 36 = .ok (.getfield 21, 3) := by decide +kernel
theorem dX11_policy_39 : decode cX11_policy 39 = .ok (.invokevirtual 133, 3) := by decide +kernel
theorem dX11_policy_42 : decode cX11_policy 42 = .ok (.istore_n 2, 1) := by decide +kernel
theorem dX11_policy_43 : decode cX11_policy 43 = .ok (.aload_n 0, 1) := by decide +kernel
theorem dX11_policy_44 : decode cX11_policy 44 = .ok (.getfield 35, 3) := by decide +kernel
theorem dX11_policy_47 : decode cX11_policy 47 = .ok (.iload_n 1, 1) := by decide +kernel
theorem dX11_policy_48 : decode cX11_policy 48 = .ok (.iload_n 2, 1) := by decide +kernel
theorem dX11_policy_49 : decode cX11_policy 49 = .ok (.iconst (-1), 1) := by decide +kernel
theorem dX11_policy_50 : decode cX11_policy 50 = .ok (.if_icmp .eq 7, 3) := by decide +kernel
theorem dX11_policy_53 : decode cX11_policy 53 = .ok (.iconst 1, 1) := by decide +kernel
theorem dX11_policy_54 : decode cX11_policy 54 = .ok (.goto 4, 3) := by decide +kernel
theorem dX11_policy_57 : decode cX11_policy 57 = .ok (.iconst 0, 1) := by decide +kernel
theorem dX11_policy_58 : decode cX11_policy 58 = .ok (.invokevirtual 136, 3) := by decide +kernel
theorem dX11_policy_61 : decode cX11_policy 61 = .ok (.aload_n 0, 1) := by decide +kernel
theorem dX11_policy_62 : decode cX11_policy 62 = .ok (.getfield 12, 3) := by decide +kernel
theorem dX11_policy_65 : decode cX11_policy 65 = .ok (.iconst 0, 1) := by decide +kernel
theorem dX11_policy_66 : decode cX11_policy 66 = .ok (.invokevirtual 107, 3) := by decide +kernel
theorem dX11_policy_69 : decode cX11_policy 69 = .ok (.iload_n 2, 1) := by decide +kernel
theorem dX11_policy_70 : decode cX11_policy 70 = .ok (.ireturn, 1) := by decide +kernel
noncomputable def tX11_policy_30 : qT (Int32 × qM) :=
  oLa 0 (oGf 0 0 1 (oC (.int (0 : Int32)) (oCv GX8_cut 2 (oLi 2 (eI)))))
noncomputable def wX11_policy_30 (k : Int32 → qM → Option (Int32 × qM)) : qT (Int32 × qM) := fun lo st m => match lo, st with
  | [some (.ref 0), _, some (.int a2)], [] => k a2 m
  | _, _ => none
set_option maxRecDepth 20000 in
theorem sX11_policy_30 {C : qCx} {w : qWp} (h : qOk C w RX11 cX11_policy 3 10 155 155) (hm : qMt C (some .int)) (hx : qNx C) : qSnd C w 3 155 (qQf C w 155 155 jI) qfin 155 61 (tX11_policy_30) :=
  cLa (pc := 61) h dX11_policy_61 rfl (gGf (pc := 62) h dX11_policy_62 ff_X11_12_0 (Nat.le_of_ble_eq_true rfl) (Nat.le_of_ble_eq_true rfl) rfl (cC (pc := 65) h dX11_policy_65 rfl (kCv (pc := 66) h (kd_X11_107 h dX11_policy_66) spX8_cut (by decide) (by decide) (by decide) (by decide) (cLi (pc := 69) h dX11_policy_69 rfl (zI (pc := 70) h hm (Nat.le_refl _) dX11_policy_70)))))
set_option maxRecDepth 20000 in
theorem lX11_policy_30 (a2 : Int32) (m : qM) : tX11_policy_30 [some (.ref 0), none, some (.int a2)] [] m = fX11_policy_30 a2 m := rfl
theorem bX11_policy_30 {C : qCx} {w : qWp} (h : qOk C w RX11 cX11_policy 3 10 155 155) (hm : qMt C (some .int)) (hx : qNx C) : qSnd C w 3 155 (qQf C w 155 155 jI) qfin 155 61 (wX11_policy_30 fX11_policy_30) :=
  qSnd_of (fun lo st m x hr0 => by
    unfold wX11_policy_30 at hr0
    split at hr0
    · exact ⟨_, (qsub_e (qsub_n (qsub_e qsub_nil))), (lX11_policy_30 _ _).trans hr0⟩
    · cases hr0) (sX11_policy_30 h hm hx)
noncomputable def tX11_policy_29 (j30 : qT (Int32 × qM)) : qT (Int32 × qM) :=
  oCv GX10_keepDraft 3 (j30)
noncomputable def wX11_policy_29 (k : Int32 → Int32 → Int32 → qM → Option (Int32 × qM)) : qT (Int32 × qM) := fun lo st m => match lo, st with
  | [some (.ref 0), _, some (.int a2)], [.int s0, .int s1, .ref 7] => k a2 s0 s1 m
  | _, _ => none
set_option maxRecDepth 20000 in
theorem sX11_policy_29 {C : qCx} {w : qWp} (h : qOk C w RX11 cX11_policy 3 10 155 155) (hm : qMt C (some .int)) (hx : qNx C) {j30 : qT (Int32 × qM)} (k30 : qSnd C w 3 155 (qQf C w 155 155 jI) qfin 155 61 j30) : qSnd C w 3 155 (qQf C w 155 155 jI) qfin 155 58 (tX11_policy_29 j30) :=
  kCv (pc := 58) h (kd_X11_136 h dX11_policy_58) spX10_keepDraft (by decide) (by decide) (by decide) (by decide) (k30)
set_option maxRecDepth 20000 in
theorem lX11_policy_29 (a2 : Int32) (s0 : Int32) (s1 : Int32) (m : qM) : tX11_policy_29 (wX11_policy_30 fX11_policy_30) [some (.ref 0), none, some (.int a2)] [(.int s0), (.int s1), (.ref 7)] m = fX11_policy_29 a2 s0 s1 m := rfl
theorem bX11_policy_29 {C : qCx} {w : qWp} (h : qOk C w RX11 cX11_policy 3 10 155 155) (hm : qMt C (some .int)) (hx : qNx C) : qSnd C w 3 155 (qQf C w 155 155 jI) qfin 155 58 (wX11_policy_29 fX11_policy_29) :=
  qSnd_of (fun lo st m x hr0 => by
    unfold wX11_policy_29 at hr0
    split at hr0
    · exact ⟨_, (qsub_e (qsub_n (qsub_e qsub_nil))), (lX11_policy_29 _ _ _ _).trans hr0⟩
    · cases hr0) (sX11_policy_29 h hm hx (bX11_policy_30 h hm hx))
noncomputable def tX11_policy_6 (j30 : qT (Int32 × qM)) (j29 : qT (Int32 × qM)) : qT (Int32 × qM) :=
  oSi 2 (oLi 2 (oC (.int (-4 : Int32)) (oCEq (oLa 0 (oGi 0 10 (oEq (oLa 0 (oGf 0 3 7 (oCr GX10_draft 1 (oLa 0 (oGf 0 1 3 (oCi GX5_takeText 2 (oSi 2 (oLa 0 (oGf 0 3 7 (oLi 1 (oLi 2 (oC (.int (-1 : Int32)) (oCEq (oC (.int (0 : Int32)) (j29)) (oC (.int (1 : Int32)) (j29))))))))))))))) (j30)))) (j30))))
noncomputable def wX11_policy_6 (k : Int32 → Int32 → qM → Option (Int32 × qM)) : qT (Int32 × qM) := fun lo st m => match lo, st with
  | [some (.ref 0), some (.int a1), _], [.int s0] => k a1 s0 m
  | _, _ => none
set_option maxRecDepth 20000 in
theorem sX11_policy_6 {C : qCx} {w : qWp} (h : qOk C w RX11 cX11_policy 3 10 155 155) (hm : qMt C (some .int)) (hx : qNx C) {j30 : qT (Int32 × qM)} {j29 : qT (Int32 × qM)} (k30 : qSnd C w 3 155 (qQf C w 155 155 jI) qfin 155 61 j30) (k29 : qSnd C w 3 155 (qQf C w 155 155 jI) qfin 155 58 j29) : qSnd C w 3 155 (qQf C w 155 155 jI) qfin 155 14 (tX11_policy_6 j30 j29) :=
  cSi (pc := 14) h dX11_policy_14 rfl (cLi (pc := 15) h dX11_policy_15 rfl (cB (pc := 16) h dX11_policy_16 rfl (jCNe (pc := 18) h dX11_policy_18 rfl (k30) (cLa (pc := 21) h dX11_policy_21 rfl (gGz (pc := 22) h dX11_policy_22 ff_X11_91_0 (Nat.le_of_ble_eq_true rfl) (Nat.le_of_ble_eq_true rfl) (jNe (pc := 25) h dX11_policy_25 rfl (k30) (cLa (pc := 28) h dX11_policy_28 rfl (gGf (pc := 29) h dX11_policy_29 ff_X11_35_0 (Nat.le_of_ble_eq_true rfl) (Nat.le_of_ble_eq_true rfl) rfl (kCr (pc := 32) h (kd_X11_129 h dX11_policy_32) spX10_draft (by decide) (by decide) (by decide) (by decide) (cLa (pc := 35) h dX11_policy_35 rfl (gGf (pc := 36) h dX11_policy_36 ff_X11_21_0 (Nat.le_of_ble_eq_true rfl) (Nat.le_of_ble_eq_true rfl) rfl (kCi (pc := 39) h (kd_X11_133 h dX11_policy_39) spX5_takeText (by decide) (by decide) (by decide) (by decide) (cSi (pc := 42) h dX11_policy_42 rfl (cLa (pc := 43) h dX11_policy_43 rfl (gGf (pc := 44) h dX11_policy_44 ff_X11_35_0 (Nat.le_of_ble_eq_true rfl) (Nat.le_of_ble_eq_true rfl) rfl (cLi (pc := 47) h dX11_policy_47 rfl (cLi (pc := 48) h dX11_policy_48 rfl (cC (pc := 49) h dX11_policy_49 rfl (jCEq (pc := 50) h dX11_policy_50 rfl (cC (pc := 57) h dX11_policy_57 rfl (k29)) (cC (pc := 53) h dX11_policy_53 rfl (jGo (pc := 54) h dX11_policy_54 rfl (k29))))))))))))))))))))))
set_option maxRecDepth 20000 in
theorem lX11_policy_6 (a1 : Int32) (s0 : Int32) (m : qM) : tX11_policy_6 (wX11_policy_30 fX11_policy_30) (wX11_policy_29 fX11_policy_29) [some (.ref 0), some (.int a1), none] [(.int s0)] m = fX11_policy_6 a1 s0 m := rfl
theorem bX11_policy_6 {C : qCx} {w : qWp} (h : qOk C w RX11 cX11_policy 3 10 155 155) (hm : qMt C (some .int)) (hx : qNx C) : qSnd C w 3 155 (qQf C w 155 155 jI) qfin 155 14 (wX11_policy_6 fX11_policy_6) :=
  qSnd_of (fun lo st m x hr0 => by
    unfold wX11_policy_6 at hr0
    split at hr0
    · exact ⟨_, (qsub_e (qsub_e (qsub_n qsub_nil))), (lX11_policy_6 _ _ _).trans hr0⟩
    · cases hr0) (sX11_policy_6 h hm hx (bX11_policy_30 h hm hx) (bX11_policy_29 h hm hx))
noncomputable def tX11_policy_0 (j6 : qT (Int32 × qM)) : qT (Int32 × qM) :=
  oLi 1 (oCi GX11_isPolicy 1 (oEq (oC (.int (-2 : Int32)) (j6)) (oC (.int (-4 : Int32)) (j6))))
set_option maxRecDepth 20000 in
theorem sX11_policy_0 {C : qCx} {w : qWp} (h : qOk C w RX11 cX11_policy 3 10 155 155) (hm : qMt C (some .int)) (hx : qNx C) {j6 : qT (Int32 × qM)} (k6 : qSnd C w 3 155 (qQf C w 155 155 jI) qfin 155 14 j6) : qSnd C w 3 155 (qQf C w 155 155 jI) qfin 155 0 (tX11_policy_0 j6) :=
  cLi (pc := 0) h dX11_policy_0 rfl (kCi (pc := 1) h (kd_X11_125 h dX11_policy_1) spX11_isPolicy (by decide) (by decide) (by decide) (by decide) (jEq (pc := 4) h dX11_policy_4 rfl (cB (pc := 12) h dX11_policy_12 rfl (k6)) (cB (pc := 7) h dX11_policy_7 rfl (jGo (pc := 9) h dX11_policy_9 rfl (k6)))))
set_option maxRecDepth 20000 in
theorem lX11_policy_0 (a1 : Int32) (m : qM) : tX11_policy_0 (wX11_policy_6 fX11_policy_6) [some (.ref 0), some (.int a1), none] [] m = fX11_policy_0 a1 m := rfl
noncomputable def GX11_policy : qG Int32 := fun av m => match av with
  | [.ref 0, .int a1] => fX11_policy a1 m
  | _ => none
theorem spX11_policy : qSpI yX11_policy (.code yX11_policy cX11_policy 3 (some .int)) 10 qfin 155 155 1 GX11_policy := by
  intro av m x m' hG
  unfold GX11_policy at hG
  split at hG
  · rename_i a1
    rw [fX11_policy_d] at hG
    exact ⟨qmeet (J := jI) (r := (x, m')) (av := [.ref 0, .int a1]) (by decide +kernel) (Nat.le_of_ble_eq_true rfl) (fun C w h hm hx hn => sX11_policy_0 h hm hx (bX11_policy_6 h hm hx)) ((lX11_policy_0 _ _).trans hG) (Nat.le_of_ble_eq_true rfl), Or.inl ⟨0, _, 11, _, _, rfl, by decide, rfl, qCk_11, rfl⟩⟩
  · cases hG
theorem dX11_isTeacher_0 : decode cX11_isTeacher 0 = .ok (.iload_n 0, 1) := by decide +kernel
theorem dX11_isTeacher_1 : decode cX11_isTeacher 1 = .ok (.iconst 0, 1) := by decide +kernel
theorem dX11_isTeacher_2 : decode cX11_isTeacher 2 = .ok (.bipush 9, 2) := by decide +kernel
theorem dX11_isTeacher_4 : decode cX11_isTeacher 4 = .ok (.invokestatic 103, 3) := by decide +kernel
theorem dX11_isTeacher_7 : decode cX11_isTeacher 7 = .ok (.ireturn, 1) := by decide +kernel
noncomputable def tX11_isTeacher_0 : qT (Int32 × qM) :=
  oLi 0 (oC (.int (0 : Int32)) (oC (.int (9 : Int32)) (oCi GX11_within 3 (eZ))))
set_option maxRecDepth 20000 in
theorem sX11_isTeacher_0 {C : qCx} {w : qWp} (h : qOk C w RX11 cX11_isTeacher 1 1 155 155) (hm : qMt C (some .boolean)) (hx : qNx C) : qSnd C w 1 155 (qQf C w 155 155 jI) qfin 155 0 (tX11_isTeacher_0) :=
  cLi (pc := 0) h dX11_isTeacher_0 rfl (cC (pc := 1) h dX11_isTeacher_1 rfl (cB (pc := 2) h dX11_isTeacher_2 rfl (kCi (pc := 4) h (kd_X11_103 h dX11_isTeacher_4) spX11_within (by decide) (by decide) (by decide) (by decide) (zZ (pc := 7) h hm (Nat.le_refl _) dX11_isTeacher_7))))
set_option maxRecDepth 20000 in
theorem lX11_isTeacher_0 (a0 : Int32) (m : qM) : tX11_isTeacher_0 [some (.int a0)] [] m = fX11_isTeacher_0 a0 m := rfl
noncomputable def GX11_isTeacher : qG Int32 := fun av m => match av with
  | [.int a0] => fX11_isTeacher a0 m
  | _ => none
theorem spX11_isTeacher : qSpI yX11_isTeacher (.code yX11_isTeacher cX11_isTeacher 1 (some .boolean)) 1 qfin 155 155 0 GX11_isTeacher := by
  intro av m x m' hG
  unfold GX11_isTeacher at hG
  split at hG
  · rename_i a0
    rw [fX11_isTeacher_d] at hG
    exact ⟨qmeet (J := jI) (r := (x, m')) (av := [.int a0]) (by decide +kernel) (Nat.le_of_ble_eq_true rfl) (fun C w h hm hx hn => sX11_isTeacher_0 h hm hx) ((lX11_isTeacher_0 _ _).trans hG) (Nat.le_of_ble_eq_true rfl), trivial⟩
  · cases hG
theorem im_X11_isTeacher : Jvm.Cond.static yX11_isTeacher ∈ qTw := qm3 (List.mem_of_getElem? (i := 187) (by decide +kernel)) (by decide +kernel)
theorem co_X11_isTeacher : Jvm.Cond.code yX11_isTeacher cX11_isTeacher 1 (some .boolean) ∈ qTw := qm3 (List.mem_of_getElem? (i := 188) (by decide +kernel)) (by decide +kernel)
theorem yk_X11_isTeacher : qYk yX11_isTeacher 1 := ⟨⟨by decide +kernel, by decide +kernel⟩, by decide +kernel⟩
theorem ml_X11_140 : Jvm.Cond.methodLink RX11 140 yX11_isTeacher ∈ qTw := qm3 (List.mem_of_getElem? (i := 186) (by decide +kernel)) (by decide +kernel)
theorem kd_X11_140 {C : qCx} {w : qWp} {cc : ByteArray} {nL dp n0 n1 pc : Nat} (h : qOk C w RX11 cc nL dp n0 n1) (d : decode cc pc = .ok (.invokestatic 140, 3)) : qCallOk C w nL dp n0 n1 pc 1 0 yX11_isTeacher (.code yX11_isTeacher cX11_isTeacher 1 (some .boolean)) := kindS h d ml_X11_140 im_X11_isTeacher in_ParentEve co_X11_isTeacher yk_X11_isTeacher (by decide)
theorem im_X1_forget : Jvm.Cond.instanceMethod yX1_forget ∈ qTw := qm3 (List.mem_of_getElem? (i := 190) (by decide +kernel)) (by decide +kernel)
theorem se_X1_forget : Jvm.Cond.selects yX1_forget.cls yX1_forget yX1_forget ∈ qTw := qm3 (List.mem_of_getElem? (i := 191) (by decide +kernel)) (by decide +kernel)
theorem co_X1_forget : Jvm.Cond.code yX1_forget cX1_forget 2 none ∈ qTw := qm3 (List.mem_of_getElem? (i := 192) (by decide +kernel)) (by decide +kernel)
theorem yk_X1_forget : qYk yX1_forget 0 := ⟨⟨by decide +kernel, by decide +kernel⟩, by decide +kernel⟩
theorem ml_X11_143 : Jvm.Cond.methodLink RX11 143 yX1_forget ∈ qTw := qm3 (List.mem_of_getElem? (i := 189) (by decide +kernel)) (by decide +kernel)
theorem kd_X11_143 {C : qCx} {w : qWp} {cc : ByteArray} {nL dp n0 n1 pc : Nat} (h : qOk C w RX11 cc nL dp n0 n1) (d : decode cc pc = .ok (.invokevirtual 143, 3)) : qCallOk C w nL dp n0 n1 pc 1 1 yX1_forget (.code yX1_forget cX1_forget 2 none) := kindV h d ml_X11_143 im_X1_forget se_X1_forget in_ParentEve_Evening co_X1_forget yk_X1_forget (by decide)
theorem im_X10_setFollowed : Jvm.Cond.instanceMethod yX10_setFollowed ∈ qTw := qm3 (List.mem_of_getElem? (i := 194) (by decide +kernel)) (by decide +kernel)
theorem se_X10_setFollowed : Jvm.Cond.selects yX10_setFollowed.cls yX10_setFollowed yX10_setFollowed ∈ qTw := qm3 (List.mem_of_getElem? (i := 195) (by decide +kernel)) (by decide +kernel)
theorem co_X10_setFollowed : Jvm.Cond.code yX10_setFollowed cX10_setFollowed 4 (some .int) ∈ qTw := qm3 (List.mem_of_getElem? (i := 196) (by decide +kernel)) (by decide +kernel)
theorem yk_X10_setFollowed : qYk yX10_setFollowed 2 := ⟨⟨by decide +kernel, by decide +kernel⟩, by decide +kernel⟩
theorem ml_X11_146 : Jvm.Cond.methodLink RX11 146 yX10_setFollowed ∈ qTw := qm3 (List.mem_of_getElem? (i := 193) (by decide +kernel)) (by decide +kernel)
theorem kd_X11_146 {C : qCx} {w : qWp} {cc : ByteArray} {nL dp n0 n1 pc : Nat} (h : qOk C w RX11 cc nL dp n0 n1) (d : decode cc pc = .ok (.invokevirtual 146, 3)) : qCallOk C w nL dp n0 n1 pc 3 1 yX10_setFollowed (.code yX10_setFollowed cX10_setFollowed 4 (some .int)) := kindV h d ml_X11_146 im_X10_setFollowed se_X10_setFollowed in_ParentEve_Ways co_X10_setFollowed yk_X10_setFollowed (by decide)
theorem dX11_follow_0 : decode cX11_follow 0 = .ok (.iload_n 1, 1) := by decide +kernel
theorem dX11_follow_1 : decode cX11_follow 1 = .ok (.invokestatic 140, 3) := by decide +kernel
theorem dX11_follow_4 : decode cX11_follow 4 = .ok (.ifCond .eq 15, 3) := by decide +kernel
theorem dX11_follow_7 : decode cX11_follow 7 = .ok (.iload_n 2, 1) := by decide +kernel
theorem dX11_follow_8 : decode cX11_follow 8 = .ok (.iconst (-1), 1) := by decide +kernel
theorem dX11_follow_9 : decode cX11_follow 9 = .ok (.if_icmp .eq 13, 3) := by decide +kernel
theorem dX11_follow_12 : decode cX11_follow 12 = .ok (.iload_n 2, 1) := by decide +kernel
theorem dX11_follow_13 : decode cX11_follow 13 = .ok (.invokestatic 125, 3) := by decide +kernel
theorem dX11_follow_16 : decode cX11_follow 16 = .ok (.ifCond .ne 6, 3) := by decide +kernel
theorem dX11_follow_19 : decode cX11_follow 19 = .ok (.bipush (-2), 2) := by decide +kernel
theorem dX11_follow_21 : decode cX11_follow 21 = .ok (.ireturn, 1) := by decide +kernel
theorem dX11_follow_22 : decode cX11_follow 22 = .ok (.aload_n 0, 1) := by decide +kernel
theorem dX11_follow_23 : decode cX11_follow 23 = .ok (.getfield 78, 3) := by decide +kernel
theorem dX11_follow_26 : decode cX11_follow 26 = .ok (.invokevirtual 143, 3) := by decide +kernel
theorem dX11_follow_29 : decode cX11_follow 29 = .ok (.aload_n 0, 1) := by decide +kernel
theorem dX11_follow_30 : decode cX11_follow 30 = .ok (.getfield 35, 3) := by decide +kernel
theorem dX11_follow_33 : decode cX11_follow 33 = .ok (.iload_n 1, 1) := by decide +kernel
theorem dX11_follow_34 : decode cX11_follow 34 = .ok (.iload_n 2, 1) := by decide +kernel
theorem dX11_follow_35 : decode cX11_follow 35 = .ok (.invokevirtual 146, 3) := by decide +kernel
theorem dX11_follow_38 : decode cX11_follow 38 = .ok (.ireturn, 1) := by decide +kernel
noncomputable def tX11_follow_9 : qT (Int32 × qM) :=
  oC (.int (-2 : Int32)) (eI)
noncomputable def wX11_follow_9 (k : qM → Option (Int32 × qM)) : qT (Int32 × qM) := fun lo st m => match lo, st with
  | [_, _, _], [] => k m
  | _, _ => none
set_option maxRecDepth 20000 in
theorem sX11_follow_9 {C : qCx} {w : qWp} (h : qOk C w RX11 cX11_follow 3 2 155 155) (hm : qMt C (some .int)) (hx : qNx C) : qSnd C w 3 155 (qQf C w 155 155 jI) qfin 155 19 (tX11_follow_9) :=
  cB (pc := 19) h dX11_follow_19 rfl (zI (pc := 21) h hm (Nat.le_refl _) dX11_follow_21)
set_option maxRecDepth 20000 in
theorem lX11_follow_9 (m : qM) : tX11_follow_9 [none, none, none] [] m = fX11_follow_9 m := rfl
theorem bX11_follow_9 {C : qCx} {w : qWp} (h : qOk C w RX11 cX11_follow 3 2 155 155) (hm : qMt C (some .int)) (hx : qNx C) : qSnd C w 3 155 (qQf C w 155 155 jI) qfin 155 19 (wX11_follow_9 fX11_follow_9) :=
  qSnd_of (fun lo st m x hr0 => by
    unfold wX11_follow_9 at hr0
    split at hr0
    · exact ⟨_, (qsub_n (qsub_n (qsub_n qsub_nil))), (lX11_follow_9 _).trans hr0⟩
    · cases hr0) (sX11_follow_9 h hm hx)
noncomputable def tX11_follow_11 : qT (Int32 × qM) :=
  oLa 0 (oGf 0 8 80 (oCv GX1_forget 1 (oLa 0 (oGf 0 3 7 (oLi 1 (oLi 2 (oCi GX10_setFollowed 3 (eI))))))))
noncomputable def wX11_follow_11 (k : Int32 → Int32 → qM → Option (Int32 × qM)) : qT (Int32 × qM) := fun lo st m => match lo, st with
  | [some (.ref 0), some (.int a1), some (.int a2)], [] => k a1 a2 m
  | _, _ => none
set_option maxRecDepth 20000 in
theorem sX11_follow_11 {C : qCx} {w : qWp} (h : qOk C w RX11 cX11_follow 3 2 155 155) (hm : qMt C (some .int)) (hx : qNx C) : qSnd C w 3 155 (qQf C w 155 155 jI) qfin 155 22 (tX11_follow_11) :=
  cLa (pc := 22) h dX11_follow_22 rfl (gGf (pc := 23) h dX11_follow_23 ff_X11_78_0 (Nat.le_of_ble_eq_true rfl) (Nat.le_of_ble_eq_true rfl) rfl (kCv (pc := 26) h (kd_X11_143 h dX11_follow_26) spX1_forget (by decide) (by decide) (by decide) (by decide) (cLa (pc := 29) h dX11_follow_29 rfl (gGf (pc := 30) h dX11_follow_30 ff_X11_35_0 (Nat.le_of_ble_eq_true rfl) (Nat.le_of_ble_eq_true rfl) rfl (cLi (pc := 33) h dX11_follow_33 rfl (cLi (pc := 34) h dX11_follow_34 rfl (kCi (pc := 35) h (kd_X11_146 h dX11_follow_35) spX10_setFollowed (by decide) (by decide) (by decide) (by decide) (zI (pc := 38) h hm (Nat.le_refl _) dX11_follow_38))))))))
set_option maxRecDepth 20000 in
theorem lX11_follow_11 (a1 : Int32) (a2 : Int32) (m : qM) : tX11_follow_11 [some (.ref 0), some (.int a1), some (.int a2)] [] m = fX11_follow_11 a1 a2 m := rfl
theorem bX11_follow_11 {C : qCx} {w : qWp} (h : qOk C w RX11 cX11_follow 3 2 155 155) (hm : qMt C (some .int)) (hx : qNx C) : qSnd C w 3 155 (qQf C w 155 155 jI) qfin 155 22 (wX11_follow_11 fX11_follow_11) :=
  qSnd_of (fun lo st m x hr0 => by
    unfold wX11_follow_11 at hr0
    split at hr0
    · exact ⟨_, (qsub_e (qsub_e (qsub_e qsub_nil))), (lX11_follow_11 _ _ _).trans hr0⟩
    · cases hr0) (sX11_follow_11 h hm hx)
noncomputable def tX11_follow_0 (j9 : qT (Int32 × qM)) (j11 : qT (Int32 × qM)) : qT (Int32 × qM) :=
  oLi 1 (oCi GX11_isTeacher 1 (oEq (j9) (oLi 2 (oC (.int (-1 : Int32)) (oCEq (j11) (oLi 2 (oCi GX11_isPolicy 1 (oEq (j9) (j11)))))))))
set_option maxRecDepth 20000 in
theorem sX11_follow_0 {C : qCx} {w : qWp} (h : qOk C w RX11 cX11_follow 3 2 155 155) (hm : qMt C (some .int)) (hx : qNx C) {j9 : qT (Int32 × qM)} {j11 : qT (Int32 × qM)} (k9 : qSnd C w 3 155 (qQf C w 155 155 jI) qfin 155 19 j9) (k11 : qSnd C w 3 155 (qQf C w 155 155 jI) qfin 155 22 j11) : qSnd C w 3 155 (qQf C w 155 155 jI) qfin 155 0 (tX11_follow_0 j9 j11) :=
  cLi (pc := 0) h dX11_follow_0 rfl (kCi (pc := 1) h (kd_X11_140 h dX11_follow_1) spX11_isTeacher (by decide) (by decide) (by decide) (by decide) (jEq (pc := 4) h dX11_follow_4 rfl (k9) (cLi (pc := 7) h dX11_follow_7 rfl (cC (pc := 8) h dX11_follow_8 rfl (jCEq (pc := 9) h dX11_follow_9 rfl (k11) (cLi (pc := 12) h dX11_follow_12 rfl (kCi (pc := 13) h (kd_X11_125 h dX11_follow_13) spX11_isPolicy (by decide) (by decide) (by decide) (by decide) (jNe (pc := 16) h dX11_follow_16 rfl (k11) (k9)))))))))
set_option maxRecDepth 20000 in
theorem lX11_follow_0 (a1 : Int32) (a2 : Int32) (m : qM) : tX11_follow_0 (wX11_follow_9 fX11_follow_9) (wX11_follow_11 fX11_follow_11) [some (.ref 0), some (.int a1), some (.int a2)] [] m = fX11_follow_0 a1 a2 m := rfl
noncomputable def GX11_follow : qG Int32 := fun av m => match av with
  | [.ref 0, .int a1, .int a2] => fX11_follow a1 a2 m
  | _ => none
theorem spX11_follow : qSpI yX11_follow (.code yX11_follow cX11_follow 3 (some .int)) 2 qfin 155 155 1 GX11_follow := by
  intro av m x m' hG
  unfold GX11_follow at hG
  split at hG
  · rename_i a1 a2
    rw [fX11_follow_d] at hG
    exact ⟨qmeet (J := jI) (r := (x, m')) (av := [.ref 0, .int a1, .int a2]) (by decide +kernel) (Nat.le_of_ble_eq_true rfl) (fun C w h hm hx hn => sX11_follow_0 h hm hx (bX11_follow_9 h hm hx) (bX11_follow_11 h hm hx)) ((lX11_follow_0 _ _ _).trans hG) (Nat.le_of_ble_eq_true rfl), Or.inl ⟨0, _, 11, _, _, rfl, by decide, rfl, qCk_11, rfl⟩⟩
  · cases hG
theorem im_X6_faultPlace : Jvm.Cond.instanceMethod yX6_faultPlace ∈ qTw := qm3 (List.mem_of_getElem? (i := 206) (by decide +kernel)) (by decide +kernel)
theorem se_X6_faultPlace : Jvm.Cond.selects yX6_faultPlace.cls yX6_faultPlace yX6_faultPlace ∈ qTw := qm3 (List.mem_of_getElem? (i := 207) (by decide +kernel)) (by decide +kernel)
theorem co_X6_faultPlace : Jvm.Cond.code yX6_faultPlace cX6_faultPlace 1 (some .int) ∈ qTw := qm3 (List.mem_of_getElem? (i := 208) (by decide +kernel)) (by decide +kernel)
theorem yk_X6_faultPlace : qYk yX6_faultPlace 0 := ⟨⟨by decide +kernel, by decide +kernel⟩, by decide +kernel⟩
theorem ml_X11_153 : Jvm.Cond.methodLink RX11 153 yX6_faultPlace ∈ qTw := qm3 (List.mem_of_getElem? (i := 205) (by decide +kernel)) (by decide +kernel)
theorem kd_X11_153 {C : qCx} {w : qWp} {cc : ByteArray} {nL dp n0 n1 pc : Nat} (h : qOk C w RX11 cc nL dp n0 n1) (d : decode cc pc = .ok (.invokevirtual 153, 3)) : qCallOk C w nL dp n0 n1 pc 1 1 yX6_faultPlace (.code yX6_faultPlace cX6_faultPlace 1 (some .int)) := kindV h d ml_X11_153 im_X6_faultPlace se_X6_faultPlace in_ParentEve_Reader co_X6_faultPlace yk_X6_faultPlace (by decide)
theorem im_X6_faultKind : Jvm.Cond.instanceMethod yX6_faultKind ∈ qTw := qm3 (List.mem_of_getElem? (i := 202) (by decide +kernel)) (by decide +kernel)
theorem se_X6_faultKind : Jvm.Cond.selects yX6_faultKind.cls yX6_faultKind yX6_faultKind ∈ qTw := qm3 (List.mem_of_getElem? (i := 203) (by decide +kernel)) (by decide +kernel)
theorem co_X6_faultKind : Jvm.Cond.code yX6_faultKind cX6_faultKind 1 (some .int) ∈ qTw := qm3 (List.mem_of_getElem? (i := 204) (by decide +kernel)) (by decide +kernel)
theorem yk_X6_faultKind : qYk yX6_faultKind 0 := ⟨⟨by decide +kernel, by decide +kernel⟩, by decide +kernel⟩
theorem ml_X11_150 : Jvm.Cond.methodLink RX11 150 yX6_faultKind ∈ qTw := qm3 (List.mem_of_getElem? (i := 201) (by decide +kernel)) (by decide +kernel)
theorem kd_X11_150 {C : qCx} {w : qWp} {cc : ByteArray} {nL dp n0 n1 pc : Nat} (h : qOk C w RX11 cc nL dp n0 n1) (d : decode cc pc = .ok (.invokevirtual 150, 3)) : qCallOk C w nL dp n0 n1 pc 1 1 yX6_faultKind (.code yX6_faultKind cX6_faultKind 1 (some .int)) := kindV h d ml_X11_150 im_X6_faultKind se_X6_faultKind in_ParentEve_Reader co_X6_faultKind yk_X6_faultKind (by decide)
theorem dX11_fault_0 : decode cX11_fault 0 = .ok (.iload_n 1, 1) := by decide +kernel
theorem dX11_fault_1 : decode cX11_fault 1 = .ok (.ifCond .ne 11, 3) := by decide +kernel
theorem dX11_fault_4 : decode cX11_fault 4 = .ok (.aload_n 0, 1) := by decide +kernel
theorem dX11_fault_5 : decode cX11_fault 5 = .ok (.getfield 21, 3) := by decide +kernel
theorem dX11_fault_8 : decode cX11_fault 8 = .ok (.invokevirtual 150, 3) := by decide +kernel
theorem dX11_fault_11 : decode cX11_fault 11 = .ok (.ireturn, 1) := by decide +kernel
theorem dX11_fault_12 : decode cX11_fault 12 = .ok (.iload_n 1, 1) := by decide +kernel
theorem dX11_fault_13 : decode cX11_fault 13 = .ok (.iconst 1, 1) := by decide +kernel
theorem dX11_fault_14 : decode cX11_fault 14 = .ok (.if_icmp .ne 13, 3) := by decide +kernel
theorem dX11_fault_17 : decode cX11_fault 17 = .ok (.aload_n 0, 1) := by decide +kernel
theorem dX11_fault_18 : decode cX11_fault 18 = .ok (.getfield 21, 3) := by decide +kernel
theorem dX11_fault_21 : decode cX11_fault 21 = .ok (.invokevirtual 153, 3) := by decide +kernel
theorem dX11_fault_24 : decode cX11_fault 24 = .ok (.goto 4, 3) := by decide +kernel
theorem dX11_fault_27 : decode cX11_fault 27 = .ok (.iconst (-1), 1) := by decide +kernel
theorem dX11_fault_28 : decode cX11_fault 28 = .ok (.ireturn, 1) := by decide +kernel
noncomputable def tX11_fault_14 : qT (Int32 × qM) :=
  eI
noncomputable def wX11_fault_14 (k : Int32 → qM → Option (Int32 × qM)) : qT (Int32 × qM) := fun lo st m => match lo, st with
  | [_, _], [.int s0] => k s0 m
  | _, _ => none
set_option maxRecDepth 20000 in
theorem sX11_fault_14 {C : qCx} {w : qWp} (h : qOk C w RX11 cX11_fault 2 1 155 155) (hm : qMt C (some .int)) (hx : qNx C) : qSnd C w 2 155 (qQf C w 155 155 jI) qfin 155 28 (tX11_fault_14) :=
  zI (pc := 28) h hm (Nat.le_refl _) dX11_fault_28
set_option maxRecDepth 20000 in
theorem lX11_fault_14 (s0 : Int32) (m : qM) : tX11_fault_14 [none, none] [(.int s0)] m = fX11_fault_14 s0 m := rfl
theorem bX11_fault_14 {C : qCx} {w : qWp} (h : qOk C w RX11 cX11_fault 2 1 155 155) (hm : qMt C (some .int)) (hx : qNx C) : qSnd C w 2 155 (qQf C w 155 155 jI) qfin 155 28 (wX11_fault_14 fX11_fault_14) :=
  qSnd_of (fun lo st m x hr0 => by
    unfold wX11_fault_14 at hr0
    split at hr0
    · exact ⟨_, (qsub_n (qsub_n qsub_nil)), (lX11_fault_14 _ _).trans hr0⟩
    · cases hr0) (sX11_fault_14 h hm hx)
noncomputable def tX11_fault_0 (j14 : qT (Int32 × qM)) : qT (Int32 × qM) :=
  oLi 1 (oEq (oLa 0 (oGf 0 1 3 (oCi GX6_faultKind 1 (eI)))) (oLi 1 (oC (.int (1 : Int32)) (oCEq (oLa 0 (oGf 0 1 3 (oCi GX6_faultPlace 1 (j14)))) (oC (.int (-1 : Int32)) (j14))))))
set_option maxRecDepth 20000 in
theorem sX11_fault_0 {C : qCx} {w : qWp} (h : qOk C w RX11 cX11_fault 2 1 155 155) (hm : qMt C (some .int)) (hx : qNx C) {j14 : qT (Int32 × qM)} (k14 : qSnd C w 2 155 (qQf C w 155 155 jI) qfin 155 28 j14) : qSnd C w 2 155 (qQf C w 155 155 jI) qfin 155 0 (tX11_fault_0 j14) :=
  cLi (pc := 0) h dX11_fault_0 rfl (jNe (pc := 1) h dX11_fault_1 rfl (cLi (pc := 12) h dX11_fault_12 rfl (cC (pc := 13) h dX11_fault_13 rfl (jCNe (pc := 14) h dX11_fault_14 rfl (cC (pc := 27) h dX11_fault_27 rfl (k14)) (cLa (pc := 17) h dX11_fault_17 rfl (gGf (pc := 18) h dX11_fault_18 ff_X11_21_0 (Nat.le_of_ble_eq_true rfl) (Nat.le_of_ble_eq_true rfl) rfl (kCi (pc := 21) h (kd_X11_153 h dX11_fault_21) spX6_faultPlace (by decide) (by decide) (by decide) (by decide) (jGo (pc := 24) h dX11_fault_24 rfl (k14)))))))) (cLa (pc := 4) h dX11_fault_4 rfl (gGf (pc := 5) h dX11_fault_5 ff_X11_21_0 (Nat.le_of_ble_eq_true rfl) (Nat.le_of_ble_eq_true rfl) rfl (kCi (pc := 8) h (kd_X11_150 h dX11_fault_8) spX6_faultKind (by decide) (by decide) (by decide) (by decide) (zI (pc := 11) h hm (Nat.le_refl _) dX11_fault_11)))))
set_option maxRecDepth 20000 in
theorem lX11_fault_0 (a1 : Int32) (m : qM) : tX11_fault_0 (wX11_fault_14 fX11_fault_14) [some (.ref 0), some (.int a1)] [] m = fX11_fault_0 a1 m := rfl
noncomputable def GX11_fault : qG Int32 := fun av m => match av with
  | [.ref 0, .int a1] => fX11_fault a1 m
  | _ => none
theorem spX11_fault : qSpI yX11_fault (.code yX11_fault cX11_fault 2 (some .int)) 1 qfin 155 155 1 GX11_fault := by
  intro av m x m' hG
  unfold GX11_fault at hG
  split at hG
  · rename_i a1
    rw [fX11_fault_d] at hG
    exact ⟨qmeet (J := jI) (r := (x, m')) (av := [.ref 0, .int a1]) (by decide +kernel) (Nat.le_of_ble_eq_true rfl) (fun C w h hm hx hn => sX11_fault_0 h hm hx (bX11_fault_14 h hm hx)) ((lX11_fault_0 _ _).trans hG) (Nat.le_of_ble_eq_true rfl), Or.inl ⟨0, _, 11, _, _, rfl, by decide, rfl, qCk_11, rfl⟩⟩
  · cases hG
theorem im_X3_setRoom : Jvm.Cond.instanceMethod yX3_setRoom ∈ qTw := qm3 (List.mem_of_getElem? (i := 214) (by decide +kernel)) (by decide +kernel)
theorem se_X3_setRoom : Jvm.Cond.selects yX3_setRoom.cls yX3_setRoom yX3_setRoom ∈ qTw := qm3 (List.mem_of_getElem? (i := 215) (by decide +kernel)) (by decide +kernel)
theorem co_X3_setRoom : Jvm.Cond.code yX3_setRoom cX3_setRoom 4 none ∈ qTw := qm3 (List.mem_of_getElem? (i := 216) (by decide +kernel)) (by decide +kernel)
theorem yk_X3_setRoom : qYk yX3_setRoom 3 := ⟨⟨by decide +kernel, by decide +kernel⟩, by decide +kernel⟩
theorem ml_X11_156 : Jvm.Cond.methodLink RX11 156 yX3_setRoom ∈ qTw := qm3 (List.mem_of_getElem? (i := 213) (by decide +kernel)) (by decide +kernel)
theorem kd_X11_156 {C : qCx} {w : qWp} {cc : ByteArray} {nL dp n0 n1 pc : Nat} (h : qOk C w RX11 cc nL dp n0 n1) (d : decode cc pc = .ok (.invokevirtual 156, 3)) : qCallOk C w nL dp n0 n1 pc 4 1 yX3_setRoom (.code yX3_setRoom cX3_setRoom 4 none) := kindV h d ml_X11_156 im_X3_setRoom se_X3_setRoom in_ParentEve_People co_X3_setRoom yk_X3_setRoom (by decide)
theorem dX11_room_0 : decode cX11_room 0 = .ok (.iload_n 1, 1) := by decide +kernel
theorem dX11_room_1 : decode cX11_room 1 = .ok (.invokestatic 140, 3) := by decide +kernel
theorem dX11_room_4 : decode cX11_room 4 = .ok (.ifCond .eq 23, 3) := by decide +kernel
theorem dX11_room_7 : decode cX11_room 7 = .ok (.iload_n 2, 1) := by decide +kernel
theorem dX11_room_8 : decode cX11_room 8 = .ok (.iconst 0, 1) := by decide +kernel
theorem dX11_room_9 : decode cX11_room 9 = .ok (.bipush 9, 2) := by decide +kernel
theorem dX11_room_11 : decode cX11_room 11 = .ok (.invokestatic 103, 3) := by decide +kernel
theorem dX11_room_14 : decode cX11_room 14 = .ok (.ifCond .eq 13, 3) := by decide +kernel
theorem dX11_room_17 : decode cX11_room 17 = .ok (.iload_n 3, 1) := by decide +kernel
theorem dX11_room_18 : decode cX11_room 18 = .ok (.iconst 0, 1) := by decide +kernel
theorem dX11_room_19 : decode cX11_room 19 = .ok (.bipush 9, 2) := by decide +kernel
theorem dX11_room_21 : decode cX11_room 21 = .ok (.invokestatic 103, 3) := by decide +kernel
theorem dX11_room_24 : decode cX11_room 24 = .ok (.ifCond .ne 6, 3) := by decide +kernel
theorem dX11_room_27 : decode cX11_room 27 = .ok (.bipush (-2), 2) := by decide +kernel
theorem dX11_room_29 : decode cX11_room 29 = .ok (.ireturn, 1) := by decide +kernel
theorem dX11_room_30 : decode cX11_room 30 = .ok (.aload_n 0, 1) := by decide +kernel
theorem dX11_room_31 : decode cX11_room 31 = .ok (.invokevirtual 110, 3) := by decide +kernel
theorem dX11_room_34 : decode cX11_room 34 = .ok (.ifCond .eq 6, 3) := by decide +kernel
theorem dX11_room_37 : decode cX11_room 37 = .ok (.bipush (-4), 2) := by decide +kernel
theorem dX11_room_39 : decode cX11_room 39 = .ok (.ireturn, 1) := by decide +kernel
theorem dX11_room_40 : decode cX11_room 40 = .ok (.aload_n 0, 1) := by decide +kernel
theorem dX11_room_41 : decode cX11_room 41 = .ok (.getfield 44, 3) := by decide +kernel
theorem dX11_room_44 : decode cX11_room 44 = .ok (.iload_n 1, 1) := by decide +kernel
theorem dX11_room_45 : decode cX11_room 45 = .ok (.iload_n 2, 1) := by decide +kernel
theorem dX11_room_46 : decode cX11_room 46 = .ok (.iload_n 3, 1) := by decide +kernel
theorem dX11_room_47 : decode cX11_room 47 = .ok (.invokevirtual 156, 3) := by decide +kernel
theorem dX11_room_50 : decode cX11_room 50 = .ok (.iconst 1, 1) := by decide +kernel
theorem dX11_room_51 : decode cX11_room 51 = .ok (.ireturn, 1) := by decide +kernel
noncomputable def tX11_room_13 : qT (Int32 × qM) :=
  oC (.int (-2 : Int32)) (eI)
noncomputable def wX11_room_13 (k : qM → Option (Int32 × qM)) : qT (Int32 × qM) := fun lo st m => match lo, st with
  | [_, _, _, _], [] => k m
  | _, _ => none
set_option maxRecDepth 20000 in
theorem sX11_room_13 {C : qCx} {w : qWp} (h : qOk C w RX11 cX11_room 4 4 155 155) (hm : qMt C (some .int)) (hx : qNx C) : qSnd C w 4 155 (qQf C w 155 155 jI) qfin 155 27 (tX11_room_13) :=
  cB (pc := 27) h dX11_room_27 rfl (zI (pc := 29) h hm (Nat.le_refl _) dX11_room_29)
set_option maxRecDepth 20000 in
theorem lX11_room_13 (m : qM) : tX11_room_13 [none, none, none, none] [] m = fX11_room_13 m := rfl
theorem bX11_room_13 {C : qCx} {w : qWp} (h : qOk C w RX11 cX11_room 4 4 155 155) (hm : qMt C (some .int)) (hx : qNx C) : qSnd C w 4 155 (qQf C w 155 155 jI) qfin 155 27 (wX11_room_13 fX11_room_13) :=
  qSnd_of (fun lo st m x hr0 => by
    unfold wX11_room_13 at hr0
    split at hr0
    · exact ⟨_, (qsub_n (qsub_n (qsub_n (qsub_n qsub_nil)))), (lX11_room_13 _).trans hr0⟩
    · cases hr0) (sX11_room_13 h hm hx)
noncomputable def tX11_room_0 (j13 : qT (Int32 × qM)) : qT (Int32 × qM) :=
  oLi 1 (oCi GX11_isTeacher 1 (oEq (j13) (oLi 2 (oC (.int (0 : Int32)) (oC (.int (9 : Int32)) (oCi GX11_within 3 (oEq (j13) (oLi 3 (oC (.int (0 : Int32)) (oC (.int (9 : Int32)) (oCi GX11_within 3 (oEq (j13) (oLa 0 (oCi GX11_hasSettledPlace 1 (oEq (oLa 0 (oGf 0 4 47 (oLi 1 (oLi 2 (oLi 3 (oCv GX3_setRoom 4 (oC (.int (1 : Int32)) (eI)))))))) (oC (.int (-4 : Int32)) (eI)))))))))))))))))
set_option maxRecDepth 20000 in
theorem sX11_room_0 {C : qCx} {w : qWp} (h : qOk C w RX11 cX11_room 4 4 155 155) (hm : qMt C (some .int)) (hx : qNx C) {j13 : qT (Int32 × qM)} (k13 : qSnd C w 4 155 (qQf C w 155 155 jI) qfin 155 27 j13) : qSnd C w 4 155 (qQf C w 155 155 jI) qfin 155 0 (tX11_room_0 j13) :=
  cLi (pc := 0) h dX11_room_0 rfl (kCi (pc := 1) h (kd_X11_140 h dX11_room_1) spX11_isTeacher (by decide) (by decide) (by decide) (by decide) (jEq (pc := 4) h dX11_room_4 rfl (k13) (cLi (pc := 7) h dX11_room_7 rfl (cC (pc := 8) h dX11_room_8 rfl (cB (pc := 9) h dX11_room_9 rfl (kCi (pc := 11) h (kd_X11_103 h dX11_room_11) spX11_within (by decide) (by decide) (by decide) (by decide) (jEq (pc := 14) h dX11_room_14 rfl (k13) (cLi (pc := 17) h dX11_room_17 rfl (cC (pc := 18) h dX11_room_18 rfl (cB (pc := 19) h dX11_room_19 rfl (kCi (pc := 21) h (kd_X11_103 h dX11_room_21) spX11_within (by decide) (by decide) (by decide) (by decide) (jNe (pc := 24) h dX11_room_24 rfl (cLa (pc := 30) h dX11_room_30 rfl (kCi (pc := 31) h (kd_X11_110 h dX11_room_31) spX11_hasSettledPlace (by decide) (by decide) (by decide) (by decide) (jEq (pc := 34) h dX11_room_34 rfl (cLa (pc := 40) h dX11_room_40 rfl (gGf (pc := 41) h dX11_room_41 ff_X11_44_0 (Nat.le_of_ble_eq_true rfl) (Nat.le_of_ble_eq_true rfl) rfl (cLi (pc := 44) h dX11_room_44 rfl (cLi (pc := 45) h dX11_room_45 rfl (cLi (pc := 46) h dX11_room_46 rfl (kCv (pc := 47) h (kd_X11_156 h dX11_room_47) spX3_setRoom (by decide) (by decide) (by decide) (by decide) (cC (pc := 50) h dX11_room_50 rfl (zI (pc := 51) h hm (Nat.le_refl _) dX11_room_51)))))))) (cB (pc := 37) h dX11_room_37 rfl (zI (pc := 39) h hm (Nat.le_refl _) dX11_room_39))))) (k13)))))))))))))
set_option maxRecDepth 20000 in
theorem lX11_room_0 (a1 : Int32) (a2 : Int32) (a3 : Int32) (m : qM) : tX11_room_0 (wX11_room_13 fX11_room_13) [some (.ref 0), some (.int a1), some (.int a2), some (.int a3)] [] m = fX11_room_0 a1 a2 a3 m := rfl
noncomputable def GX11_room : qG Int32 := fun av m => match av with
  | [.ref 0, .int a1, .int a2, .int a3] => fX11_room a1 a2 a3 m
  | _ => none
theorem spX11_room : qSpI yX11_room (.code yX11_room cX11_room 4 (some .int)) 4 qfin 155 155 1 GX11_room := by
  intro av m x m' hG
  unfold GX11_room at hG
  split at hG
  · rename_i a1 a2 a3
    rw [fX11_room_d] at hG
    exact ⟨qmeet (J := jI) (r := (x, m')) (av := [.ref 0, .int a1, .int a2, .int a3]) (by decide +kernel) (Nat.le_of_ble_eq_true rfl) (fun C w h hm hx hn => sX11_room_0 h hm hx (bX11_room_13 h hm hx)) ((lX11_room_0 _ _ _ _).trans hG) (Nat.le_of_ble_eq_true rfl), Or.inl ⟨0, _, 11, _, _, rfl, by decide, rfl, qCk_11, rfl⟩⟩
  · cases hG
theorem dX11_isSpan_0 : decode cX11_isSpan 0 = .ok (.iload_n 0, 1) := by decide +kernel
theorem dX11_isSpan_1 : decode cX11_isSpan 1 = .ok (.ifCond .lt 17, 3) := by decide +kernel
theorem dX11_isSpan_4 : decode cX11_isSpan 4 = .ok (.iload_n 0, 1) := by decide +kernel
theorem dX11_isSpan_5 : decode cX11_isSpan 5 = .ok (.iload_n 1, 1) := by decide +kernel
theorem dX11_isSpan_6 : decode cX11_isSpan 6 = .ok (.if_icmp .gt 12, 3) := by decide +kernel
theorem dX11_isSpan_9 : decode cX11_isSpan 9 = .ok (.iload_n 1, 1) := by decide +kernel
theorem dX11_isSpan_10 : decode cX11_isSpan 10 = .ok (.iload_n 2, 1) := by decide +kernel
theorem dX11_isSpan_11 : decode cX11_isSpan 11 = .ok (.if_icmp .ge 7, 3) := by decide +kernel
theorem dX11_isSpan_14 : decode cX11_isSpan 14 = .ok (.iconst 1, 1) := by decide +kernel
theorem dX11_isSpan_15 : decode cX11_isSpan 15 = .ok (.goto 4, 3) := by decide +kernel
theorem dX11_isSpan_18 : decode cX11_isSpan 18 = .ok (.iconst 0, 1) := by decide +kernel
theorem dX11_isSpan_19 : decode cX11_isSpan 19 = .ok (.ireturn, 1) := by decide +kernel
noncomputable def tX11_isSpan_11 : qT (Int32 × qM) :=
  eZ
noncomputable def wX11_isSpan_11 (k : Int32 → qM → Option (Int32 × qM)) : qT (Int32 × qM) := fun lo st m => match lo, st with
  | [_, _, _], [.int s0] => k s0 m
  | _, _ => none
set_option maxRecDepth 20000 in
theorem sX11_isSpan_11 {C : qCx} {w : qWp} (h : qOk C w RX11 cX11_isSpan 3 0 155 155) (hm : qMt C (some .boolean)) (hx : qNx C) : qSnd C w 3 155 (qQf C w 155 155 jI) qfin 155 19 (tX11_isSpan_11) :=
  zZ (pc := 19) h hm (Nat.le_refl _) dX11_isSpan_19
set_option maxRecDepth 20000 in
theorem lX11_isSpan_11 (s0 : Int32) (m : qM) : tX11_isSpan_11 [none, none, none] [(.int s0)] m = fX11_isSpan_11 s0 m := rfl
theorem bX11_isSpan_11 {C : qCx} {w : qWp} (h : qOk C w RX11 cX11_isSpan 3 0 155 155) (hm : qMt C (some .boolean)) (hx : qNx C) : qSnd C w 3 155 (qQf C w 155 155 jI) qfin 155 19 (wX11_isSpan_11 fX11_isSpan_11) :=
  qSnd_of (fun lo st m x hr0 => by
    unfold wX11_isSpan_11 at hr0
    split at hr0
    · exact ⟨_, (qsub_n (qsub_n (qsub_n qsub_nil))), (lX11_isSpan_11 _ _).trans hr0⟩
    · cases hr0) (sX11_isSpan_11 h hm hx)
noncomputable def tX11_isSpan_10 (j11 : qT (Int32 × qM)) : qT (Int32 × qM) :=
  oC (.int (0 : Int32)) (j11)
noncomputable def wX11_isSpan_10 (k : qM → Option (Int32 × qM)) : qT (Int32 × qM) := fun lo st m => match lo, st with
  | [_, _, _], [] => k m
  | _, _ => none
set_option maxRecDepth 20000 in
theorem sX11_isSpan_10 {C : qCx} {w : qWp} (h : qOk C w RX11 cX11_isSpan 3 0 155 155) (hm : qMt C (some .boolean)) (hx : qNx C) {j11 : qT (Int32 × qM)} (k11 : qSnd C w 3 155 (qQf C w 155 155 jI) qfin 155 19 j11) : qSnd C w 3 155 (qQf C w 155 155 jI) qfin 155 18 (tX11_isSpan_10 j11) :=
  cC (pc := 18) h dX11_isSpan_18 rfl (k11)
set_option maxRecDepth 20000 in
theorem lX11_isSpan_10 (m : qM) : tX11_isSpan_10 (wX11_isSpan_11 fX11_isSpan_11) [none, none, none] [] m = fX11_isSpan_10 m := rfl
theorem bX11_isSpan_10 {C : qCx} {w : qWp} (h : qOk C w RX11 cX11_isSpan 3 0 155 155) (hm : qMt C (some .boolean)) (hx : qNx C) : qSnd C w 3 155 (qQf C w 155 155 jI) qfin 155 18 (wX11_isSpan_10 fX11_isSpan_10) :=
  qSnd_of (fun lo st m x hr0 => by
    unfold wX11_isSpan_10 at hr0
    split at hr0
    · exact ⟨_, (qsub_n (qsub_n (qsub_n qsub_nil))), (lX11_isSpan_10 _).trans hr0⟩
    · cases hr0) (sX11_isSpan_10 h hm hx (bX11_isSpan_11 h hm hx))
noncomputable def tX11_isSpan_0 (j10 : qT (Int32 × qM)) (j11 : qT (Int32 × qM)) : qT (Int32 × qM) :=
  oLi 0 (oLt (j10) (oLi 0 (oLi 1 (oCGt (j10) (oLi 1 (oLi 2 (oCGe (j10) (oC (.int (1 : Int32)) (j11)))))))))
set_option maxRecDepth 20000 in
theorem sX11_isSpan_0 {C : qCx} {w : qWp} (h : qOk C w RX11 cX11_isSpan 3 0 155 155) (hm : qMt C (some .boolean)) (hx : qNx C) {j10 : qT (Int32 × qM)} {j11 : qT (Int32 × qM)} (k10 : qSnd C w 3 155 (qQf C w 155 155 jI) qfin 155 18 j10) (k11 : qSnd C w 3 155 (qQf C w 155 155 jI) qfin 155 19 j11) : qSnd C w 3 155 (qQf C w 155 155 jI) qfin 155 0 (tX11_isSpan_0 j10 j11) :=
  cLi (pc := 0) h dX11_isSpan_0 rfl (jLt (pc := 1) h dX11_isSpan_1 rfl (k10) (cLi (pc := 4) h dX11_isSpan_4 rfl (cLi (pc := 5) h dX11_isSpan_5 rfl (jCGt (pc := 6) h dX11_isSpan_6 rfl (k10) (cLi (pc := 9) h dX11_isSpan_9 rfl (cLi (pc := 10) h dX11_isSpan_10 rfl (jCGe (pc := 11) h dX11_isSpan_11 rfl (k10) (cC (pc := 14) h dX11_isSpan_14 rfl (jGo (pc := 15) h dX11_isSpan_15 rfl (k11))))))))))
set_option maxRecDepth 20000 in
theorem lX11_isSpan_0 (a0 : Int32) (a1 : Int32) (a2 : Int32) (m : qM) : tX11_isSpan_0 (wX11_isSpan_10 fX11_isSpan_10) (wX11_isSpan_11 fX11_isSpan_11) [some (.int a0), some (.int a1), some (.int a2)] [] m = fX11_isSpan_0 a0 a1 a2 m := rfl
noncomputable def GX11_isSpan : qG Int32 := fun av m => match av with
  | [.int a0, .int a1, .int a2] => fX11_isSpan a0 a1 a2 m
  | _ => none
theorem spX11_isSpan : qSpI yX11_isSpan (.code yX11_isSpan cX11_isSpan 3 (some .boolean)) 0 qfin 155 155 0 GX11_isSpan := by
  intro av m x m' hG
  unfold GX11_isSpan at hG
  split at hG
  · rename_i a0 a1 a2
    rw [fX11_isSpan_d] at hG
    exact ⟨qmeet (J := jI) (r := (x, m')) (av := [.int a0, .int a1, .int a2]) (by decide +kernel) (Nat.le_of_ble_eq_true rfl) (fun C w h hm hx hn => sX11_isSpan_0 h hm hx (bX11_isSpan_10 h hm hx) (bX11_isSpan_11 h hm hx)) ((lX11_isSpan_0 _ _ _ _).trans hG) (Nat.le_of_ble_eq_true rfl), trivial⟩
  · cases hG
theorem im_X11_isSpan : Jvm.Cond.static yX11_isSpan ∈ qTw := qm3 (List.mem_of_getElem? (i := 223) (by decide +kernel)) (by decide +kernel)
theorem co_X11_isSpan : Jvm.Cond.code yX11_isSpan cX11_isSpan 3 (some .boolean) ∈ qTw := qm3 (List.mem_of_getElem? (i := 224) (by decide +kernel)) (by decide +kernel)
theorem yk_X11_isSpan : qYk yX11_isSpan 3 := ⟨⟨by decide +kernel, by decide +kernel⟩, by decide +kernel⟩
theorem ml_X11_160 : Jvm.Cond.methodLink RX11 160 yX11_isSpan ∈ qTw := qm3 (List.mem_of_getElem? (i := 222) (by decide +kernel)) (by decide +kernel)
theorem kd_X11_160 {C : qCx} {w : qWp} {cc : ByteArray} {nL dp n0 n1 pc : Nat} (h : qOk C w RX11 cc nL dp n0 n1) (d : decode cc pc = .ok (.invokestatic 160, 3)) : qCallOk C w nL dp n0 n1 pc 3 0 yX11_isSpan (.code yX11_isSpan cX11_isSpan 3 (some .boolean)) := kindS h d ml_X11_160 im_X11_isSpan in_ParentEve co_X11_isSpan yk_X11_isSpan (by decide)
theorem ml_X11_163 : Jvm.Cond.methodLink RX11 163 yX11_slotsFrom ∈ qTw := qm3 (List.mem_of_getElem? (i := 225) (by decide +kernel)) (by decide +kernel)
theorem kd_X11_163 {C : qCx} {w : qWp} {cc : ByteArray} {nL dp n0 n1 pc : Nat} (h : qOk C w RX11 cc nL dp n0 n1) (d : decode cc pc = .ok (.invokestatic 163, 3)) : qCallOk C w nL dp n0 n1 pc 2 0 yX11_slotsFrom (.code yX11_slotsFrom cX11_slotsFrom 4 (some .int)) := kindS h d ml_X11_163 im_X11_slotsFrom in_ParentEve co_X11_slotsFrom yk_X11_slotsFrom (by decide)
theorem im_X3_setTeacher : Jvm.Cond.instanceMethod yX3_setTeacher ∈ qTw := qm3 (List.mem_of_getElem? (i := 231) (by decide +kernel)) (by decide +kernel)
theorem se_X3_setTeacher : Jvm.Cond.selects yX3_setTeacher.cls yX3_setTeacher yX3_setTeacher ∈ qTw := qm3 (List.mem_of_getElem? (i := 232) (by decide +kernel)) (by decide +kernel)
theorem co_X3_setTeacher : Jvm.Cond.code yX3_setTeacher cX3_setTeacher 3 none ∈ qTw := qm3 (List.mem_of_getElem? (i := 233) (by decide +kernel)) (by decide +kernel)
theorem yk_X3_setTeacher : qYk yX3_setTeacher 2 := ⟨⟨by decide +kernel, by decide +kernel⟩, by decide +kernel⟩
theorem ml_X11_166 : Jvm.Cond.methodLink RX11 166 yX3_setTeacher ∈ qTw := qm3 (List.mem_of_getElem? (i := 230) (by decide +kernel)) (by decide +kernel)
theorem kd_X11_166 {C : qCx} {w : qWp} {cc : ByteArray} {nL dp n0 n1 pc : Nat} (h : qOk C w RX11 cc nL dp n0 n1) (d : decode cc pc = .ok (.invokevirtual 166, 3)) : qCallOk C w nL dp n0 n1 pc 3 1 yX3_setTeacher (.code yX3_setTeacher cX3_setTeacher 3 none) := kindV h d ml_X11_166 im_X3_setTeacher se_X3_setTeacher in_ParentEve_People co_X3_setTeacher yk_X3_setTeacher (by decide)
theorem dX11_teacher_0 : decode cX11_teacher 0 = .ok (.iload_n 1, 1) := by decide +kernel
theorem dX11_teacher_1 : decode cX11_teacher 1 = .ok (.invokestatic 140, 3) := by decide +kernel
theorem dX11_teacher_4 : decode cX11_teacher 4 = .ok (.ifCond .eq 13, 3) := by decide +kernel
theorem dX11_teacher_7 : decode cX11_teacher 7 = .ok (.iload_n 2, 1) := by decide +kernel
theorem dX11_teacher_8 : decode cX11_teacher 8 = .ok (.iload_n 3, 1) := by decide +kernel
theorem dX11_teacher_9 : decode cX11_teacher 9 = .ok (.bipush 20, 2) := by decide +kernel
theorem dX11_teacher_11 : decode cX11_teacher 11 = .ok (.invokestatic 160, 3) := by decide +kernel
theorem dX11_teacher_14 : decode cX11_teacher 14 = .ok (.ifCond .ne 6, 3) := by decide +kernel
theorem dX11_teacher_17 : decode cX11_teacher 17 = .ok (.bipush (-2), 2) := by decide +kernel
theorem dX11_teacher_19 : decode cX11_teacher 19 = .ok (.ireturn, 1) := by decide +kernel
theorem dX11_teacher_20 : decode cX11_teacher 20 = .ok (.aload_n 0, 1) := by decide +kernel
theorem dX11_teacher_21 : decode cX11_teacher 21 = .ok (.invokevirtual 110, 3) := by decide +kernel
theorem dX11_teacher_24 : decode cX11_teacher 24 = .ok (.ifCond .eq 6, 3) := by decide +kernel
theorem dX11_teacher_27 : decode cX11_teacher 27 = .ok (.bipush (-4), 2) := by decide +kernel
theorem dX11_teacher_29 : decode cX11_teacher 29 = .ok (.ireturn, 1) := by decide +kernel
theorem dX11_teacher_30 : decode cX11_teacher 30 = .ok (.aload_n 0, 1) := by decide +kernel
theorem dX11_teacher_31 : decode cX11_teacher 31 = .ok (.getfield 44, 3) := by decide +kernel
theorem dX11_teacher_34 : decode cX11_teacher 34 = .ok (.iload_n 1, 1) := by decide +kernel
theorem dX11_teacher_35 : decode cX11_teacher 35 = .ok (.iload_n 2, 1) := by decide +kernel
theorem dX11_teacher_36 : decode cX11_teacher 36 = .ok (.iload_n 3, 1) := by decide +kernel
theorem dX11_teacher_37 : decode cX11_teacher 37 = .ok (.invokestatic 163, 3) := by decide +kernel
theorem dX11_teacher_40 : decode cX11_teacher 40 = .ok (.invokevirtual 166, 3) := by decide +kernel
theorem dX11_teacher_43 : decode cX11_teacher 43 = .ok (.iconst 1, 1) := by decide +kernel
theorem dX11_teacher_44 : decode cX11_teacher 44 = .ok (.ireturn, 1) := by decide +kernel
noncomputable def tX11_teacher_8 : qT (Int32 × qM) :=
  oC (.int (-2 : Int32)) (eI)
noncomputable def wX11_teacher_8 (k : qM → Option (Int32 × qM)) : qT (Int32 × qM) := fun lo st m => match lo, st with
  | [_, _, _, _], [] => k m
  | _, _ => none
set_option maxRecDepth 20000 in
theorem sX11_teacher_8 {C : qCx} {w : qWp} (h : qOk C w RX11 cX11_teacher 4 2 155 155) (hm : qMt C (some .int)) (hx : qNx C) : qSnd C w 4 155 (qQf C w 155 155 jI) qfin 155 17 (tX11_teacher_8) :=
  cB (pc := 17) h dX11_teacher_17 rfl (zI (pc := 19) h hm (Nat.le_refl _) dX11_teacher_19)
set_option maxRecDepth 20000 in
theorem lX11_teacher_8 (m : qM) : tX11_teacher_8 [none, none, none, none] [] m = fX11_teacher_8 m := rfl
theorem bX11_teacher_8 {C : qCx} {w : qWp} (h : qOk C w RX11 cX11_teacher 4 2 155 155) (hm : qMt C (some .int)) (hx : qNx C) : qSnd C w 4 155 (qQf C w 155 155 jI) qfin 155 17 (wX11_teacher_8 fX11_teacher_8) :=
  qSnd_of (fun lo st m x hr0 => by
    unfold wX11_teacher_8 at hr0
    split at hr0
    · exact ⟨_, (qsub_n (qsub_n (qsub_n (qsub_n qsub_nil)))), (lX11_teacher_8 _).trans hr0⟩
    · cases hr0) (sX11_teacher_8 h hm hx)
noncomputable def tX11_teacher_0 (j8 : qT (Int32 × qM)) : qT (Int32 × qM) :=
  oLi 1 (oCi GX11_isTeacher 1 (oEq (j8) (oLi 2 (oLi 3 (oC (.int (20 : Int32)) (oCi GX11_isSpan 3 (oEq (j8) (oLa 0 (oCi GX11_hasSettledPlace 1 (oEq (oLa 0 (oGf 0 4 47 (oLi 1 (oLi 2 (oLi 3 (oCi GX11_slotsFrom 2 (oCv GX3_setTeacher 3 (oC (.int (1 : Int32)) (eI))))))))) (oC (.int (-4 : Int32)) (eI))))))))))))
set_option maxRecDepth 20000 in
theorem sX11_teacher_0 {C : qCx} {w : qWp} (h : qOk C w RX11 cX11_teacher 4 2 155 155) (hm : qMt C (some .int)) (hx : qNx C) {j8 : qT (Int32 × qM)} (k8 : qSnd C w 4 155 (qQf C w 155 155 jI) qfin 155 17 j8) : qSnd C w 4 155 (qQf C w 155 155 jI) qfin 155 0 (tX11_teacher_0 j8) :=
  cLi (pc := 0) h dX11_teacher_0 rfl (kCi (pc := 1) h (kd_X11_140 h dX11_teacher_1) spX11_isTeacher (by decide) (by decide) (by decide) (by decide) (jEq (pc := 4) h dX11_teacher_4 rfl (k8) (cLi (pc := 7) h dX11_teacher_7 rfl (cLi (pc := 8) h dX11_teacher_8 rfl (cB (pc := 9) h dX11_teacher_9 rfl (kCi (pc := 11) h (kd_X11_160 h dX11_teacher_11) spX11_isSpan (by decide) (by decide) (by decide) (by decide) (jNe (pc := 14) h dX11_teacher_14 rfl (cLa (pc := 20) h dX11_teacher_20 rfl (kCi (pc := 21) h (kd_X11_110 h dX11_teacher_21) spX11_hasSettledPlace (by decide) (by decide) (by decide) (by decide) (jEq (pc := 24) h dX11_teacher_24 rfl (cLa (pc := 30) h dX11_teacher_30 rfl (gGf (pc := 31) h dX11_teacher_31 ff_X11_44_0 (Nat.le_of_ble_eq_true rfl) (Nat.le_of_ble_eq_true rfl) rfl (cLi (pc := 34) h dX11_teacher_34 rfl (cLi (pc := 35) h dX11_teacher_35 rfl (cLi (pc := 36) h dX11_teacher_36 rfl (kCi (pc := 37) h (kd_X11_163 h dX11_teacher_37) spX11_slotsFrom (by decide) (by decide) (by decide) (by decide) (kCv (pc := 40) h (kd_X11_166 h dX11_teacher_40) spX3_setTeacher (by decide) (by decide) (by decide) (by decide) (cC (pc := 43) h dX11_teacher_43 rfl (zI (pc := 44) h hm (Nat.le_refl _) dX11_teacher_44))))))))) (cB (pc := 27) h dX11_teacher_27 rfl (zI (pc := 29) h hm (Nat.le_refl _) dX11_teacher_29))))) (k8))))))))
set_option maxRecDepth 20000 in
theorem lX11_teacher_0 (a1 : Int32) (a2 : Int32) (a3 : Int32) (m : qM) : tX11_teacher_0 (wX11_teacher_8 fX11_teacher_8) [some (.ref 0), some (.int a1), some (.int a2), some (.int a3)] [] m = fX11_teacher_0 a1 a2 a3 m := rfl
noncomputable def GX11_teacher : qG Int32 := fun av m => match av with
  | [.ref 0, .int a1, .int a2, .int a3] => fX11_teacher a1 a2 a3 m
  | _ => none
theorem spX11_teacher : qSpI yX11_teacher (.code yX11_teacher cX11_teacher 4 (some .int)) 2 qfin 155 155 1 GX11_teacher := by
  intro av m x m' hG
  unfold GX11_teacher at hG
  split at hG
  · rename_i a1 a2 a3
    rw [fX11_teacher_d] at hG
    exact ⟨qmeet (J := jI) (r := (x, m')) (av := [.ref 0, .int a1, .int a2, .int a3]) (by decide +kernel) (Nat.le_of_ble_eq_true rfl) (fun C w h hm hx hn => sX11_teacher_0 h hm hx (bX11_teacher_8 h hm hx)) ((lX11_teacher_0 _ _ _ _).trans hG) (Nat.le_of_ble_eq_true rfl), Or.inl ⟨0, _, 11, _, _, rfl, by decide, rfl, qCk_11, rfl⟩⟩
  · cases hG
theorem dX11_isFamily_0 : decode cX11_isFamily 0 = .ok (.iload_n 0, 1) := by decide +kernel
theorem dX11_isFamily_1 : decode cX11_isFamily 1 = .ok (.iconst 0, 1) := by decide +kernel
theorem dX11_isFamily_2 : decode cX11_isFamily 2 = .ok (.bipush 14, 2) := by decide +kernel
theorem dX11_isFamily_4 : decode cX11_isFamily 4 = .ok (.invokestatic 103, 3) := by decide +kernel
theorem dX11_isFamily_7 : decode cX11_isFamily 7 = .ok (.ireturn, 1) := by decide +kernel
noncomputable def tX11_isFamily_0 : qT (Int32 × qM) :=
  oLi 0 (oC (.int (0 : Int32)) (oC (.int (14 : Int32)) (oCi GX11_within 3 (eZ))))
set_option maxRecDepth 20000 in
theorem sX11_isFamily_0 {C : qCx} {w : qWp} (h : qOk C w RX11 cX11_isFamily 1 1 155 155) (hm : qMt C (some .boolean)) (hx : qNx C) : qSnd C w 1 155 (qQf C w 155 155 jI) qfin 155 0 (tX11_isFamily_0) :=
  cLi (pc := 0) h dX11_isFamily_0 rfl (cC (pc := 1) h dX11_isFamily_1 rfl (cB (pc := 2) h dX11_isFamily_2 rfl (kCi (pc := 4) h (kd_X11_103 h dX11_isFamily_4) spX11_within (by decide) (by decide) (by decide) (by decide) (zZ (pc := 7) h hm (Nat.le_refl _) dX11_isFamily_7))))
set_option maxRecDepth 20000 in
theorem lX11_isFamily_0 (a0 : Int32) (m : qM) : tX11_isFamily_0 [some (.int a0)] [] m = fX11_isFamily_0 a0 m := rfl
noncomputable def GX11_isFamily : qG Int32 := fun av m => match av with
  | [.int a0] => fX11_isFamily a0 m
  | _ => none
theorem spX11_isFamily : qSpI yX11_isFamily (.code yX11_isFamily cX11_isFamily 1 (some .boolean)) 1 qfin 155 155 0 GX11_isFamily := by
  intro av m x m' hG
  unfold GX11_isFamily at hG
  split at hG
  · rename_i a0
    rw [fX11_isFamily_d] at hG
    exact ⟨qmeet (J := jI) (r := (x, m')) (av := [.int a0]) (by decide +kernel) (Nat.le_of_ble_eq_true rfl) (fun C w h hm hx hn => sX11_isFamily_0 h hm hx) ((lX11_isFamily_0 _ _).trans hG) (Nat.le_of_ble_eq_true rfl), trivial⟩
  · cases hG
theorem im_X11_isFamily : Jvm.Cond.static yX11_isFamily ∈ qTw := qm3 (List.mem_of_getElem? (i := 239) (by decide +kernel)) (by decide +kernel)
theorem co_X11_isFamily : Jvm.Cond.code yX11_isFamily cX11_isFamily 1 (some .boolean) ∈ qTw := qm4 (List.mem_of_getElem? (i := 0) (by decide +kernel)) (by decide +kernel)
theorem yk_X11_isFamily : qYk yX11_isFamily 1 := ⟨⟨by decide +kernel, by decide +kernel⟩, by decide +kernel⟩
theorem ml_X11_170 : Jvm.Cond.methodLink RX11 170 yX11_isFamily ∈ qTw := qm3 (List.mem_of_getElem? (i := 238) (by decide +kernel)) (by decide +kernel)
theorem kd_X11_170 {C : qCx} {w : qWp} {cc : ByteArray} {nL dp n0 n1 pc : Nat} (h : qOk C w RX11 cc nL dp n0 n1) (d : decode cc pc = .ok (.invokestatic 170, 3)) : qCallOk C w nL dp n0 n1 pc 1 0 yX11_isFamily (.code yX11_isFamily cX11_isFamily 1 (some .boolean)) := kindS h d ml_X11_170 im_X11_isFamily in_ParentEve co_X11_isFamily yk_X11_isFamily (by decide)
theorem im_X3_setFamily : Jvm.Cond.instanceMethod yX3_setFamily ∈ qTw := qm4 (List.mem_of_getElem? (i := 2) (by decide +kernel)) (by decide +kernel)
theorem se_X3_setFamily : Jvm.Cond.selects yX3_setFamily.cls yX3_setFamily yX3_setFamily ∈ qTw := qm4 (List.mem_of_getElem? (i := 3) (by decide +kernel)) (by decide +kernel)
theorem co_X3_setFamily : Jvm.Cond.code yX3_setFamily cX3_setFamily 4 none ∈ qTw := qm4 (List.mem_of_getElem? (i := 4) (by decide +kernel)) (by decide +kernel)
theorem yk_X3_setFamily : qYk yX3_setFamily 3 := ⟨⟨by decide +kernel, by decide +kernel⟩, by decide +kernel⟩
theorem ml_X11_173 : Jvm.Cond.methodLink RX11 173 yX3_setFamily ∈ qTw := qm4 (List.mem_of_getElem? (i := 1) (by decide +kernel)) (by decide +kernel)
theorem kd_X11_173 {C : qCx} {w : qWp} {cc : ByteArray} {nL dp n0 n1 pc : Nat} (h : qOk C w RX11 cc nL dp n0 n1) (d : decode cc pc = .ok (.invokevirtual 173, 3)) : qCallOk C w nL dp n0 n1 pc 4 1 yX3_setFamily (.code yX3_setFamily cX3_setFamily 4 none) := kindV h d ml_X11_173 im_X3_setFamily se_X3_setFamily in_ParentEve_People co_X3_setFamily yk_X3_setFamily (by decide)
theorem dX11_family_0 : decode cX11_family 0 = .ok (.iload_n 1, 1) := by decide +kernel
theorem dX11_family_1 : decode cX11_family 1 = .ok (.invokestatic 170, 3) := by decide +kernel
theorem dX11_family_4 : decode cX11_family 4 = .ok (.ifCond .eq 23, 3) := by decide +kernel
theorem dX11_family_7 : decode cX11_family 7 = .ok (.iload_n 2, 1) := by decide +kernel
theorem dX11_family_8 : decode cX11_family 8 = .ok (.iload_n 3, 1) := by decide +kernel
theorem dX11_family_9 : decode cX11_family 9 = .ok (.bipush 20, 2) := by decide +kernel
theorem dX11_family_11 : decode cX11_family 11 = .ok (.invokestatic 160, 3) := by decide +kernel
theorem dX11_family_14 : decode cX11_family 14 = .ok (.ifCond .eq 13, 3) := by decide +kernel
theorem dX11_family_17 : decode cX11_family 17 = .ok (.iload 4, 2) := by decide +kernel
theorem dX11_family_19 : decode cX11_family 19 = .ok (.iconst 0, 1) := by decide +kernel
theorem dX11_family_20 : decode cX11_family 20 = .ok (.iconst 3, 1) := by decide +kernel
theorem dX11_family_21 : decode cX11_family 21 = .ok (.invokestatic 103, 3) := by decide +kernel
theorem dX11_family_24 : decode cX11_family 24 = .ok (.ifCond .ne 6, 3) := by decide +kernel
theorem dX11_family_27 : decode cX11_family 27 = .ok (.bipush (-2), 2) := by decide +kernel
theorem dX11_family_29 : decode cX11_family 29 = .ok (.ireturn, 1) := by decide +kernel
theorem dX11_family_30 : decode cX11_family 30 = .ok (.aload_n 0, 1) := by decide +kernel
theorem dX11_family_31 : decode cX11_family 31 = .ok (.invokevirtual 110, 3) := by decide +kernel
theorem dX11_family_34 : decode cX11_family 34 = .ok (.ifCond .eq 6, 3) := by decide +kernel
theorem dX11_family_37 : decode cX11_family 37 = .ok (.bipush (-4), 2) := by decide +kernel
theorem dX11_family_39 : decode cX11_family 39 = .ok (.ireturn, 1) := by decide +kernel
theorem dX11_family_40 : decode cX11_family 40 = .ok (.aload_n 0, 1) := by decide +kernel
theorem dX11_family_41 : decode cX11_family 41 = .ok (.getfield 44, 3) := by decide +kernel
theorem dX11_family_44 : decode cX11_family 44 = .ok (.iload_n 1, 1) := by decide +kernel
theorem dX11_family_45 : decode cX11_family 45 = .ok (.iload_n 2, 1) := by decide +kernel
theorem dX11_family_46 : decode cX11_family 46 = .ok (.iload_n 3, 1) := by decide +kernel
theorem dX11_family_47 : decode cX11_family 47 = .ok (.invokestatic 163, 3) := by decide +kernel
theorem dX11_family_50 : decode cX11_family 50 = .ok (.iload 4, 2) := by decide +kernel
theorem dX11_family_52 : decode cX11_family 52 = .ok (.invokevirtual 173, 3) := by decide +kernel
theorem dX11_family_55 : decode cX11_family 55 = .ok (.iconst 1, 1) := by decide +kernel
theorem dX11_family_56 : decode cX11_family 56 = .ok (.ireturn, 1) := by decide +kernel
noncomputable def tX11_family_13 : qT (Int32 × qM) :=
  oC (.int (-2 : Int32)) (eI)
noncomputable def wX11_family_13 (k : qM → Option (Int32 × qM)) : qT (Int32 × qM) := fun lo st m => match lo, st with
  | [_, _, _, _, _], [] => k m
  | _, _ => none
set_option maxRecDepth 20000 in
theorem sX11_family_13 {C : qCx} {w : qWp} (h : qOk C w RX11 cX11_family 5 2 155 155) (hm : qMt C (some .int)) (hx : qNx C) : qSnd C w 5 155 (qQf C w 155 155 jI) qfin 155 27 (tX11_family_13) :=
  cB (pc := 27) h dX11_family_27 rfl (zI (pc := 29) h hm (Nat.le_refl _) dX11_family_29)
set_option maxRecDepth 20000 in
theorem lX11_family_13 (m : qM) : tX11_family_13 [none, none, none, none, none] [] m = fX11_family_13 m := rfl
theorem bX11_family_13 {C : qCx} {w : qWp} (h : qOk C w RX11 cX11_family 5 2 155 155) (hm : qMt C (some .int)) (hx : qNx C) : qSnd C w 5 155 (qQf C w 155 155 jI) qfin 155 27 (wX11_family_13 fX11_family_13) :=
  qSnd_of (fun lo st m x hr0 => by
    unfold wX11_family_13 at hr0
    split at hr0
    · exact ⟨_, (qsub_n (qsub_n (qsub_n (qsub_n (qsub_n qsub_nil))))), (lX11_family_13 _).trans hr0⟩
    · cases hr0) (sX11_family_13 h hm hx)
noncomputable def tX11_family_0 (j13 : qT (Int32 × qM)) : qT (Int32 × qM) :=
  oLi 1 (oCi GX11_isFamily 1 (oEq (j13) (oLi 2 (oLi 3 (oC (.int (20 : Int32)) (oCi GX11_isSpan 3 (oEq (j13) (oLi 4 (oC (.int (0 : Int32)) (oC (.int (3 : Int32)) (oCi GX11_within 3 (oEq (j13) (oLa 0 (oCi GX11_hasSettledPlace 1 (oEq (oLa 0 (oGf 0 4 47 (oLi 1 (oLi 2 (oLi 3 (oCi GX11_slotsFrom 2 (oLi 4 (oCv GX3_setFamily 4 (oC (.int (1 : Int32)) (eI)))))))))) (oC (.int (-4 : Int32)) (eI)))))))))))))))))
set_option maxRecDepth 20000 in
theorem sX11_family_0 {C : qCx} {w : qWp} (h : qOk C w RX11 cX11_family 5 2 155 155) (hm : qMt C (some .int)) (hx : qNx C) {j13 : qT (Int32 × qM)} (k13 : qSnd C w 5 155 (qQf C w 155 155 jI) qfin 155 27 j13) : qSnd C w 5 155 (qQf C w 155 155 jI) qfin 155 0 (tX11_family_0 j13) :=
  cLi (pc := 0) h dX11_family_0 rfl (kCi (pc := 1) h (kd_X11_170 h dX11_family_1) spX11_isFamily (by decide) (by decide) (by decide) (by decide) (jEq (pc := 4) h dX11_family_4 rfl (k13) (cLi (pc := 7) h dX11_family_7 rfl (cLi (pc := 8) h dX11_family_8 rfl (cB (pc := 9) h dX11_family_9 rfl (kCi (pc := 11) h (kd_X11_160 h dX11_family_11) spX11_isSpan (by decide) (by decide) (by decide) (by decide) (jEq (pc := 14) h dX11_family_14 rfl (k13) (cLI (pc := 17) h dX11_family_17 (cC (pc := 19) h dX11_family_19 rfl (cC (pc := 20) h dX11_family_20 rfl (kCi (pc := 21) h (kd_X11_103 h dX11_family_21) spX11_within (by decide) (by decide) (by decide) (by decide) (jNe (pc := 24) h dX11_family_24 rfl (cLa (pc := 30) h dX11_family_30 rfl (kCi (pc := 31) h (kd_X11_110 h dX11_family_31) spX11_hasSettledPlace (by decide) (by decide) (by decide) (by decide) (jEq (pc := 34) h dX11_family_34 rfl (cLa (pc := 40) h dX11_family_40 rfl (gGf (pc := 41) h dX11_family_41 ff_X11_44_0 (Nat.le_of_ble_eq_true rfl) (Nat.le_of_ble_eq_true rfl) rfl (cLi (pc := 44) h dX11_family_44 rfl (cLi (pc := 45) h dX11_family_45 rfl (cLi (pc := 46) h dX11_family_46 rfl (kCi (pc := 47) h (kd_X11_163 h dX11_family_47) spX11_slotsFrom (by decide) (by decide) (by decide) (by decide) (cLI (pc := 50) h dX11_family_50 (kCv (pc := 52) h (kd_X11_173 h dX11_family_52) spX3_setFamily (by decide) (by decide) (by decide) (by decide) (cC (pc := 55) h dX11_family_55 rfl (zI (pc := 56) h hm (Nat.le_refl _) dX11_family_56)))))))))) (cB (pc := 37) h dX11_family_37 rfl (zI (pc := 39) h hm (Nat.le_refl _) dX11_family_39))))) (k13)))))))))))))
set_option maxRecDepth 20000 in
theorem lX11_family_0 (a1 : Int32) (a2 : Int32) (a3 : Int32) (a4 : Int32) (m : qM) : tX11_family_0 (wX11_family_13 fX11_family_13) [some (.ref 0), some (.int a1), some (.int a2), some (.int a3), some (.int a4)] [] m = fX11_family_0 a1 a2 a3 a4 m := rfl
noncomputable def GX11_family : qG Int32 := fun av m => match av with
  | [.ref 0, .int a1, .int a2, .int a3, .int a4] => fX11_family a1 a2 a3 a4 m
  | _ => none
theorem spX11_family : qSpI yX11_family (.code yX11_family cX11_family 5 (some .int)) 2 qfin 155 155 1 GX11_family := by
  intro av m x m' hG
  unfold GX11_family at hG
  split at hG
  · rename_i a1 a2 a3 a4
    rw [fX11_family_d] at hG
    exact ⟨qmeet (J := jI) (r := (x, m')) (av := [.ref 0, .int a1, .int a2, .int a3, .int a4]) (by decide +kernel) (Nat.le_of_ble_eq_true rfl) (fun C w h hm hx hn => sX11_family_0 h hm hx (bX11_family_13 h hm hx)) ((lX11_family_0 _ _ _ _ _).trans hG) (Nat.le_of_ble_eq_true rfl), Or.inl ⟨0, _, 11, _, _, rfl, by decide, rfl, qCk_11, rfl⟩⟩
  · cases hG
theorem im_X3_setWish : Jvm.Cond.instanceMethod yX3_setWish ∈ qTw := qm4 (List.mem_of_getElem? (i := 10) (by decide +kernel)) (by decide +kernel)
theorem se_X3_setWish : Jvm.Cond.selects yX3_setWish.cls yX3_setWish yX3_setWish ∈ qTw := qm4 (List.mem_of_getElem? (i := 11) (by decide +kernel)) (by decide +kernel)
theorem co_X3_setWish : Jvm.Cond.code yX3_setWish cX3_setWish 4 none ∈ qTw := qm4 (List.mem_of_getElem? (i := 12) (by decide +kernel)) (by decide +kernel)
theorem yk_X3_setWish : qYk yX3_setWish 3 := ⟨⟨by decide +kernel, by decide +kernel⟩, by decide +kernel⟩
theorem ml_X11_176 : Jvm.Cond.methodLink RX11 176 yX3_setWish ∈ qTw := qm4 (List.mem_of_getElem? (i := 9) (by decide +kernel)) (by decide +kernel)
theorem kd_X11_176 {C : qCx} {w : qWp} {cc : ByteArray} {nL dp n0 n1 pc : Nat} (h : qOk C w RX11 cc nL dp n0 n1) (d : decode cc pc = .ok (.invokevirtual 176, 3)) : qCallOk C w nL dp n0 n1 pc 4 1 yX3_setWish (.code yX3_setWish cX3_setWish 4 none) := kindV h d ml_X11_176 im_X3_setWish se_X3_setWish in_ParentEve_People co_X3_setWish yk_X3_setWish (by decide)
theorem dX11_wish_0 : decode cX11_wish 0 = .ok (.iload_n 1, 1) := by decide +kernel
theorem dX11_wish_1 : decode cX11_wish 1 = .ok (.invokestatic 170, 3) := by decide +kernel
theorem dX11_wish_4 : decode cX11_wish 4 = .ok (.ifCond .eq 24, 3) := by decide +kernel
theorem dX11_wish_7 : decode cX11_wish 7 = .ok (.iload_n 2, 1) := by decide +kernel
theorem dX11_wish_8 : decode cX11_wish 8 = .ok (.iload_n 3, 1) := by decide +kernel
theorem dX11_wish_9 : decode cX11_wish 9 = .ok (.bipush 20, 2) := by decide +kernel
theorem dX11_wish_11 : decode cX11_wish 11 = .ok (.invokestatic 160, 3) := by decide +kernel
theorem dX11_wish_14 : decode cX11_wish 14 = .ok (.ifCond .eq 14, 3) := by decide +kernel
theorem dX11_wish_17 : decode cX11_wish 17 = .ok (.iload 4, 2) := by decide +kernel
theorem dX11_wish_19 : decode cX11_wish 19 = .ok (.iconst 0, 1) := by decide +kernel
theorem dX11_wish_20 : decode cX11_wish 20 = .ok (.bipush 9, 2) := by decide +kernel
theorem dX11_wish_22 : decode cX11_wish 22 = .ok (.invokestatic 103, 3) := by decide +kernel
theorem dX11_wish_25 : decode cX11_wish 25 = .ok (.ifCond .ne 6, 3) := by decide +kernel
theorem dX11_wish_28 : decode cX11_wish 28 = .ok (.bipush (-2), 2) := by decide +kernel
theorem dX11_wish_30 : decode cX11_wish 30 = .ok (.ireturn, 1) := by decide +kernel
theorem dX11_wish_31 : decode cX11_wish 31 = .ok (.aload_n 0, 1) := by decide +kernel
theorem dX11_wish_32 : decode cX11_wish 32 = .ok (.invokevirtual 110, 3) := by decide +kernel
theorem dX11_wish_35 : decode cX11_wish 35 = .ok (.ifCond .eq 6, 3) := by decide +kernel
theorem dX11_wish_38 : decode cX11_wish 38 = .ok (.bipush (-4), 2) := by decide +kernel
theorem dX11_wish_40 : decode cX11_wish 40 = .ok (.ireturn, 1) := by decide +kernel
theorem dX11_wish_41 : decode cX11_wish 41 = .ok (.aload_n 0, 1) := by decide +kernel
theorem dX11_wish_42 : decode cX11_wish 42 = .ok (.getfield 44, 3) := by decide +kernel
theorem dX11_wish_45 : decode cX11_wish 45 = .ok (.iload_n 1, 1) := by decide +kernel
theorem dX11_wish_46 : decode cX11_wish 46 = .ok (.iload_n 2, 1) := by decide +kernel
theorem dX11_wish_47 : decode cX11_wish 47 = .ok (.iload_n 3, 1) := by decide +kernel
theorem dX11_wish_48 : decode cX11_wish 48 = .ok (.invokestatic 163, 3) := by decide +kernel
theorem dX11_wish_51 : decode cX11_wish 51 = .ok (.iload 4, 2) := by decide +kernel
theorem dX11_wish_53 : decode cX11_wish 53 = .ok (.invokevirtual 176, 3) := by decide +kernel
theorem dX11_wish_56 : decode cX11_wish 56 = .ok (.iconst 1, 1) := by decide +kernel
theorem dX11_wish_57 : decode cX11_wish 57 = .ok (.ireturn, 1) := by decide +kernel
noncomputable def tX11_wish_13 : qT (Int32 × qM) :=
  oC (.int (-2 : Int32)) (eI)
noncomputable def wX11_wish_13 (k : qM → Option (Int32 × qM)) : qT (Int32 × qM) := fun lo st m => match lo, st with
  | [_, _, _, _, _], [] => k m
  | _, _ => none
set_option maxRecDepth 20000 in
theorem sX11_wish_13 {C : qCx} {w : qWp} (h : qOk C w RX11 cX11_wish 5 2 155 155) (hm : qMt C (some .int)) (hx : qNx C) : qSnd C w 5 155 (qQf C w 155 155 jI) qfin 155 28 (tX11_wish_13) :=
  cB (pc := 28) h dX11_wish_28 rfl (zI (pc := 30) h hm (Nat.le_refl _) dX11_wish_30)
set_option maxRecDepth 20000 in
theorem lX11_wish_13 (m : qM) : tX11_wish_13 [none, none, none, none, none] [] m = fX11_wish_13 m := rfl
theorem bX11_wish_13 {C : qCx} {w : qWp} (h : qOk C w RX11 cX11_wish 5 2 155 155) (hm : qMt C (some .int)) (hx : qNx C) : qSnd C w 5 155 (qQf C w 155 155 jI) qfin 155 28 (wX11_wish_13 fX11_wish_13) :=
  qSnd_of (fun lo st m x hr0 => by
    unfold wX11_wish_13 at hr0
    split at hr0
    · exact ⟨_, (qsub_n (qsub_n (qsub_n (qsub_n (qsub_n qsub_nil))))), (lX11_wish_13 _).trans hr0⟩
    · cases hr0) (sX11_wish_13 h hm hx)
noncomputable def tX11_wish_0 (j13 : qT (Int32 × qM)) : qT (Int32 × qM) :=
  oLi 1 (oCi GX11_isFamily 1 (oEq (j13) (oLi 2 (oLi 3 (oC (.int (20 : Int32)) (oCi GX11_isSpan 3 (oEq (j13) (oLi 4 (oC (.int (0 : Int32)) (oC (.int (9 : Int32)) (oCi GX11_within 3 (oEq (j13) (oLa 0 (oCi GX11_hasSettledPlace 1 (oEq (oLa 0 (oGf 0 4 47 (oLi 1 (oLi 2 (oLi 3 (oCi GX11_slotsFrom 2 (oLi 4 (oCv GX3_setWish 4 (oC (.int (1 : Int32)) (eI)))))))))) (oC (.int (-4 : Int32)) (eI)))))))))))))))))
set_option maxRecDepth 20000 in
theorem sX11_wish_0 {C : qCx} {w : qWp} (h : qOk C w RX11 cX11_wish 5 2 155 155) (hm : qMt C (some .int)) (hx : qNx C) {j13 : qT (Int32 × qM)} (k13 : qSnd C w 5 155 (qQf C w 155 155 jI) qfin 155 28 j13) : qSnd C w 5 155 (qQf C w 155 155 jI) qfin 155 0 (tX11_wish_0 j13) :=
  cLi (pc := 0) h dX11_wish_0 rfl (kCi (pc := 1) h (kd_X11_170 h dX11_wish_1) spX11_isFamily (by decide) (by decide) (by decide) (by decide) (jEq (pc := 4) h dX11_wish_4 rfl (k13) (cLi (pc := 7) h dX11_wish_7 rfl (cLi (pc := 8) h dX11_wish_8 rfl (cB (pc := 9) h dX11_wish_9 rfl (kCi (pc := 11) h (kd_X11_160 h dX11_wish_11) spX11_isSpan (by decide) (by decide) (by decide) (by decide) (jEq (pc := 14) h dX11_wish_14 rfl (k13) (cLI (pc := 17) h dX11_wish_17 (cC (pc := 19) h dX11_wish_19 rfl (cB (pc := 20) h dX11_wish_20 rfl (kCi (pc := 22) h (kd_X11_103 h dX11_wish_22) spX11_within (by decide) (by decide) (by decide) (by decide) (jNe (pc := 25) h dX11_wish_25 rfl (cLa (pc := 31) h dX11_wish_31 rfl (kCi (pc := 32) h (kd_X11_110 h dX11_wish_32) spX11_hasSettledPlace (by decide) (by decide) (by decide) (by decide) (jEq (pc := 35) h dX11_wish_35 rfl (cLa (pc := 41) h dX11_wish_41 rfl (gGf (pc := 42) h dX11_wish_42 ff_X11_44_0 (Nat.le_of_ble_eq_true rfl) (Nat.le_of_ble_eq_true rfl) rfl (cLi (pc := 45) h dX11_wish_45 rfl (cLi (pc := 46) h dX11_wish_46 rfl (cLi (pc := 47) h dX11_wish_47 rfl (kCi (pc := 48) h (kd_X11_163 h dX11_wish_48) spX11_slotsFrom (by decide) (by decide) (by decide) (by decide) (cLI (pc := 51) h dX11_wish_51 (kCv (pc := 53) h (kd_X11_176 h dX11_wish_53) spX3_setWish (by decide) (by decide) (by decide) (by decide) (cC (pc := 56) h dX11_wish_56 rfl (zI (pc := 57) h hm (Nat.le_refl _) dX11_wish_57)))))))))) (cB (pc := 38) h dX11_wish_38 rfl (zI (pc := 40) h hm (Nat.le_refl _) dX11_wish_40))))) (k13)))))))))))))
set_option maxRecDepth 20000 in
theorem lX11_wish_0 (a1 : Int32) (a2 : Int32) (a3 : Int32) (a4 : Int32) (m : qM) : tX11_wish_0 (wX11_wish_13 fX11_wish_13) [some (.ref 0), some (.int a1), some (.int a2), some (.int a3), some (.int a4)] [] m = fX11_wish_0 a1 a2 a3 a4 m := rfl
noncomputable def GX11_wish : qG Int32 := fun av m => match av with
  | [.ref 0, .int a1, .int a2, .int a3, .int a4] => fX11_wish a1 a2 a3 a4 m
  | _ => none
theorem spX11_wish : qSpI yX11_wish (.code yX11_wish cX11_wish 5 (some .int)) 2 qfin 155 155 1 GX11_wish := by
  intro av m x m' hG
  unfold GX11_wish at hG
  split at hG
  · rename_i a1 a2 a3 a4
    rw [fX11_wish_d] at hG
    exact ⟨qmeet (J := jI) (r := (x, m')) (av := [.ref 0, .int a1, .int a2, .int a3, .int a4]) (by decide +kernel) (Nat.le_of_ble_eq_true rfl) (fun C w h hm hx hn => sX11_wish_0 h hm hx (bX11_wish_13 h hm hx)) ((lX11_wish_0 _ _ _ _ _).trans hG) (Nat.le_of_ble_eq_true rfl), Or.inl ⟨0, _, 11, _, _, rfl, by decide, rfl, qCk_11, rfl⟩⟩
  · cases hG
theorem im_X3_setApart : Jvm.Cond.instanceMethod yX3_setApart ∈ qTw := qm4 (List.mem_of_getElem? (i := 18) (by decide +kernel)) (by decide +kernel)
theorem se_X3_setApart : Jvm.Cond.selects yX3_setApart.cls yX3_setApart yX3_setApart ∈ qTw := qm4 (List.mem_of_getElem? (i := 19) (by decide +kernel)) (by decide +kernel)
theorem co_X3_setApart : Jvm.Cond.code yX3_setApart cX3_setApart 4 (some .boolean) ∈ qTw := qm4 (List.mem_of_getElem? (i := 20) (by decide +kernel)) (by decide +kernel)
theorem yk_X3_setApart : qYk yX3_setApart 3 := ⟨⟨by decide +kernel, by decide +kernel⟩, by decide +kernel⟩
theorem ml_X11_179 : Jvm.Cond.methodLink RX11 179 yX3_setApart ∈ qTw := qm4 (List.mem_of_getElem? (i := 17) (by decide +kernel)) (by decide +kernel)
theorem kd_X11_179 {C : qCx} {w : qWp} {cc : ByteArray} {nL dp n0 n1 pc : Nat} (h : qOk C w RX11 cc nL dp n0 n1) (d : decode cc pc = .ok (.invokevirtual 179, 3)) : qCallOk C w nL dp n0 n1 pc 4 1 yX3_setApart (.code yX3_setApart cX3_setApart 4 (some .boolean)) := kindV h d ml_X11_179 im_X3_setApart se_X3_setApart in_ParentEve_People co_X3_setApart yk_X3_setApart (by decide)
theorem dX11_apart_0 : decode cX11_apart 0 = .ok (.iload_n 1, 1) := by decide +kernel
theorem dX11_apart_1 : decode cX11_apart 1 = .ok (.invokestatic 170, 3) := by decide +kernel
theorem dX11_apart_4 : decode cX11_apart 4 = .ok (.ifCond .eq 15, 3) := by decide +kernel
theorem dX11_apart_7 : decode cX11_apart 7 = .ok (.iload_n 2, 1) := by decide +kernel
theorem dX11_apart_8 : decode cX11_apart 8 = .ok (.invokestatic 170, 3) := by decide +kernel
theorem dX11_apart_11 : decode cX11_apart 11 = .ok (.ifCond .eq 8, 3) := by decide +kernel
theorem dX11_apart_14 : decode cX11_apart 14 = .ok (.iload_n 1, 1) := by decide +kernel
theorem dX11_apart_15 : decode cX11_apart 15 = .ok (.iload_n 2, 1) := by decide +kernel
theorem dX11_apart_16 : decode cX11_apart 16 = .ok (.if_icmp .ne 6, 3) := by decide +kernel
theorem dX11_apart_19 : decode cX11_apart 19 = .ok (.bipush (-2), 2) := by decide +kernel
theorem dX11_apart_21 : decode cX11_apart 21 = .ok (.ireturn, 1) := by decide +kernel
theorem dX11_apart_22 : decode cX11_apart 22 = .ok (.aload_n 0, 1) := by decide +kernel
theorem dX11_apart_23 : decode cX11_apart 23 = .ok (.invokevirtual 110, 3) := by decide +kernel
theorem dX11_apart_26 : decode cX11_apart 26 = .ok (.ifCond .eq 6, 3) := by decide +kernel
theorem dX11_apart_29 : decode cX11_apart 29 = .ok (.bipush (-4), 2) := by decide +kernel
theorem dX11_apart_31 : decode cX11_apart 31 = .ok (.ireturn, 1) := by decide +kernel
theorem dX11_apart_32 : decode cX11_apart 32 = .ok (.aload_n 0, 1) := by decide +kernel
theorem dX11_apart_33 : decode cX11_apart 33 = .ok (.getfield 44, 3) := by decide +kernel
theorem dX11_apart_36 : decode cX11_apart 36 = .ok (.iload_n 1, 1) := by decide +kernel
theorem dX11_apart_37 : decode cX11_apart 37 = .ok (.iload_n 2, 1) := by decide +kernel
theorem dX11_apart_38 : decode cX11_apart 38 = .ok (.iload_n 3, 1) := by decide +kernel
theorem dX11_apart_39 : decode cX11_apart 39 = .ok (.invokevirtual 179, 3) := by decide +kernel
theorem dX11_apart_42 : decode cX11_apart 42 = .ok (.ifCond .eq 7, 3) := by decide +kernel
theorem dX11_apart_45 : decode cX11_apart 45 = .ok (.iconst 1, 1) := by decide +kernel
theorem dX11_apart_46 : decode cX11_apart 46 = .ok (.goto 4, 3) := by decide +kernel
theorem dX11_apart_49 : decode cX11_apart 49 = .ok (.iconst 0, 1) := by decide +kernel
theorem dX11_apart_50 : decode cX11_apart 50 = .ok (.ireturn, 1) := by decide +kernel
noncomputable def tX11_apart_9 : qT (Int32 × qM) :=
  oC (.int (-2 : Int32)) (eI)
noncomputable def wX11_apart_9 (k : qM → Option (Int32 × qM)) : qT (Int32 × qM) := fun lo st m => match lo, st with
  | [_, _, _, _], [] => k m
  | _, _ => none
set_option maxRecDepth 20000 in
theorem sX11_apart_9 {C : qCx} {w : qWp} (h : qOk C w RX11 cX11_apart 4 2 155 155) (hm : qMt C (some .int)) (hx : qNx C) : qSnd C w 4 155 (qQf C w 155 155 jI) qfin 155 19 (tX11_apart_9) :=
  cB (pc := 19) h dX11_apart_19 rfl (zI (pc := 21) h hm (Nat.le_refl _) dX11_apart_21)
set_option maxRecDepth 20000 in
theorem lX11_apart_9 (m : qM) : tX11_apart_9 [none, none, none, none] [] m = fX11_apart_9 m := rfl
theorem bX11_apart_9 {C : qCx} {w : qWp} (h : qOk C w RX11 cX11_apart 4 2 155 155) (hm : qMt C (some .int)) (hx : qNx C) : qSnd C w 4 155 (qQf C w 155 155 jI) qfin 155 19 (wX11_apart_9 fX11_apart_9) :=
  qSnd_of (fun lo st m x hr0 => by
    unfold wX11_apart_9 at hr0
    split at hr0
    · exact ⟨_, (qsub_n (qsub_n (qsub_n (qsub_n qsub_nil)))), (lX11_apart_9 _).trans hr0⟩
    · cases hr0) (sX11_apart_9 h hm hx)
noncomputable def tX11_apart_26 : qT (Int32 × qM) :=
  eI
noncomputable def wX11_apart_26 (k : Int32 → qM → Option (Int32 × qM)) : qT (Int32 × qM) := fun lo st m => match lo, st with
  | [_, _, _, _], [.int s0] => k s0 m
  | _, _ => none
set_option maxRecDepth 20000 in
theorem sX11_apart_26 {C : qCx} {w : qWp} (h : qOk C w RX11 cX11_apart 4 2 155 155) (hm : qMt C (some .int)) (hx : qNx C) : qSnd C w 4 155 (qQf C w 155 155 jI) qfin 155 50 (tX11_apart_26) :=
  zI (pc := 50) h hm (Nat.le_refl _) dX11_apart_50
set_option maxRecDepth 20000 in
theorem lX11_apart_26 (s0 : Int32) (m : qM) : tX11_apart_26 [none, none, none, none] [(.int s0)] m = fX11_apart_26 s0 m := rfl
theorem bX11_apart_26 {C : qCx} {w : qWp} (h : qOk C w RX11 cX11_apart 4 2 155 155) (hm : qMt C (some .int)) (hx : qNx C) : qSnd C w 4 155 (qQf C w 155 155 jI) qfin 155 50 (wX11_apart_26 fX11_apart_26) :=
  qSnd_of (fun lo st m x hr0 => by
    unfold wX11_apart_26 at hr0
    split at hr0
    · exact ⟨_, (qsub_n (qsub_n (qsub_n (qsub_n qsub_nil)))), (lX11_apart_26 _ _).trans hr0⟩
    · cases hr0) (sX11_apart_26 h hm hx)
noncomputable def tX11_apart_0 (j9 : qT (Int32 × qM)) (j26 : qT (Int32 × qM)) : qT (Int32 × qM) :=
  oLi 1 (oCi GX11_isFamily 1 (oEq (j9) (oLi 2 (oCi GX11_isFamily 1 (oEq (j9) (oLi 1 (oLi 2 (oCEq (j9) (oLa 0 (oCi GX11_hasSettledPlace 1 (oEq (oLa 0 (oGf 0 4 47 (oLi 1 (oLi 2 (oLi 3 (oCi GX3_setApart 4 (oEq (oC (.int (0 : Int32)) (j26)) (oC (.int (1 : Int32)) (j26))))))))) (oC (.int (-4 : Int32)) (eI)))))))))))))
set_option maxRecDepth 20000 in
theorem sX11_apart_0 {C : qCx} {w : qWp} (h : qOk C w RX11 cX11_apart 4 2 155 155) (hm : qMt C (some .int)) (hx : qNx C) {j9 : qT (Int32 × qM)} {j26 : qT (Int32 × qM)} (k9 : qSnd C w 4 155 (qQf C w 155 155 jI) qfin 155 19 j9) (k26 : qSnd C w 4 155 (qQf C w 155 155 jI) qfin 155 50 j26) : qSnd C w 4 155 (qQf C w 155 155 jI) qfin 155 0 (tX11_apart_0 j9 j26) :=
  cLi (pc := 0) h dX11_apart_0 rfl (kCi (pc := 1) h (kd_X11_170 h dX11_apart_1) spX11_isFamily (by decide) (by decide) (by decide) (by decide) (jEq (pc := 4) h dX11_apart_4 rfl (k9) (cLi (pc := 7) h dX11_apart_7 rfl (kCi (pc := 8) h (kd_X11_170 h dX11_apart_8) spX11_isFamily (by decide) (by decide) (by decide) (by decide) (jEq (pc := 11) h dX11_apart_11 rfl (k9) (cLi (pc := 14) h dX11_apart_14 rfl (cLi (pc := 15) h dX11_apart_15 rfl (jCNe (pc := 16) h dX11_apart_16 rfl (cLa (pc := 22) h dX11_apart_22 rfl (kCi (pc := 23) h (kd_X11_110 h dX11_apart_23) spX11_hasSettledPlace (by decide) (by decide) (by decide) (by decide) (jEq (pc := 26) h dX11_apart_26 rfl (cLa (pc := 32) h dX11_apart_32 rfl (gGf (pc := 33) h dX11_apart_33 ff_X11_44_0 (Nat.le_of_ble_eq_true rfl) (Nat.le_of_ble_eq_true rfl) rfl (cLi (pc := 36) h dX11_apart_36 rfl (cLi (pc := 37) h dX11_apart_37 rfl (cLi (pc := 38) h dX11_apart_38 rfl (kCi (pc := 39) h (kd_X11_179 h dX11_apart_39) spX3_setApart (by decide) (by decide) (by decide) (by decide) (jEq (pc := 42) h dX11_apart_42 rfl (cC (pc := 49) h dX11_apart_49 rfl (k26)) (cC (pc := 45) h dX11_apart_45 rfl (jGo (pc := 46) h dX11_apart_46 rfl (k26)))))))))) (cB (pc := 29) h dX11_apart_29 rfl (zI (pc := 31) h hm (Nat.le_refl _) dX11_apart_31))))) (k9)))))))))
set_option maxRecDepth 20000 in
theorem lX11_apart_0 (a1 : Int32) (a2 : Int32) (a3 : Int32) (m : qM) : tX11_apart_0 (wX11_apart_9 fX11_apart_9) (wX11_apart_26 fX11_apart_26) [some (.ref 0), some (.int a1), some (.int a2), some (.int a3)] [] m = fX11_apart_0 a1 a2 a3 m := rfl
noncomputable def GX11_apart : qG Int32 := fun av m => match av with
  | [.ref 0, .int a1, .int a2, .int a3] => fX11_apart a1 a2 a3 m
  | _ => none
theorem spX11_apart : qSpI yX11_apart (.code yX11_apart cX11_apart 4 (some .int)) 2 qfin 155 155 1 GX11_apart := by
  intro av m x m' hG
  unfold GX11_apart at hG
  split at hG
  · rename_i a1 a2 a3
    rw [fX11_apart_d] at hG
    exact ⟨qmeet (J := jI) (r := (x, m')) (av := [.ref 0, .int a1, .int a2, .int a3]) (by decide +kernel) (Nat.le_of_ble_eq_true rfl) (fun C w h hm hx hn => sX11_apart_0 h hm hx (bX11_apart_9 h hm hx) (bX11_apart_26 h hm hx)) ((lX11_apart_0 _ _ _ _).trans hG) (Nat.le_of_ble_eq_true rfl), Or.inl ⟨0, _, 11, _, _, rfl, by decide, rfl, qCk_11, rfl⟩⟩
  · cases hG
theorem ml_X11_183 : Jvm.Cond.methodLink RX11 183 yX3_walkBetween ∈ qTw := qm4 (List.mem_of_getElem? (i := 26) (by decide +kernel)) (by decide +kernel)
theorem kd_X11_183 {C : qCx} {w : qWp} {cc : ByteArray} {nL dp n0 n1 pc : Nat} (h : qOk C w RX11 cc nL dp n0 n1) (d : decode cc pc = .ok (.invokevirtual 183, 3)) : qCallOk C w nL dp n0 n1 pc 3 1 yX3_walkBetween (.code yX3_walkBetween cX3_walkBetween 3 (some .int)) := kindV h d ml_X11_183 im_X3_walkBetween se_X3_walkBetween in_ParentEve_People co_X3_walkBetween yk_X3_walkBetween (by decide)
theorem dX11_walk_0 : decode cX11_walk 0 = .ok (.iload_n 1, 1) := by decide +kernel
theorem dX11_walk_1 : decode cX11_walk 1 = .ok (.invokestatic 140, 3) := by decide +kernel
theorem dX11_walk_4 : decode cX11_walk 4 = .ok (.ifCond .eq 22, 3) := by decide +kernel
theorem dX11_walk_7 : decode cX11_walk 7 = .ok (.iload_n 2, 1) := by decide +kernel
theorem dX11_walk_8 : decode cX11_walk 8 = .ok (.invokestatic 140, 3) := by decide +kernel
theorem dX11_walk_11 : decode cX11_walk 11 = .ok (.ifCond .eq 15, 3) := by decide +kernel
theorem dX11_walk_14 : decode cX11_walk 14 = .ok (.aload_n 0, 1) := by decide +kernel
theorem dX11_walk_15 : decode cX11_walk 15 = .ok (.getfield 44, 3) := by decide +kernel
theorem dX11_walk_18 : decode cX11_walk 18 = .ok (.iload_n 1, 1) := by decide +kernel
theorem dX11_walk_19 : decode cX11_walk 19 = .ok (.iload_n 2, 1) := by decide +kernel
theorem dX11_walk_20 : decode cX11_walk 20 = .ok (.invokevirtual 183, 3) := by decide +kernel
theorem dX11_walk_23 : decode cX11_walk 23 = .ok (.goto 5, 3) := by decide +kernel
theorem dX11_walk_26 : decode cX11_walk 26 = .ok (.bipush (-2), 2) := by decide +kernel
theorem dX11_walk_28 : decode cX11_walk 28 = .ok (.ireturn, 1) := by decide +kernel
noncomputable def tX11_walk_13 : qT (Int32 × qM) :=
  eI
noncomputable def wX11_walk_13 (k : Int32 → qM → Option (Int32 × qM)) : qT (Int32 × qM) := fun lo st m => match lo, st with
  | [_, _, _], [.int s0] => k s0 m
  | _, _ => none
set_option maxRecDepth 20000 in
theorem sX11_walk_13 {C : qCx} {w : qWp} (h : qOk C w RX11 cX11_walk 3 2 155 155) (hm : qMt C (some .int)) (hx : qNx C) : qSnd C w 3 155 (qQf C w 155 155 jI) qfin 155 28 (tX11_walk_13) :=
  zI (pc := 28) h hm (Nat.le_refl _) dX11_walk_28
set_option maxRecDepth 20000 in
theorem lX11_walk_13 (s0 : Int32) (m : qM) : tX11_walk_13 [none, none, none] [(.int s0)] m = fX11_walk_13 s0 m := rfl
theorem bX11_walk_13 {C : qCx} {w : qWp} (h : qOk C w RX11 cX11_walk 3 2 155 155) (hm : qMt C (some .int)) (hx : qNx C) : qSnd C w 3 155 (qQf C w 155 155 jI) qfin 155 28 (wX11_walk_13 fX11_walk_13) :=
  qSnd_of (fun lo st m x hr0 => by
    unfold wX11_walk_13 at hr0
    split at hr0
    · exact ⟨_, (qsub_n (qsub_n (qsub_n qsub_nil))), (lX11_walk_13 _ _).trans hr0⟩
    · cases hr0) (sX11_walk_13 h hm hx)
noncomputable def tX11_walk_12 (j13 : qT (Int32 × qM)) : qT (Int32 × qM) :=
  oC (.int (-2 : Int32)) (j13)
noncomputable def wX11_walk_12 (k : qM → Option (Int32 × qM)) : qT (Int32 × qM) := fun lo st m => match lo, st with
  | [_, _, _], [] => k m
  | _, _ => none
set_option maxRecDepth 20000 in
theorem sX11_walk_12 {C : qCx} {w : qWp} (h : qOk C w RX11 cX11_walk 3 2 155 155) (hm : qMt C (some .int)) (hx : qNx C) {j13 : qT (Int32 × qM)} (k13 : qSnd C w 3 155 (qQf C w 155 155 jI) qfin 155 28 j13) : qSnd C w 3 155 (qQf C w 155 155 jI) qfin 155 26 (tX11_walk_12 j13) :=
  cB (pc := 26) h dX11_walk_26 rfl (k13)
set_option maxRecDepth 20000 in
theorem lX11_walk_12 (m : qM) : tX11_walk_12 (wX11_walk_13 fX11_walk_13) [none, none, none] [] m = fX11_walk_12 m := rfl
theorem bX11_walk_12 {C : qCx} {w : qWp} (h : qOk C w RX11 cX11_walk 3 2 155 155) (hm : qMt C (some .int)) (hx : qNx C) : qSnd C w 3 155 (qQf C w 155 155 jI) qfin 155 26 (wX11_walk_12 fX11_walk_12) :=
  qSnd_of (fun lo st m x hr0 => by
    unfold wX11_walk_12 at hr0
    split at hr0
    · exact ⟨_, (qsub_n (qsub_n (qsub_n qsub_nil))), (lX11_walk_12 _).trans hr0⟩
    · cases hr0) (sX11_walk_12 h hm hx (bX11_walk_13 h hm hx))
noncomputable def tX11_walk_0 (j12 : qT (Int32 × qM)) (j13 : qT (Int32 × qM)) : qT (Int32 × qM) :=
  oLi 1 (oCi GX11_isTeacher 1 (oEq (j12) (oLi 2 (oCi GX11_isTeacher 1 (oEq (j12) (oLa 0 (oGf 0 4 47 (oLi 1 (oLi 2 (oCi GX3_walkBetween 3 (j13)))))))))))
set_option maxRecDepth 20000 in
theorem sX11_walk_0 {C : qCx} {w : qWp} (h : qOk C w RX11 cX11_walk 3 2 155 155) (hm : qMt C (some .int)) (hx : qNx C) {j12 : qT (Int32 × qM)} {j13 : qT (Int32 × qM)} (k12 : qSnd C w 3 155 (qQf C w 155 155 jI) qfin 155 26 j12) (k13 : qSnd C w 3 155 (qQf C w 155 155 jI) qfin 155 28 j13) : qSnd C w 3 155 (qQf C w 155 155 jI) qfin 155 0 (tX11_walk_0 j12 j13) :=
  cLi (pc := 0) h dX11_walk_0 rfl (kCi (pc := 1) h (kd_X11_140 h dX11_walk_1) spX11_isTeacher (by decide) (by decide) (by decide) (by decide) (jEq (pc := 4) h dX11_walk_4 rfl (k12) (cLi (pc := 7) h dX11_walk_7 rfl (kCi (pc := 8) h (kd_X11_140 h dX11_walk_8) spX11_isTeacher (by decide) (by decide) (by decide) (by decide) (jEq (pc := 11) h dX11_walk_11 rfl (k12) (cLa (pc := 14) h dX11_walk_14 rfl (gGf (pc := 15) h dX11_walk_15 ff_X11_44_0 (Nat.le_of_ble_eq_true rfl) (Nat.le_of_ble_eq_true rfl) rfl (cLi (pc := 18) h dX11_walk_18 rfl (cLi (pc := 19) h dX11_walk_19 rfl (kCi (pc := 20) h (kd_X11_183 h dX11_walk_20) spX3_walkBetween (by decide) (by decide) (by decide) (by decide) (jGo (pc := 23) h dX11_walk_23 rfl (k13))))))))))))
set_option maxRecDepth 20000 in
theorem lX11_walk_0 (a1 : Int32) (a2 : Int32) (m : qM) : tX11_walk_0 (wX11_walk_12 fX11_walk_12) (wX11_walk_13 fX11_walk_13) [some (.ref 0), some (.int a1), some (.int a2)] [] m = fX11_walk_0 a1 a2 m := rfl
noncomputable def GX11_walk : qG Int32 := fun av m => match av with
  | [.ref 0, .int a1, .int a2] => fX11_walk a1 a2 m
  | _ => none
theorem spX11_walk : qSpI yX11_walk (.code yX11_walk cX11_walk 3 (some .int)) 2 qfin 155 155 1 GX11_walk := by
  intro av m x m' hG
  unfold GX11_walk at hG
  split at hG
  · rename_i a1 a2
    rw [fX11_walk_d] at hG
    exact ⟨qmeet (J := jI) (r := (x, m')) (av := [.ref 0, .int a1, .int a2]) (by decide +kernel) (Nat.le_of_ble_eq_true rfl) (fun C w h hm hx hn => sX11_walk_0 h hm hx (bX11_walk_12 h hm hx) (bX11_walk_13 h hm hx)) ((lX11_walk_0 _ _ _).trans hG) (Nat.le_of_ble_eq_true rfl), Or.inl ⟨0, _, 11, _, _, rfl, by decide, rfl, qCk_11, rfl⟩⟩
  · cases hG
theorem ml_X11_186 : Jvm.Cond.methodLink RX11 186 yX4_askOf ∈ qTw := qm4 (List.mem_of_getElem? (i := 34) (by decide +kernel)) (by decide +kernel)
theorem kd_X11_186 {C : qCx} {w : qWp} {cc : ByteArray} {nL dp n0 n1 pc : Nat} (h : qOk C w RX11 cc nL dp n0 n1) (d : decode cc pc = .ok (.invokevirtual 186, 3)) : qCallOk C w nL dp n0 n1 pc 3 1 yX4_askOf (.code yX4_askOf cX4_askOf 3 (some .int)) := kindV h d ml_X11_186 im_X4_askOf se_X4_askOf in_ParentEve_Plan co_X4_askOf yk_X4_askOf (by decide)
theorem ml_X11_189 : Jvm.Cond.methodLink RX11 189 yX4_asks ∈ qTw := qm4 (List.mem_of_getElem? (i := 38) (by decide +kernel)) (by decide +kernel)
theorem kd_X11_189 {C : qCx} {w : qWp} {cc : ByteArray} {nL dp n0 n1 pc : Nat} (h : qOk C w RX11 cc nL dp n0 n1) (d : decode cc pc = .ok (.invokevirtual 189, 3)) : qCallOk C w nL dp n0 n1 pc 1 1 yX4_asks (.code yX4_asks cX4_asks 1 (some .int)) := kindV h d ml_X11_189 im_X4_asks se_X4_asks in_ParentEve_Plan co_X4_asks yk_X4_asks (by decide)
theorem im_X4_addAsk : Jvm.Cond.instanceMethod yX4_addAsk ∈ qTw := qm4 (List.mem_of_getElem? (i := 43) (by decide +kernel)) (by decide +kernel)
theorem se_X4_addAsk : Jvm.Cond.selects yX4_addAsk.cls yX4_addAsk yX4_addAsk ∈ qTw := qm4 (List.mem_of_getElem? (i := 44) (by decide +kernel)) (by decide +kernel)
theorem co_X4_addAsk : Jvm.Cond.code yX4_addAsk cX4_addAsk 5 (some .int) ∈ qTw := qm4 (List.mem_of_getElem? (i := 45) (by decide +kernel)) (by decide +kernel)
theorem yk_X4_addAsk : qYk yX4_addAsk 3 := ⟨⟨by decide +kernel, by decide +kernel⟩, by decide +kernel⟩
theorem ml_X11_192 : Jvm.Cond.methodLink RX11 192 yX4_addAsk ∈ qTw := qm4 (List.mem_of_getElem? (i := 42) (by decide +kernel)) (by decide +kernel)
theorem kd_X11_192 {C : qCx} {w : qWp} {cc : ByteArray} {nL dp n0 n1 pc : Nat} (h : qOk C w RX11 cc nL dp n0 n1) (d : decode cc pc = .ok (.invokevirtual 192, 3)) : qCallOk C w nL dp n0 n1 pc 4 1 yX4_addAsk (.code yX4_addAsk cX4_addAsk 5 (some .int)) := kindV h d ml_X11_192 im_X4_addAsk se_X4_addAsk in_ParentEve_Plan co_X4_addAsk yk_X4_addAsk (by decide)
theorem dX11_ask_0 : decode cX11_ask 0 = .ok (.iload_n 1, 1) := by decide +kernel
theorem dX11_ask_1 : decode cX11_ask 1 = .ok (.invokestatic 170, 3) := by decide +kernel
theorem dX11_ask_4 : decode cX11_ask 4 = .ok (.ifCond .eq 10, 3) := by decide +kernel
theorem dX11_ask_7 : decode cX11_ask 7 = .ok (.iload_n 2, 1) := by decide +kernel
theorem dX11_ask_8 : decode cX11_ask 8 = .ok (.invokestatic 140, 3) := by decide +kernel
theorem dX11_ask_11 : decode cX11_ask 11 = .ok (.ifCond .ne 6, 3) := by decide +kernel
theorem dX11_ask_14 : decode cX11_ask 14 = .ok (.bipush (-2), 2) := by decide +kernel
theorem dX11_ask_16 : decode cX11_ask 16 = .ok (.ireturn, 1) := by decide +kernel
theorem dX11_ask_17 : decode cX11_ask 17 = .ok (.aload_n 0, 1) := by decide +kernel
theorem dX11_ask_18 : decode cX11_ask 18 = .ok (.getfield 91, 3) := by decide +kernel
theorem dX11_ask_21 : decode cX11_ask 21 = .ok (.ifCond .ne 16, 3) := by decide +kernel
theorem dX11_ask_24 : decode cX11_ask 24 = .ok (.aload_n 0, 1) := by decide +kernel
theorem dX11_ask_25 : decode cX11_ask 25 = .ok (.getfield 53, 3) := by decide +kernel
theorem dX11_ask_28 : decode cX11_ask 28 = .ok (.iload_n 1, 1) := by decide +kernel
theorem dX11_ask_29 : decode cX11_ask 29 = .ok (.iload_n 2, 1) := by decide +kernel
theorem dX11_ask_30 : decode cX11_ask 30 = .ok (.invokevirtual 186, 3) := by decide +kernel
theorem dX11_ask_33 : decode cX11_ask 33 = .ok (.iconst (-1), 1) := by decide +kernel
theorem dX11_ask_34 : decode cX11_ask 34 = .ok (.if_icmp .eq 6, 3) := by decide +kernel
theorem dX11_ask_37 : decode cX11_ask 37 = .ok (.bipush (-4), 2) := by decide +kernel
theorem dX11_ask_39 : decode cX11_ask 39 = .ok (.ireturn, 1) := by decide +kernel
theorem dX11_ask_40 : decode cX11_ask 40 = .ok (.aload_n 0, 1) := by decide +kernel
theorem dX11_ask_41 : decode cX11_ask 41 = .ok (.getfield 53, 3) := by decide +kernel
theorem dX11_ask_44 : decode cX11_ask 44 = .ok (.invokevirtual 189, 3) := by decide +kernel
theorem dX11_ask_47 : decode cX11_ask 47 = .ok (.bipush 40, 2) := by decide +kernel
theorem dX11_ask_49 : decode cX11_ask 49 = .ok (.if_icmp .ge 16, 3) := by decide +kernel
theorem dX11_ask_52 : decode cX11_ask 52 = .ok (.aload_n 0, 1) := by decide +kernel
theorem dX11_ask_53 : decode cX11_ask 53 = .ok (.getfield 53, 3) := by decide +kernel
theorem dX11_ask_56 : decode cX11_ask 56 = .ok (.iload_n 1, 1) := by decide +kernel
theorem dX11_ask_57 : decode cX11_ask 57 = .ok (.iload_n 2, 1) := by decide +kernel
theorem dX11_ask_58 : decode cX11_ask 58 = .ok (.iload_n 3, 1) := by decide +kernel
theorem dX11_ask_59 : decode cX11_ask 59 = .ok (.invokevirtual 192, 3) := by decide +kernel
theorem dX11_ask_62 : decode cX11_ask 62 = .ok (.goto 5, 3) := by decide +kernel
theorem dX11_ask_65 : decode cX11_ask 65 = .ok (.bipush (-3), 2) := by decide +kernel
theorem dX11_ask_67 : decode cX11_ask 67 = .ok (.ireturn, 1) := by decide +kernel
noncomputable def tX11_ask_6 : qT (Int32 × qM) :=
  oC (.int (-2 : Int32)) (eI)
noncomputable def wX11_ask_6 (k : qM → Option (Int32 × qM)) : qT (Int32 × qM) := fun lo st m => match lo, st with
  | [_, _, _, _], [] => k m
  | _, _ => none
set_option maxRecDepth 20000 in
theorem sX11_ask_6 {C : qCx} {w : qWp} (h : qOk C w RX11 cX11_ask 4 2 155 155) (hm : qMt C (some .int)) (hx : qNx C) : qSnd C w 4 155 (qQf C w 155 155 jI) qfin 155 14 (tX11_ask_6) :=
  cB (pc := 14) h dX11_ask_14 rfl (zI (pc := 16) h hm (Nat.le_refl _) dX11_ask_16)
set_option maxRecDepth 20000 in
theorem lX11_ask_6 (m : qM) : tX11_ask_6 [none, none, none, none] [] m = fX11_ask_6 m := rfl
theorem bX11_ask_6 {C : qCx} {w : qWp} (h : qOk C w RX11 cX11_ask 4 2 155 155) (hm : qMt C (some .int)) (hx : qNx C) : qSnd C w 4 155 (qQf C w 155 155 jI) qfin 155 14 (wX11_ask_6 fX11_ask_6) :=
  qSnd_of (fun lo st m x hr0 => by
    unfold wX11_ask_6 at hr0
    split at hr0
    · exact ⟨_, (qsub_n (qsub_n (qsub_n (qsub_n qsub_nil)))), (lX11_ask_6 _).trans hr0⟩
    · cases hr0) (sX11_ask_6 h hm hx)
noncomputable def tX11_ask_18 : qT (Int32 × qM) :=
  oC (.int (-4 : Int32)) (eI)
noncomputable def wX11_ask_18 (k : qM → Option (Int32 × qM)) : qT (Int32 × qM) := fun lo st m => match lo, st with
  | [_, _, _, _], [] => k m
  | _, _ => none
set_option maxRecDepth 20000 in
theorem sX11_ask_18 {C : qCx} {w : qWp} (h : qOk C w RX11 cX11_ask 4 2 155 155) (hm : qMt C (some .int)) (hx : qNx C) : qSnd C w 4 155 (qQf C w 155 155 jI) qfin 155 37 (tX11_ask_18) :=
  cB (pc := 37) h dX11_ask_37 rfl (zI (pc := 39) h hm (Nat.le_refl _) dX11_ask_39)
set_option maxRecDepth 20000 in
theorem lX11_ask_18 (m : qM) : tX11_ask_18 [none, none, none, none] [] m = fX11_ask_18 m := rfl
theorem bX11_ask_18 {C : qCx} {w : qWp} (h : qOk C w RX11 cX11_ask 4 2 155 155) (hm : qMt C (some .int)) (hx : qNx C) : qSnd C w 4 155 (qQf C w 155 155 jI) qfin 155 37 (wX11_ask_18 fX11_ask_18) :=
  qSnd_of (fun lo st m x hr0 => by
    unfold wX11_ask_18 at hr0
    split at hr0
    · exact ⟨_, (qsub_n (qsub_n (qsub_n (qsub_n qsub_nil)))), (lX11_ask_18 _).trans hr0⟩
    · cases hr0) (sX11_ask_18 h hm hx)
noncomputable def tX11_ask_33 : qT (Int32 × qM) :=
  eI
noncomputable def wX11_ask_33 (k : Int32 → qM → Option (Int32 × qM)) : qT (Int32 × qM) := fun lo st m => match lo, st with
  | [_, _, _, _], [.int s0] => k s0 m
  | _, _ => none
set_option maxRecDepth 20000 in
theorem sX11_ask_33 {C : qCx} {w : qWp} (h : qOk C w RX11 cX11_ask 4 2 155 155) (hm : qMt C (some .int)) (hx : qNx C) : qSnd C w 4 155 (qQf C w 155 155 jI) qfin 155 67 (tX11_ask_33) :=
  zI (pc := 67) h hm (Nat.le_refl _) dX11_ask_67
set_option maxRecDepth 20000 in
theorem lX11_ask_33 (s0 : Int32) (m : qM) : tX11_ask_33 [none, none, none, none] [(.int s0)] m = fX11_ask_33 s0 m := rfl
theorem bX11_ask_33 {C : qCx} {w : qWp} (h : qOk C w RX11 cX11_ask 4 2 155 155) (hm : qMt C (some .int)) (hx : qNx C) : qSnd C w 4 155 (qQf C w 155 155 jI) qfin 155 67 (wX11_ask_33 fX11_ask_33) :=
  qSnd_of (fun lo st m x hr0 => by
    unfold wX11_ask_33 at hr0
    split at hr0
    · exact ⟨_, (qsub_n (qsub_n (qsub_n (qsub_n qsub_nil)))), (lX11_ask_33 _ _).trans hr0⟩
    · cases hr0) (sX11_ask_33 h hm hx)
noncomputable def tX11_ask_0 (j6 : qT (Int32 × qM)) (j18 : qT (Int32 × qM)) (j33 : qT (Int32 × qM)) : qT (Int32 × qM) :=
  oLi 1 (oCi GX11_isFamily 1 (oEq (j6) (oLi 2 (oCi GX11_isTeacher 1 (oEq (j6) (oLa 0 (oGi 0 10 (oEq (oLa 0 (oGf 0 5 58 (oLi 1 (oLi 2 (oCi GX4_askOf 3 (oC (.int (-1 : Int32)) (oCEq (oLa 0 (oGf 0 5 58 (oCi GX4_asks 1 (oC (.int (40 : Int32)) (oCGe (oC (.int (-3 : Int32)) (j33)) (oLa 0 (oGf 0 5 58 (oLi 1 (oLi 2 (oLi 3 (oCi GX4_addAsk 4 (j33)))))))))))) (j18)))))))) (j18)))))))))
set_option maxRecDepth 20000 in
theorem sX11_ask_0 {C : qCx} {w : qWp} (h : qOk C w RX11 cX11_ask 4 2 155 155) (hm : qMt C (some .int)) (hx : qNx C) {j6 : qT (Int32 × qM)} {j18 : qT (Int32 × qM)} {j33 : qT (Int32 × qM)} (k6 : qSnd C w 4 155 (qQf C w 155 155 jI) qfin 155 14 j6) (k18 : qSnd C w 4 155 (qQf C w 155 155 jI) qfin 155 37 j18) (k33 : qSnd C w 4 155 (qQf C w 155 155 jI) qfin 155 67 j33) : qSnd C w 4 155 (qQf C w 155 155 jI) qfin 155 0 (tX11_ask_0 j6 j18 j33) :=
  cLi (pc := 0) h dX11_ask_0 rfl (kCi (pc := 1) h (kd_X11_170 h dX11_ask_1) spX11_isFamily (by decide) (by decide) (by decide) (by decide) (jEq (pc := 4) h dX11_ask_4 rfl (k6) (cLi (pc := 7) h dX11_ask_7 rfl (kCi (pc := 8) h (kd_X11_140 h dX11_ask_8) spX11_isTeacher (by decide) (by decide) (by decide) (by decide) (jNe (pc := 11) h dX11_ask_11 rfl (cLa (pc := 17) h dX11_ask_17 rfl (gGz (pc := 18) h dX11_ask_18 ff_X11_91_0 (Nat.le_of_ble_eq_true rfl) (Nat.le_of_ble_eq_true rfl) (jNe (pc := 21) h dX11_ask_21 rfl (k18) (cLa (pc := 24) h dX11_ask_24 rfl (gGf (pc := 25) h dX11_ask_25 ff_X11_53_0 (Nat.le_of_ble_eq_true rfl) (Nat.le_of_ble_eq_true rfl) rfl (cLi (pc := 28) h dX11_ask_28 rfl (cLi (pc := 29) h dX11_ask_29 rfl (kCi (pc := 30) h (kd_X11_186 h dX11_ask_30) spX4_askOf (by decide) (by decide) (by decide) (by decide) (cC (pc := 33) h dX11_ask_33 rfl (jCEq (pc := 34) h dX11_ask_34 rfl (cLa (pc := 40) h dX11_ask_40 rfl (gGf (pc := 41) h dX11_ask_41 ff_X11_53_0 (Nat.le_of_ble_eq_true rfl) (Nat.le_of_ble_eq_true rfl) rfl (kCi (pc := 44) h (kd_X11_189 h dX11_ask_44) spX4_asks (by decide) (by decide) (by decide) (by decide) (cB (pc := 47) h dX11_ask_47 rfl (jCGe (pc := 49) h dX11_ask_49 rfl (cB (pc := 65) h dX11_ask_65 rfl (k33)) (cLa (pc := 52) h dX11_ask_52 rfl (gGf (pc := 53) h dX11_ask_53 ff_X11_53_0 (Nat.le_of_ble_eq_true rfl) (Nat.le_of_ble_eq_true rfl) rfl (cLi (pc := 56) h dX11_ask_56 rfl (cLi (pc := 57) h dX11_ask_57 rfl (cLi (pc := 58) h dX11_ask_58 rfl (kCi (pc := 59) h (kd_X11_192 h dX11_ask_59) spX4_addAsk (by decide) (by decide) (by decide) (by decide) (jGo (pc := 62) h dX11_ask_62 rfl (k33))))))))))))) (k18))))))))))) (k6))))))
set_option maxRecDepth 20000 in
theorem lX11_ask_0 (a1 : Int32) (a2 : Int32) (a3 : Int32) (m : qM) : tX11_ask_0 (wX11_ask_6 fX11_ask_6) (wX11_ask_18 fX11_ask_18) (wX11_ask_33 fX11_ask_33) [some (.ref 0), some (.int a1), some (.int a2), some (.int a3)] [] m = fX11_ask_0 a1 a2 a3 m := rfl
noncomputable def GX11_ask : qG Int32 := fun av m => match av with
  | [.ref 0, .int a1, .int a2, .int a3] => fX11_ask a1 a2 a3 m
  | _ => none
theorem spX11_ask : qSpI yX11_ask (.code yX11_ask cX11_ask 4 (some .int)) 2 qfin 155 155 1 GX11_ask := by
  intro av m x m' hG
  unfold GX11_ask at hG
  split at hG
  · rename_i a1 a2 a3
    rw [fX11_ask_d] at hG
    exact ⟨qmeet (J := jI) (r := (x, m')) (av := [.ref 0, .int a1, .int a2, .int a3]) (by decide +kernel) (Nat.le_of_ble_eq_true rfl) (fun C w h hm hx hn => sX11_ask_0 h hm hx (bX11_ask_6 h hm hx) (bX11_ask_18 h hm hx) (bX11_ask_33 h hm hx)) ((lX11_ask_0 _ _ _ _).trans hG) (Nat.le_of_ble_eq_true rfl), Or.inl ⟨0, _, 11, _, _, rfl, by decide, rfl, qCk_11, rfl⟩⟩
  · cases hG

