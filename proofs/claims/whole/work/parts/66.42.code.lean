/-! methods (by program): X13_find, X13_found, X13_count -/
theorem fc_X13_522 : Jvm.Cond.constantLong RX13 522 (20 : Int64) ∈ qTw := qm9 (List.mem_of_getElem? (i := 144) (by decide +kernel)) (by decide +kernel)
theorem mf_X13_524 : Jvm.Cond.fieldLink RX13 524 (qTb 13 75).1 (qTb 13 75).2.1 (qTb 13 75).2.2.1 ∈ qTw := qm7 (List.mem_of_getElem? (i := 53) (by decide +kernel)) (by decide +kernel)
theorem ff_X13_524_98 : qFd RX13 524 98 13 75 0 := ⟨mf_X13_524, rfl, by decide, rfl⟩
theorem im_X13_hasWord : Jvm.Cond.instanceMethod yX13_hasWord ∈ qTw := qm9 (List.mem_of_getElem? (i := 150) (by decide +kernel)) (by decide +kernel)
theorem se_X13_hasWord : Jvm.Cond.selects yX13_hasWord.cls yX13_hasWord yX13_hasWord ∈ qTw := List.mem_filter.mpr ⟨List.mem_append_left _ (List.mem_of_getElem? (i := 86) (by decide +kernel)), rfl⟩
theorem co_X13_hasWord : Jvm.Cond.code yX13_hasWord cX13_hasWord 4 (some .boolean) ∈ qTw := qm9 (List.mem_of_getElem? (i := 151) (by decide +kernel)) (by decide +kernel)
theorem yk_X13_hasWord : qYk yX13_hasWord 1 := ⟨⟨by decide +kernel, by decide +kernel⟩, by decide +kernel⟩
theorem ml_X13_527 : Jvm.Cond.methodLink RX13 527 yX13_hasWord ∈ qTw := qm9 (List.mem_of_getElem? (i := 148) (by decide +kernel)) (by decide +kernel)
theorem kd_X13_527 {C : qCx} {w : qWp} {cc : ByteArray} {nL dp n0 n1 pc : Nat} (h : qOk C w RX13 cc nL dp n0 n1) (d : decode cc pc = .ok (.invokevirtual 527, 3)) : qCallOk C w nL dp n0 n1 pc 2 1 yX13_hasWord (.code yX13_hasWord cX13_hasWord 4 (some .boolean)) := kindV h d ml_X13_527 im_X13_hasWord se_X13_hasWord in_ParentEveModel co_X13_hasWord yk_X13_hasWord (by decide)
theorem mf_X13_301 : Jvm.Cond.fieldLink RX13 301 (qTb 13 72).1 (qTb 13 72).2.1 (qTb 13 72).2.2.1 ∈ qTw := qm7 (List.mem_of_getElem? (i := 50) (by decide +kernel)) (by decide +kernel)
theorem ff_X13_301_98 : qFd RX13 301 98 13 72 3 := ⟨mf_X13_301, rfl, by decide, rfl⟩
theorem dX13_find_0 : decode cX13_find 0 = .ok (.aload_n 0, 1) := by decide +kernel
theorem dX13_find_1 : decode cX13_find 1 = .ok (.invokevirtual 323, 3) := by decide +kernel
theorem dX13_find_4 : decode cX13_find 4 = .ok (.iload_n 1, 1) := by decide +kernel
theorem dX13_find_5 : decode cX13_find 5 = .ok (.invokestatic 340, 3) := by decide +kernel
theorem dX13_find_8 : decode cX13_find 8 = .ok (.ifCond .ne 6, 3) := by decide +kernel
theorem dX13_find_11 : decode cX13_find 11 = .ok (.bipush (-2), 2) := by decide +kernel
theorem dX13_find_13 : decode cX13_find 13 = .ok (.ireturn, 1) := by decide +kernel
theorem dX13_find_14 : decode cX13_find 14 = .ok (.aload_n 0, 1) := by decide +kernel
theorem dX13_find_15 : decode cX13_find 15 = .ok (.getfield 17, 3) := by decide +kernel
theorem dX13_find_18 : decode cX13_find 18 = .ok (.i2l, 1) := by decide +kernel
theorem dX13_find_19 : decode cX13_find 19 = .ok (.lconst 1, 1) := by decide +kernel
theorem dX13_find_20 : decode cX13_find 20 = .ok (.ldc2_w 522, 3) := by decide +kernel
theorem dX13_find_23 : decode cX13_find 23 = .ok (.invokestatic 66, 3) := by decide +kernel
theorem dX13_find_26 : decode cX13_find 26 = .ok (.ifCond .ne 5, 3) := by decide +kernel
theorem dX13_find_29 : decode cX13_find 29 = .ok (.iconst (-1), 1) := by decide +kernel
theorem dX13_find_30 : decode cX13_find 30 = .ok (.ireturn, 1) := by decide +kernel
theorem dX13_find_31 : decode cX13_find 31 = .ok (.iconst 0, 1) := by decide +kernel
theorem dX13_find_32 : decode cX13_find 32 = .ok (.istore_n 2, 1) := by decide +kernel
theorem dX13_find_33 : decode cX13_find 33 = .ok (.iload_n 2, 1) := by decide +kernel
theorem dX13_find_34 : decode cX13_find 34 = .ok (.aload_n 0, 1) := by decide +kernel
theorem dX13_find_35 : decode cX13_find 35 = .ok (.getfield 17, 3) := by decide +kernel
theorem dX13_find_38 : decode cX13_find 38 = .ok (.if_icmp .ge 26, 3) := by decide +kernel
theorem dX13_find_41 : decode cX13_find 41 = .ok (.aload_n 0, 1) := by decide +kernel
theorem dX13_find_42 : decode cX13_find 42 = .ok (.getfield 20, 3) := by decide +kernel
theorem dX13_find_45 : decode cX13_find 45 = .ok (.iload_n 2, 1) := by decide +kernel
theorem dX13_find_46 : decode cX13_find 46 = .ok (.baload, 1) := by decide +kernel
theorem dX13_find_47 : decode cX13_find 47 = .ok (.invokestatic 516, 3) := by decide +kernel
theorem dX13_find_50 : decode cX13_find 50 = .ok (.invokestatic 34, 3) := by decide +kernel
theorem dX13_find_53 : decode cX13_find 53 = .ok (.ifCond .ne 5, 3) := by decide +kernel
theorem dX13_find_56 : decode cX13_find 56 = .ok (.iconst (-1), 1) := by decide +kernel
theorem dX13_find_57 : decode cX13_find 57 = .ok (.ireturn, 1) := by decide +kernel
theorem dX13_find_58 : decode cX13_find 58 = .ok (.iinc 2 1, 3) := by decide +kernel
theorem dX13_find_61 : decode cX13_find 61 = .ok (.goto (-28), 3) := by decide +kernel
theorem dX13_find_64 : decode cX13_find 64 = .ok (.aload_n 0, 1) := by decide +kernel
theorem dX13_find_65 : decode cX13_find 65 = .ok (.iconst 0, 1) := by decide +kernel
theorem dX13_find_66 : decode cX13_find 66 = .ok (.putfield 524, 3) := by decide +kernel
theorem dX13_find_69 : decode cX13_find 69 = .ok (.iconst 0, 1) := by decide +kernel
theorem dX13_find_70 : decode cX13_find 70 = .ok (.istore_n 2, 1) := by decide +kernel
theorem dX13_find_71 : decode cX13_find 71 = .ok (.iload_n 2, 1) := by decide +kernel
theorem dX13_find_72 : decode cX13_find 72 = .ok (.aload_n 0, 1) := by decide +kernel
theorem dX13_find_73 : decode cX13_find 73 = .ok (.getfield 313, 3) := by decide +kernel
theorem dX13_find_76 : decode cX13_find 76 = .ok (.if_icmp .ge 49, 3) := by decide +kernel
theorem dX13_find_79 : decode cX13_find 79 = .ok (.aload_n 0, 1) := by decide +kernel
theorem dX13_find_80 : decode cX13_find 80 = .ok (.iload_n 1, 1) := by decide +kernel
theorem dX13_find_81 : decode cX13_find 81 = .ok (.iload_n 2, 1) := by decide +kernel
theorem dX13_find_82 : decode cX13_find 82 = .ok (.invokevirtual 513, 3) := by decide +kernel
theorem dX13_find_85 : decode cX13_find 85 = .ok (.ifCond .eq 34, 3) := by decide +kernel
theorem dX13_find_88 : decode cX13_find 88 = .ok (.aload_n 0, 1) := by decide +kernel
theorem dX13_find_89 : decode cX13_find 89 = .ok (.iload_n 2, 1) := by decide +kernel
theorem dX13_find_90 : decode cX13_find 90 = .ok (.invokevirtual 527, 3) := by decide +kernel
theorem dX13_find_93 : decode cX13_find 93 = .ok (.ifCond .ne 6, 3) := by decide +kernel
theorem dX13_find_96 : decode cX13_find 96 = .ok (.goto 23, 3) := by decide +kernel
theorem dX13_find_99 : decode cX13_find 99 = .ok (.aload_n 0, 1) := by decide +kernel
theorem dX13_find_100 : decode cX13_find 100 = .ok (.getfield 301, 3) := by decide +kernel
theorem dX13_find_103 : decode cX13_find 103 = .ok (.aload_n 0, 1) := by decide +kernel
theorem dX13_find_104 : decode cX13_find 104 = .ok (.getfield 524, 3) := by decide +kernel
theorem dX13_find_107 : decode cX13_find 107 = .ok (.iload_n 2, 1) := by decide +kernel
theorem dX13_find_108 : decode cX13_find 108 = .ok (.iastore, 1) := by decide +kernel
theorem dX13_find_109 : decode cX13_find 109 = .ok (.aload_n 0, 1) := by decide +kernel
theorem dX13_find_110 : decode cX13_find 110 = .ok (.dup, 1) := by decide +kernel
theorem dX13_find_111 : decode cX13_find 111 = .ok (.getfield 524, 3) := by decide +kernel
theorem dX13_find_114 : decode cX13_find 114 = .ok (.iconst 1, 1) := by decide +kernel
theorem dX13_find_115 : decode cX13_find 115 = .ok (.iadd, 1) := by decide +kernel
theorem dX13_find_116 : decode cX13_find 116 = .ok (.putfield 524, 3) := by decide +kernel
theorem dX13_find_119 : decode cX13_find 119 = .ok (.iinc 2 1, 3) := by decide +kernel
theorem dX13_find_122 : decode cX13_find 122 = .ok (.goto (-51), 3) := by decide +kernel
theorem dX13_find_125 : decode cX13_find 125 = .ok (.aload_n 0, 1) := by decide +kernel
theorem dX13_find_126 : decode cX13_find 126 = .ok (.getfield 524, 3) := by decide +kernel
theorem dX13_find_129 : decode cX13_find 129 = .ok (.ireturn, 1) := by decide +kernel
noncomputable def tX13_find_18 (j38 : qT (Int32 × qM)) (j18 : qT (Int32 × qM)) : qT (Int32 × qM) :=
  oLi 2 (oLa 0 (oGi 98 13 (oCGe (oLa 0 (oC (.int (0 : Int32)) (oPi 98 75 (oC (.int (0 : Int32)) (oSi 2 (j38)))))) (oLa 0 (oGf 98 11 110 (oLi 2 (oAi 110 400 (oCi GX13_small 1 (oCi GX13_isSmall 1 (oEq (oC (.int (-1 : Int32)) (eI)) (oInc 2 (1 : Int32) (j18))))))))))))
noncomputable def wX13_find_18 (k : Int32 → Int32 → qM → Option (Int32 × qM)) : qT (Int32 × qM) := fun lo st m => match lo, st with
  | [some (.ref 98), some (.int a1), some (.int a2)], [] => k a1 a2 m
  | _, _ => none
noncomputable def wX13_find_38 (k : Int32 → Int32 → qM → Option (Int32 × qM)) : qT (Int32 × qM) := fun lo st m => match lo, st with
  | [some (.ref 98), some (.int a1), some (.int a2)], [] => k a1 a2 m
  | _, _ => none
set_option maxRecDepth 20000 in
theorem sX13_find_18 {C : qCx} {w : qWp} (h : qOk C w RX13 cX13_find 3 3 155 155) (hm : qMt C (some .int)) (hx : qNx C) {j38 : qT (Int32 × qM)} {j18 : qT (Int32 × qM)} (k38 : qSnd C w 3 155 (qQf C w 155 155 jI) qfin 155 71 j38) (k18 : qSnd C w 3 155 (qQf C w 155 155 jI) qfin 155 33 j18) : qSnd C w 3 155 (qQf C w 155 155 jI) qfin 155 33 (tX13_find_18 j38 j18) :=
  cLi (pc := 33) h dX13_find_33 rfl (cLa (pc := 34) h dX13_find_34 rfl (gGi (pc := 35) h dX13_find_35 ff_X13_17_98 (Nat.le_of_ble_eq_true rfl) (Nat.le_of_ble_eq_true rfl) (jCGe (pc := 38) h dX13_find_38 rfl (cLa (pc := 64) h dX13_find_64 rfl (cC (pc := 65) h dX13_find_65 rfl (gPi (pc := 66) h dX13_find_66 ff_X13_524_98 (Or.inl rfl) (Nat.le_of_ble_eq_true rfl) (Nat.le_of_ble_eq_true rfl) (cC (pc := 69) h dX13_find_69 rfl (cSi (pc := 70) h dX13_find_70 rfl (k38)))))) (cLa (pc := 41) h dX13_find_41 rfl (gGf (pc := 42) h dX13_find_42 ff_X13_20_98 (Nat.le_of_ble_eq_true rfl) (Nat.le_of_ble_eq_true rfl) rfl (cLi (pc := 45) h dX13_find_45 rfl (rAb (pc := 46) h dX13_find_46 rfl (Nat.le_of_ble_eq_true rfl) (Nat.le_of_ble_eq_true rfl) (kCi (pc := 47) h (kd_X13_516 h dX13_find_47) spX13_small (by decide) (by decide) (by decide) (by decide) (kCi (pc := 50) h (kd_X13_34 h dX13_find_50) spX13_isSmall (by decide) (by decide) (by decide) (by decide) (jNe (pc := 53) h dX13_find_53 rfl (cInc (pc := 58) h dX13_find_58 rfl (jGo (pc := 61) h dX13_find_61 rfl (k18))) (cC (pc := 56) h dX13_find_56 rfl (zI (pc := 57) h hm (Nat.le_refl _) dX13_find_57))))))))))))
set_option maxRecDepth 20000 in
theorem lX13_find_18 (k38 : Int32 → Int32 → qM → Option (Int32 × qM)) (n : Nat) (a1 : Int32) (a2 : Int32) (m : qM) : tX13_find_18 (wX13_find_38 k38) (wX13_find_18 ((fX13_find_18 k38 n))) [some (.ref 98), some (.int a1), some (.int a2)] [] m = fX13_find_18 k38 (n + 1) a1 a2 m := rfl
theorem bX13_find_18 {C : qCx} {w : qWp} (h : qOk C w RX13 cX13_find 3 3 155 155) (hm : qMt C (some .int)) (hx : qNx C) {k38 : Int32 → Int32 → qM → Option (Int32 × qM)} (h38 : qSnd C w 3 155 (qQf C w 155 155 jI) qfin 155 71 (wX13_find_38 k38)) : ∀ n : Nat, qSnd C w 3 155 (qQf C w 155 155 jI) qfin 155 33 (wX13_find_18 (fX13_find_18 k38 n))
  | 0 => qSnd_of0 (fun lo st m x hr0 => by
    unfold wX13_find_18 at hr0
    split at hr0
    · cases hr0
    · cases hr0)
  | n + 1 => by
    have ih := bX13_find_18 h hm hx h38 n
    exact qSnd_of (fun lo st m x hr0 => by
    unfold wX13_find_18 at hr0
    split at hr0
    · exact ⟨_, (qsub_e (qsub_e (qsub_e qsub_nil))), (lX13_find_18 _ n _ _ _).trans hr0⟩
    · cases hr0) (sX13_find_18 h hm hx h38 ih)
noncomputable def tX13_find_64 (j38 : qT (Int32 × qM)) : qT (Int32 × qM) :=
  oInc 2 (1 : Int32) (j38)
noncomputable def wX13_find_64 (k : Int32 → Int32 → qM → Option (Int32 × qM)) : qT (Int32 × qM) := fun lo st m => match lo, st with
  | [some (.ref 98), some (.int a1), some (.int a2)], [] => k a1 a2 m
  | _, _ => none
set_option maxRecDepth 20000 in
theorem sX13_find_64 {C : qCx} {w : qWp} (h : qOk C w RX13 cX13_find 3 3 155 155) (hm : qMt C (some .int)) (hx : qNx C) {j38 : qT (Int32 × qM)} (k38 : qSnd C w 3 155 (qQf C w 155 155 jI) qfin 155 71 j38) : qSnd C w 3 155 (qQf C w 155 155 jI) qfin 155 119 (tX13_find_64 j38) :=
  cInc (pc := 119) h dX13_find_119 rfl (jGo (pc := 122) h dX13_find_122 rfl (k38))
set_option maxRecDepth 20000 in
theorem lX13_find_64 (k38 : Int32 → Int32 → qM → Option (Int32 × qM)) (a1 : Int32) (a2 : Int32) (m : qM) : tX13_find_64 (wX13_find_38 k38) [some (.ref 98), some (.int a1), some (.int a2)] [] m = fX13_find_64 k38 a1 a2 m := rfl
theorem bX13_find_64 {C : qCx} {w : qWp} (h : qOk C w RX13 cX13_find 3 3 155 155) (hm : qMt C (some .int)) (hx : qNx C) {k38 : Int32 → Int32 → qM → Option (Int32 × qM)} (h38 : qSnd C w 3 155 (qQf C w 155 155 jI) qfin 155 71 (wX13_find_38 k38)) : qSnd C w 3 155 (qQf C w 155 155 jI) qfin 155 119 (wX13_find_64 (fX13_find_64 k38)) :=
  qSnd_of (fun lo st m x hr0 => by
    unfold wX13_find_64 at hr0
    split at hr0
    · exact ⟨_, (qsub_e (qsub_e (qsub_e qsub_nil))), (lX13_find_64 _ _ _ _).trans hr0⟩
    · cases hr0) (sX13_find_64 h hm hx h38)
noncomputable def tX13_find_38 (j64 : qT (Int32 × qM)) : qT (Int32 × qM) :=
  oLi 2 (oLa 0 (oGi 98 32 (oCGe (oLa 0 (oGi 98 75 (eI))) (oLa 0 (oLi 1 (oLi 2 (oCi GX13_mayRead 3 (oEq (j64) (oLa 0 (oLi 2 (oCi GX13_hasWord 2 (oEq (j64) (oLa 0 (oGf 98 72 152 (oLa 0 (oGi 98 75 (oLi 2 (oWi 152 40 (oLa 0 (oDup (oGi 98 75 (oC (.int (1 : Int32)) (o2 (· + ·) (oPi 98 75 (j64)))))))))))))))))))))))))
set_option maxRecDepth 20000 in
theorem sX13_find_38 {C : qCx} {w : qWp} (h : qOk C w RX13 cX13_find 3 3 155 155) (hm : qMt C (some .int)) (hx : qNx C) {j64 : qT (Int32 × qM)} (k64 : qSnd C w 3 155 (qQf C w 155 155 jI) qfin 155 119 j64) : qSnd C w 3 155 (qQf C w 155 155 jI) qfin 155 71 (tX13_find_38 j64) :=
  cLi (pc := 71) h dX13_find_71 rfl (cLa (pc := 72) h dX13_find_72 rfl (gGi (pc := 73) h dX13_find_73 ff_X13_313_98 (Nat.le_of_ble_eq_true rfl) (Nat.le_of_ble_eq_true rfl) (jCGe (pc := 76) h dX13_find_76 rfl (cLa (pc := 125) h dX13_find_125 rfl (gGi (pc := 126) h dX13_find_126 ff_X13_524_98 (Nat.le_of_ble_eq_true rfl) (Nat.le_of_ble_eq_true rfl) (zI (pc := 129) h hm (Nat.le_refl _) dX13_find_129))) (cLa (pc := 79) h dX13_find_79 rfl (cLi (pc := 80) h dX13_find_80 rfl (cLi (pc := 81) h dX13_find_81 rfl (kCi (pc := 82) h (kd_X13_513 h dX13_find_82) spX13_mayRead (by decide) (by decide) (by decide) (by decide) (jEq (pc := 85) h dX13_find_85 rfl (k64) (cLa (pc := 88) h dX13_find_88 rfl (cLi (pc := 89) h dX13_find_89 rfl (kCi (pc := 90) h (kd_X13_527 h dX13_find_90) spX13_hasWord (by decide) (by decide) (by decide) (by decide) (jNe (pc := 93) h dX13_find_93 rfl (cLa (pc := 99) h dX13_find_99 rfl (gGf (pc := 100) h dX13_find_100 ff_X13_301_98 (Nat.le_of_ble_eq_true rfl) (Nat.le_of_ble_eq_true rfl) rfl (cLa (pc := 103) h dX13_find_103 rfl (gGi (pc := 104) h dX13_find_104 ff_X13_524_98 (Nat.le_of_ble_eq_true rfl) (Nat.le_of_ble_eq_true rfl) (cLi (pc := 107) h dX13_find_107 rfl (rWi (pc := 108) h dX13_find_108 rfl (Nat.le_of_ble_eq_true rfl) (Nat.le_of_ble_eq_true rfl) (cLa (pc := 109) h dX13_find_109 rfl (aDup (pc := 110) h dX13_find_110 (gGi (pc := 111) h dX13_find_111 ff_X13_524_98 (Nat.le_of_ble_eq_true rfl) (Nat.le_of_ble_eq_true rfl) (cC (pc := 114) h dX13_find_114 rfl (aAdd (pc := 115) h dX13_find_115 (gPi (pc := 116) h dX13_find_116 ff_X13_524_98 (Or.inl rfl) (Nat.le_of_ble_eq_true rfl) (Nat.le_of_ble_eq_true rfl) (k64))))))))))))) (jGo (pc := 96) h dX13_find_96 rfl (k64))))))))))))))
set_option maxRecDepth 20000 in
theorem lX13_find_38 (n : Nat) (a1 : Int32) (a2 : Int32) (m : qM) : tX13_find_38 (wX13_find_64 (fX13_find_64 (fX13_find_38 n))) [some (.ref 98), some (.int a1), some (.int a2)] [] m = fX13_find_38 (n + 1) a1 a2 m := rfl
theorem bX13_find_38 {C : qCx} {w : qWp} (h : qOk C w RX13 cX13_find 3 3 155 155) (hm : qMt C (some .int)) (hx : qNx C) : ∀ n : Nat, qSnd C w 3 155 (qQf C w 155 155 jI) qfin 155 71 (wX13_find_38 (fX13_find_38 n))
  | 0 => qSnd_of0 (fun lo st m x hr0 => by
    unfold wX13_find_38 at hr0
    split at hr0
    · cases hr0
    · cases hr0)
  | n + 1 => by
    have ih := bX13_find_38 h hm hx n
    exact qSnd_of (fun lo st m x hr0 => by
    unfold wX13_find_38 at hr0
    split at hr0
    · exact ⟨_, (qsub_e (qsub_e (qsub_e qsub_nil))), (lX13_find_38 n _ _ _).trans hr0⟩
    · cases hr0) (sX13_find_38 h hm hx (bX13_find_64 h hm hx ih))
noncomputable def tX13_find_0 (j18 : qT (Int32 × qM)) : qT (Int32 × qM) :=
  oLa 0 (oCv GX13_open 1 (oLi 1 (oCi GX13_isTeacher 1 (oEq (oC (.int (-2 : Int32)) (eI)) (oLa 0 (oGi 98 13 (oI2l (oC (.long (1 : Int64)) (oC (.long (20 : Int64)) (oCi GX13_in 3 (oEq (oC (.int (-1 : Int32)) (eI)) (oC (.int (0 : Int32)) (oSi 2 (j18))))))))))))))
set_option maxRecDepth 20000 in
theorem sX13_find_0 {C : qCx} {w : qWp} (h : qOk C w RX13 cX13_find 3 3 155 155) (hm : qMt C (some .int)) (hx : qNx C) {j18 : qT (Int32 × qM)} (k18 : qSnd C w 3 155 (qQf C w 155 155 jI) qfin 155 33 j18) : qSnd C w 3 155 (qQf C w 155 155 jI) qfin 155 0 (tX13_find_0 j18) :=
  cLa (pc := 0) h dX13_find_0 rfl (kCv (pc := 1) h (kd_X13_323 h dX13_find_1) spX13_open (by decide) (by decide) (by decide) (by decide) (cLi (pc := 4) h dX13_find_4 rfl (kCi (pc := 5) h (kd_X13_340 h dX13_find_5) spX13_isTeacher (by decide) (by decide) (by decide) (by decide) (jNe (pc := 8) h dX13_find_8 rfl (cLa (pc := 14) h dX13_find_14 rfl (gGi (pc := 15) h dX13_find_15 ff_X13_17_98 (Nat.le_of_ble_eq_true rfl) (Nat.le_of_ble_eq_true rfl) (aI2l (pc := 18) h dX13_find_18 (cJ (pc := 19) h dX13_find_19 rfl (cKJ (pc := 20) h dX13_find_20 fc_X13_522 (kCi (pc := 23) h (kd_X13_66 h dX13_find_23) spX13_in (by decide) (by decide) (by decide) (by decide) (jNe (pc := 26) h dX13_find_26 rfl (cC (pc := 31) h dX13_find_31 rfl (cSi (pc := 32) h dX13_find_32 rfl (k18))) (cC (pc := 29) h dX13_find_29 rfl (zI (pc := 30) h hm (Nat.le_refl _) dX13_find_30))))))))) (cB (pc := 11) h dX13_find_11 rfl (zI (pc := 13) h hm (Nat.le_refl _) dX13_find_13))))))
set_option maxRecDepth 20000 in
theorem lX13_find_0 (a1 : Int32) (m : qM) : tX13_find_0 (wX13_find_18 (fX13_find_18 (fX13_find_38 FU) FU)) [some (.ref 98), some (.int a1), none] [] m = fX13_find_0 a1 m := rfl
noncomputable def GX13_find : qG Int32 := fun av m => match av with
  | [.ref 98, .int a1] => fX13_find a1 m
  | _ => none
theorem spX13_find : qSpI yX13_find (.code yX13_find cX13_find 3 (some .int)) 3 qfin 155 155 1 GX13_find := by
  intro av m x m' hG
  unfold GX13_find at hG
  split at hG
  · rename_i a1
    rw [fX13_find_d] at hG
    exact ⟨qmeet (J := jI) (r := (x, m')) (av := [.ref 98, .int a1]) (by decide +kernel) (Nat.le_of_ble_eq_true rfl) (fun C w h hm hx hn => sX13_find_0 h hm hx (bX13_find_18 h hm hx (bX13_find_38 h hm hx FU) FU)) ((lX13_find_0 _ _).trans hG) (Nat.le_of_ble_eq_true rfl), Or.inl ⟨98, _, 13, _, _, rfl, by decide, rfl, qCk_13, rfl⟩⟩
  · cases hG
theorem dX13_found_0 : decode cX13_found 0 = .ok (.iload_n 1, 1) := by decide +kernel
theorem dX13_found_1 : decode cX13_found 1 = .ok (.i2l, 1) := by decide +kernel
theorem dX13_found_2 : decode cX13_found 2 = .ok (.lconst 0, 1) := by decide +kernel
theorem dX13_found_3 : decode cX13_found 3 = .ok (.aload_n 0, 1) := by decide +kernel
theorem dX13_found_4 : decode cX13_found 4 = .ok (.getfield 524, 3) := by decide +kernel
theorem dX13_found_7 : decode cX13_found 7 = .ok (.i2l, 1) := by decide +kernel
theorem dX13_found_8 : decode cX13_found 8 = .ok (.lconst 1, 1) := by decide +kernel
theorem dX13_found_9 : decode cX13_found 9 = .ok (.lsub, 1) := by decide +kernel
theorem dX13_found_10 : decode cX13_found 10 = .ok (.invokestatic 66, 3) := by decide +kernel
theorem dX13_found_13 : decode cX13_found 13 = .ok (.ifCond .eq 12, 3) := by decide +kernel
theorem dX13_found_16 : decode cX13_found 16 = .ok (.aload_n 0, 1) := by decide +kernel
theorem dX13_found_17 : decode cX13_found 17 = .ok (.getfield 301, 3) := by decide +kernel
theorem dX13_found_20 : decode cX13_found 20 = .ok (.iload_n 1, 1) := by decide +kernel
theorem dX13_found_21 : decode cX13_found 21 = .ok (.iaload, 1) := by decide +kernel
theorem dX13_found_22 : decode cX13_found 22 = .ok (.goto 4, 3) := by decide +kernel
theorem dX13_found_25 : decode cX13_found 25 = .ok (.iconst (-1), 1) := by decide +kernel
theorem dX13_found_26 : decode cX13_found 26 = .ok (.ireturn, 1) := by decide +kernel
noncomputable def tX13_found_16 : qT (Int32 × qM) :=
  eI
noncomputable def wX13_found_16 (k : Int32 → qM → Option (Int32 × qM)) : qT (Int32 × qM) := fun lo st m => match lo, st with
  | [_, _], [.int s0] => k s0 m
  | _, _ => none
set_option maxRecDepth 20000 in
theorem sX13_found_16 {C : qCx} {w : qWp} (h : qOk C w RX13 cX13_found 2 1 155 155) (hm : qMt C (some .int)) (hx : qNx C) : qSnd C w 2 155 (qQf C w 155 155 jI) qfin 155 26 (tX13_found_16) :=
  zI (pc := 26) h hm (Nat.le_refl _) dX13_found_26
set_option maxRecDepth 20000 in
theorem lX13_found_16 (s0 : Int32) (m : qM) : tX13_found_16 [none, none] [(.int s0)] m = fX13_found_16 s0 m := rfl
theorem bX13_found_16 {C : qCx} {w : qWp} (h : qOk C w RX13 cX13_found 2 1 155 155) (hm : qMt C (some .int)) (hx : qNx C) : qSnd C w 2 155 (qQf C w 155 155 jI) qfin 155 26 (wX13_found_16 fX13_found_16) :=
  qSnd_of (fun lo st m x hr0 => by
    unfold wX13_found_16 at hr0
    split at hr0
    · exact ⟨_, (qsub_n (qsub_n qsub_nil)), (lX13_found_16 _ _).trans hr0⟩
    · cases hr0) (sX13_found_16 h hm hx)
noncomputable def tX13_found_0 (j16 : qT (Int32 × qM)) : qT (Int32 × qM) :=
  oLi 1 (oI2l (oC (.long (0 : Int64)) (oLa 0 (oGi 98 75 (oI2l (oC (.long (1 : Int64)) (oJJ (· - ·) (oCi GX13_in 3 (oEq (oC (.int (-1 : Int32)) (j16)) (oLa 0 (oGf 98 72 152 (oLi 1 (oAi 152 40 (j16))))))))))))))
set_option maxRecDepth 20000 in
theorem sX13_found_0 {C : qCx} {w : qWp} (h : qOk C w RX13 cX13_found 2 1 155 155) (hm : qMt C (some .int)) (hx : qNx C) {j16 : qT (Int32 × qM)} (k16 : qSnd C w 2 155 (qQf C w 155 155 jI) qfin 155 26 j16) : qSnd C w 2 155 (qQf C w 155 155 jI) qfin 155 0 (tX13_found_0 j16) :=
  cLi (pc := 0) h dX13_found_0 rfl (aI2l (pc := 1) h dX13_found_1 (cJ (pc := 2) h dX13_found_2 rfl (cLa (pc := 3) h dX13_found_3 rfl (gGi (pc := 4) h dX13_found_4 ff_X13_524_98 (Nat.le_of_ble_eq_true rfl) (Nat.le_of_ble_eq_true rfl) (aI2l (pc := 7) h dX13_found_7 (cJ (pc := 8) h dX13_found_8 rfl (aLsub (pc := 9) h dX13_found_9 (kCi (pc := 10) h (kd_X13_66 h dX13_found_10) spX13_in (by decide) (by decide) (by decide) (by decide) (jEq (pc := 13) h dX13_found_13 rfl (cC (pc := 25) h dX13_found_25 rfl (k16)) (cLa (pc := 16) h dX13_found_16 rfl (gGf (pc := 17) h dX13_found_17 ff_X13_301_98 (Nat.le_of_ble_eq_true rfl) (Nat.le_of_ble_eq_true rfl) rfl (cLi (pc := 20) h dX13_found_20 rfl (rAi (pc := 21) h dX13_found_21 rfl (Nat.le_of_ble_eq_true rfl) (Nat.le_of_ble_eq_true rfl) (jGo (pc := 22) h dX13_found_22 rfl (k16)))))))))))))))
set_option maxRecDepth 20000 in
theorem lX13_found_0 (a1 : Int32) (m : qM) : tX13_found_0 (wX13_found_16 fX13_found_16) [some (.ref 98), some (.int a1)] [] m = fX13_found_0 a1 m := rfl
noncomputable def GX13_found : qG Int32 := fun av m => match av with
  | [.ref 98, .int a1] => fX13_found a1 m
  | _ => none
theorem spX13_found : qSpI yX13_found (.code yX13_found cX13_found 2 (some .int)) 1 qfin 155 155 1 GX13_found := by
  intro av m x m' hG
  unfold GX13_found at hG
  split at hG
  · rename_i a1
    rw [fX13_found_d] at hG
    exact ⟨qmeet (J := jI) (r := (x, m')) (av := [.ref 98, .int a1]) (by decide +kernel) (Nat.le_of_ble_eq_true rfl) (fun C w h hm hx hn => sX13_found_0 h hm hx (bX13_found_16 h hm hx)) ((lX13_found_0 _ _).trans hG) (Nat.le_of_ble_eq_true rfl), Or.inl ⟨98, _, 13, _, _, rfl, by decide, rfl, qCk_13, rfl⟩⟩
  · cases hG
theorem fc_X13_530 : Jvm.Cond.constantLong RX13 530 (10 : Int64) ∈ qTw := qm9 (List.mem_of_getElem? (i := 164) (by decide +kernel)) (by decide +kernel)
theorem fc_X13_532 : Jvm.Cond.constantLong RX13 532 (13 : Int64) ∈ qTw := qm9 (List.mem_of_getElem? (i := 165) (by decide +kernel)) (by decide +kernel)
theorem dX13_count_0 : decode cX13_count 0 = .ok (.iconst 0, 1) := by decide +kernel
theorem dX13_count_1 : decode cX13_count 1 = .ok (.istore_n 2, 1) := by decide +kernel
theorem dX13_count_2 : decode cX13_count 2 = .ok (.iload_n 1, 1) := by decide +kernel
theorem dX13_count_3 : decode cX13_count 3 = .ok (.i2l, 1) := by decide +kernel
theorem dX13_count_4 : decode cX13_count 4 = .ok (.ldc2_w 530, 3) := by decide +kernel
theorem dX13_count_7 : decode cX13_count 7 = .ok (.ldc2_w 532, 3) := by decide +kernel
theorem dX13_count_10 : decode cX13_count 10 = .ok (.invokestatic 66, 3) := by decide +kernel
theorem dX13_count_13 : decode cX13_count 13 = .ok (.ifCond .eq 13, 3) := by decide +kernel
theorem dX13_count_16 : decode cX13_count 16 = .ok (.aload_n 0, 1) := by decide +kernel
theorem dX13_count_17 : decode cX13_count 17 = .ok (.getfield 106, 3) := by decide +kernel
theorem dX13_count_20 : decode cX13_count 20 = .ok (.iload_n 1, 1) := by decide +kernel
theorem dX13_count_21 : decode cX13_count 21 = .ok (.bipush 10, 2) := by decide +kernel
theorem dX13_count_23 : decode cX13_count 23 = .ok (.isub, 1) := by decide +kernel
theorem dX13_count_24 : decode cX13_count 24 = .ok (.iaload, 1) := by decide +kernel
theorem dX13_count_25 : decode cX13_count 25 = .ok (.ireturn, 1) := by decide +kernel
theorem dX13_count_26 : decode cX13_count 26 = .ok (.iload_n 1, 1) := by decide +kernel
theorem dX13_count_27 : decode cX13_count 27 = .ok (.tableswitch 285 0 8 #[49, 54, 59, 104, 117, 122, 178, 245, 250], 49) := by decide +kernel
theorem dX13_count_76 : decode cX13_count 76 = .ok (.aload_n 0, 1) := by decide +kernel
theorem dX13_count_77 : decode cX13_count 77 = .ok (.getfield 313, 3) := by decide +kernel
theorem dX13_count_80 : decode cX13_count 80 = .ok (.ireturn, 1) := by decide +kernel
theorem dX13_count_81 : decode cX13_count 81 = .ok (.aload_n 0, 1) := by decide +kernel
theorem dX13_count_82 : decode cX13_count 82 = .ok (.invokevirtual 320, 3) := by decide +kernel
theorem dX13_count_85 : decode cX13_count 85 = .ok (.ireturn, 1) := by decide +kernel
theorem dX13_count_86 : decode cX13_count 86 = .ok (.iconst 0, 1) := by decide +kernel
theorem dX13_count_87 : decode cX13_count 87 = .ok (.istore_n 3, 1) := by decide +kernel
theorem dX13_count_88 : decode cX13_count 88 = .ok (.iload_n 3, 1) := by decide +kernel
theorem dX13_count_89 : decode cX13_count 89 = .ok (.aload_n 0, 1) := by decide +kernel
theorem dX13_count_90 : decode cX13_count 90 = .ok (.getfield 313, 3) := by decide +kernel
theorem dX13_count_93 : decode cX13_count 93 = .ok (.if_icmp .ge 36, 3) := by decide +kernel
theorem dX13_count_96 : decode cX13_count 96 = .ok (.iload_n 2, 1) := by decide +kernel
theorem dX13_count_97 : decode cX13_count 97 = .ok (.aload_n 0, 1) := by decide +kernel
theorem dX13_count_98 : decode cX13_count 98 = .ok (.getfield 223, 3) := by decide +kernel
theorem dX13_count_101 : decode cX13_count 101 = .ok (.iload_n 3, 1) := by decide +kernel
theorem dX13_count_102 : decode cX13_count 102 = .ok (.baload, 1) := by decide +kernel
theorem dX13_count_103 : decode cX13_count 103 = .ok (.ifCond .eq 17, 3) := by decide +kernel
theorem dX13_count_106 : decode cX13_count 106 = .ok (.aload_n 0, 1) := by decide +kernel
theorem dX13_count_107 : decode cX13_count 107 = .ok (.getfield 221, 3) := by decide +kernel
theorem dX13_count_110 : decode cX13_count 110 = .ok (.iload_n 3, 1) := by decide +kernel
theorem dX13_count_111 : decode cX13_count 111 = .ok (.iaload, 1) := by decide +kernel
theorem dX13_count_112 : decode cX13_count 112 = .ok (.iconst (-1), 1) := by decide +kernel
theorem dX13_count_113 : decode cX13_count 113 = .ok (.if_icmp .ne 7, 3) := by decide +kernel
theorem dX13_count_116 : decode cX13_count 116 = .ok (.iconst 1, 1) := by decide +kernel
theorem dX13_count_117 : decode cX13_count 117 = .ok (.goto 4, 3) := by decide +kernel
theorem dX13_count_120 : decode cX13_count 120 = .ok (.iconst 0, 1) := by decide +kernel
theorem dX13_count_121 : decode cX13_count 121 = .ok (.iadd, 1) := by decide +kernel
theorem dX13_count_122 : decode cX13_count 122 = .ok (.istore_n 2, 1) := by decide +kernel
theorem dX13_count_123 : decode cX13_count 123 = .ok (.iinc 3 1, 3) := by decide +kernel
theorem dX13_count_126 : decode cX13_count 126 = .ok (.goto (-38), 3) := by decide +kernel
theorem dX13_count_129 : decode cX13_count 129 = .ok (.iload_n 2, 1) := by decide +kernel
theorem dX13_count_130 : decode cX13_count 130 = .ok (.ireturn, 1) := by decide +kernel
theorem dX13_count_131 : decode cX13_count 131 = .ok (.aload_n 0, 1) := by decide +kernel
theorem dX13_count_132 : decode cX13_count 132 = .ok (.getfield 316, 3) := by decide +kernel
theorem dX13_count_135 : decode cX13_count 135 = .ok (.ifCond .eq 7, 3) := by decide +kernel
theorem dX13_count_138 : decode cX13_count 138 = .ok (.iconst 1, 1) := by decide +kernel
theorem dX13_count_139 : decode cX13_count 139 = .ok (.goto 4, 3) := by decide +kernel
theorem dX13_count_142 : decode cX13_count 142 = .ok (.iconst 0, 1) := by decide +kernel
theorem dX13_count_143 : decode cX13_count 143 = .ok (.ireturn, 1) := by decide +kernel
theorem dX13_count_144 : decode cX13_count 144 = .ok (.aload_n 0, 1) := by decide +kernel
theorem dX13_count_145 : decode cX13_count 145 = .ok (.getfield 452, 3) := by decide +kernel
theorem dX13_count_148 : decode cX13_count 148 = .ok (.ireturn, 1) := by decide +kernel
theorem dX13_count_149 : decode cX13_count 149 = .ok (.aload_n 0, 1) := by decide +kernel
theorem dX13_count_150 : decode cX13_count 150 = .ok (.getfield 316, 3) := by decide +kernel
theorem dX13_count_153 : decode cX13_count 153 = .ok (.ifCond .eq 10, 3) := by decide +kernel
theorem dX13_count_156 : decode cX13_count 156 = .ok (.aload_n 0, 1) := by decide +kernel
theorem dX13_count_157 : decode cX13_count 157 = .ok (.sipush 799, 3) := by decide +kernel
theorem dX13_count_160 : decode cX13_count 160 = .ok (.invokevirtual 503, 3) := by decide +kernel
theorem dX13_count_163 : decode cX13_count 163 = .ok (.iconst 0, 1) := by decide +kernel
theorem dX13_count_164 : decode cX13_count 164 = .ok (.istore_n 3, 1) := by decide +kernel
theorem dX13_count_165 : decode cX13_count 165 = .ok (.iload_n 3, 1) := by decide +kernel
theorem dX13_count_166 : decode cX13_count 166 = .ok (.aload_n 0, 1) := by decide +kernel
theorem dX13_count_167 : decode cX13_count 167 = .ok (.getfield 313, 3) := by decide +kernel
theorem dX13_count_170 : decode cX13_count 170 = .ok (.if_icmp .ge 33, 3) := by decide +kernel
theorem dX13_count_173 : decode cX13_count 173 = .ok (.aload_n 0, 1) := by decide +kernel
theorem dX13_count_174 : decode cX13_count 174 = .ok (.getfield 316, 3) := by decide +kernel
theorem dX13_count_177 : decode cX13_count 177 = .ok (.ifCond .eq 26, 3) := by decide +kernel
theorem dX13_count_180 : decode cX13_count 180 = .ok (.iload_n 2, 1) := by decide +kernel
theorem dX13_count_181 : decode cX13_count 181 = .ok (.aload_n 0, 1) := by decide +kernel
theorem dX13_count_182 : decode cX13_count 182 = .ok (.getfield 292, 3) := by decide +kernel
theorem dX13_count_185 : decode cX13_count 185 = .ok (.iload_n 3, 1) := by decide +kernel
theorem dX13_count_186 : decode cX13_count 186 = .ok (.baload, 1) := by decide +kernel
theorem dX13_count_187 : decode cX13_count 187 = .ok (.ifCond .eq 7, 3) := by decide +kernel
theorem dX13_count_190 : decode cX13_count 190 = .ok (.iconst 1, 1) := by decide +kernel
theorem dX13_count_191 : decode cX13_count 191 = .ok (.goto 4, 3) := by decide +kernel
theorem dX13_count_194 : decode cX13_count 194 = .ok (.iconst 0, 1) := by decide +kernel
theorem dX13_count_195 : decode cX13_count 195 = .ok (.iadd, 1) := by decide +kernel
theorem dX13_count_196 : decode cX13_count 196 = .ok (.istore_n 2, 1) := by decide +kernel
theorem dX13_count_197 : decode cX13_count 197 = .ok (.iinc 3 1, 3) := by decide +kernel
theorem dX13_count_200 : decode cX13_count 200 = .ok (.goto (-35), 3) := by decide +kernel
theorem dX13_count_203 : decode cX13_count 203 = .ok (.iload_n 2, 1) := by decide +kernel
theorem dX13_count_204 : decode cX13_count 204 = .ok (.ireturn, 1) := by decide +kernel
theorem dX13_count_205 : decode cX13_count 205 = .ok (.aload_n 0, 1) := by decide +kernel
theorem dX13_count_206 : decode cX13_count 206 = .ok (.getfield 316, 3) := by decide +kernel
theorem dX13_count_209 : decode cX13_count 209 = .ok (.ifCond .eq 10, 3) := by decide +kernel
theorem dX13_count_212 : decode cX13_count 212 = .ok (.aload_n 0, 1) := by decide +kernel
theorem dX13_count_213 : decode cX13_count 213 = .ok (.sipush 799, 3) := by decide +kernel
theorem dX13_count_216 : decode cX13_count 216 = .ok (.invokevirtual 503, 3) := by decide +kernel
theorem dX13_count_219 : decode cX13_count 219 = .ok (.iconst 0, 1) := by decide +kernel
theorem dX13_count_220 : decode cX13_count 220 = .ok (.istore_n 3, 1) := by decide +kernel
theorem dX13_count_221 : decode cX13_count 221 = .ok (.iload_n 3, 1) := by decide +kernel
theorem dX13_count_222 : decode cX13_count 222 = .ok (.aload_n 0, 1) := by decide +kernel
theorem dX13_count_223 : decode cX13_count 223 = .ok (.getfield 313, 3) := by decide +kernel
theorem dX13_count_226 : decode cX13_count 226 = .ok (.if_icmp .ge 44, 3) := by decide +kernel
theorem dX13_count_229 : decode cX13_count 229 = .ok (.aload_n 0, 1) := by decide +kernel
theorem dX13_count_230 : decode cX13_count 230 = .ok (.getfield 316, 3) := by decide +kernel
theorem dX13_count_233 : decode cX13_count 233 = .ok (.ifCond .eq 37, 3) := by decide +kernel
theorem dX13_count_236 : decode cX13_count 236 = .ok (.aload_n 0, 1) := by decide +kernel
theorem dX13_count_237 : decode cX13_count 237 = .ok (.getfield 268, 3) := by decide +kernel
theorem dX13_count_240 : decode cX13_count 240 = .ok (.iload_n 3, 1) := by decide +kernel
theorem dX13_count_241 : decode cX13_count 241 = .ok (.iaload, 1) := by decide +kernel
theorem dX13_count_242 : decode cX13_count 242 = .ok (.iconst (-1), 1) := by decide +kernel
theorem dX13_count_243 : decode cX13_count 243 = .ok (.if_icmp .eq 21, 3) := by decide +kernel
theorem dX13_count_246 : decode cX13_count 246 = .ok (.iload_n 2, 1) := by decide +kernel
theorem dX13_count_247 : decode cX13_count 247 = .ok (.aload_n 0, 1) := by decide +kernel
theorem dX13_count_248 : decode cX13_count 248 = .ok (.getfield 268, 3) := by decide +kernel
theorem dX13_count_251 : decode cX13_count 251 = .ok (.iload_n 3, 1) := by decide +kernel
theorem dX13_count_252 : decode cX13_count 252 = .ok (.iaload, 1) := by decide +kernel
theorem dX13_count_253 : decode cX13_count 253 = .ok (.aload_n 0, 1) := by decide +kernel
theorem dX13_count_254 : decode cX13_count 254 = .ok (.getfield 271, 3) := by decide +kernel
theorem dX13_count_257 : decode cX13_count 257 = .ok (.iload_n 3, 1) := by decide +kernel
theorem dX13_count_258 : decode cX13_count 258 = .ok (.iaload, 1) := by decide +kernel
theorem dX13_count_259 : decode cX13_count 259 = .ok (.iadd, 1) := by decide +kernel
theorem dX13_count_260 : decode cX13_count 260 = .ok (.invokestatic 385, 3) := by decide +kernel
theorem dX13_count_263 : decode cX13_count 263 = .ok (.istore_n 2, 1) := by decide +kernel
theorem dX13_count_264 : decode cX13_count 264 = .ok (.iinc 3 1, 3) := by decide +kernel
theorem dX13_count_267 : decode cX13_count 267 = .ok (.goto (-46), 3) := by decide +kernel
theorem dX13_count_270 : decode cX13_count 270 = .ok (.iload_n 2, 1) := by decide +kernel
theorem dX13_count_271 : decode cX13_count 271 = .ok (.ireturn, 1) := by decide +kernel
theorem dX13_count_272 : decode cX13_count 272 = .ok (.aload_n 0, 1) := by decide +kernel
theorem dX13_count_273 : decode cX13_count 273 = .ok (.getfield 70, 3) := by decide +kernel
theorem dX13_count_276 : decode cX13_count 276 = .ok (.ireturn, 1) := by decide +kernel
theorem dX13_count_277 : decode cX13_count 277 = .ok (.iconst 0, 1) := by decide +kernel
theorem dX13_count_278 : decode cX13_count 278 = .ok (.istore_n 3, 1) := by decide +kernel
theorem dX13_count_279 : decode cX13_count 279 = .ok (.iload_n 3, 1) := by decide +kernel
theorem dX13_count_280 : decode cX13_count 280 = .ok (.aload_n 0, 1) := by decide +kernel
theorem dX13_count_281 : decode cX13_count 281 = .ok (.getfield 313, 3) := by decide +kernel
theorem dX13_count_284 : decode cX13_count 284 = .ok (.if_icmp .ge 26, 3) := by decide +kernel
theorem dX13_count_287 : decode cX13_count 287 = .ok (.iload_n 2, 1) := by decide +kernel
theorem dX13_count_288 : decode cX13_count 288 = .ok (.aload_n 0, 1) := by decide +kernel
theorem dX13_count_289 : decode cX13_count 289 = .ok (.getfield 298, 3) := by decide +kernel
theorem dX13_count_292 : decode cX13_count 292 = .ok (.iload_n 3, 1) := by decide +kernel
theorem dX13_count_293 : decode cX13_count 293 = .ok (.iaload, 1) := by decide +kernel
theorem dX13_count_294 : decode cX13_count 294 = .ok (.ifCond .le 7, 3) := by decide +kernel
theorem dX13_count_297 : decode cX13_count 297 = .ok (.iconst 1, 1) := by decide +kernel
theorem dX13_count_298 : decode cX13_count 298 = .ok (.goto 4, 3) := by decide +kernel
theorem dX13_count_301 : decode cX13_count 301 = .ok (.iconst 0, 1) := by decide +kernel
theorem dX13_count_302 : decode cX13_count 302 = .ok (.iadd, 1) := by decide +kernel
theorem dX13_count_303 : decode cX13_count 303 = .ok (.istore_n 2, 1) := by decide +kernel
theorem dX13_count_304 : decode cX13_count 304 = .ok (.iinc 3 1, 3) := by decide +kernel
theorem dX13_count_307 : decode cX13_count 307 = .ok (.goto (-28), 3) := by decide +kernel
theorem dX13_count_310 : decode cX13_count 310 = .ok (.iload_n 2, 1) := by decide +kernel
theorem dX13_count_311 : decode cX13_count 311 = .ok (.ireturn, 1) := by decide +kernel
theorem dX13_count_312 : decode cX13_count 312 = .ok (.iconst (-1), 1) := by decide +kernel
theorem dX13_count_313 : decode cX13_count 313 = .ok (.ireturn, 1) := by decide +kernel
noncomputable def tX13_count_44 (j25 : qT (Int32 × qM)) : qT (Int32 × qM) :=
  o2 (· + ·) (oSi 2 (oInc 3 (1 : Int32) (j25)))
noncomputable def wX13_count_44 (k : Int32 → Int32 → Int32 → qM → Option (Int32 × qM)) : qT (Int32 × qM) := fun lo st m => match lo, st with
  | [some (.ref 98), _, _, some (.int a3)], [.int s0, .int s1] => k a3 s0 s1 m
  | _, _ => none
noncomputable def wX13_count_25 (k : Int32 → Int32 → qM → Option (Int32 × qM)) : qT (Int32 × qM) := fun lo st m => match lo, st with
  | [some (.ref 98), _, some (.int a2), some (.int a3)], [] => k a2 a3 m
  | _, _ => none
set_option maxRecDepth 20000 in
theorem sX13_count_44 {C : qCx} {w : qWp} (h : qOk C w RX13 cX13_count 4 7 155 155) (hm : qMt C (some .int)) (hx : qNx C) {j25 : qT (Int32 × qM)} (k25 : qSnd C w 4 155 (qQf C w 155 155 jI) qfin 155 88 j25) : qSnd C w 4 155 (qQf C w 155 155 jI) qfin 155 121 (tX13_count_44 j25) :=
  aAdd (pc := 121) h dX13_count_121 (cSi (pc := 122) h dX13_count_122 rfl (cInc (pc := 123) h dX13_count_123 rfl (jGo (pc := 126) h dX13_count_126 rfl (k25))))
set_option maxRecDepth 20000 in
theorem lX13_count_44 (k25 : Int32 → Int32 → qM → Option (Int32 × qM)) (a3 : Int32) (s0 : Int32) (s1 : Int32) (m : qM) : tX13_count_44 (wX13_count_25 k25) [some (.ref 98), none, none, some (.int a3)] [(.int s0), (.int s1)] m = fX13_count_44 k25 a3 s0 s1 m := rfl
theorem bX13_count_44 {C : qCx} {w : qWp} (h : qOk C w RX13 cX13_count 4 7 155 155) (hm : qMt C (some .int)) (hx : qNx C) {k25 : Int32 → Int32 → qM → Option (Int32 × qM)} (h25 : qSnd C w 4 155 (qQf C w 155 155 jI) qfin 155 88 (wX13_count_25 k25)) : qSnd C w 4 155 (qQf C w 155 155 jI) qfin 155 121 (wX13_count_44 (fX13_count_44 k25)) :=
  qSnd_of (fun lo st m x hr0 => by
    unfold wX13_count_44 at hr0
    split at hr0
    · exact ⟨_, (qsub_e (qsub_n (qsub_n (qsub_e qsub_nil)))), (lX13_count_44 _ _ _ _ _).trans hr0⟩
    · cases hr0) (sX13_count_44 h hm hx h25)
noncomputable def tX13_count_43 (j44 : qT (Int32 × qM)) : qT (Int32 × qM) :=
  oC (.int (0 : Int32)) (j44)
noncomputable def wX13_count_43 (k : Int32 → Int32 → qM → Option (Int32 × qM)) : qT (Int32 × qM) := fun lo st m => match lo, st with
  | [some (.ref 98), _, _, some (.int a3)], [.int s0] => k a3 s0 m
  | _, _ => none
set_option maxRecDepth 20000 in
theorem sX13_count_43 {C : qCx} {w : qWp} (h : qOk C w RX13 cX13_count 4 7 155 155) (hm : qMt C (some .int)) (hx : qNx C) {j44 : qT (Int32 × qM)} (k44 : qSnd C w 4 155 (qQf C w 155 155 jI) qfin 155 121 j44) : qSnd C w 4 155 (qQf C w 155 155 jI) qfin 155 120 (tX13_count_43 j44) :=
  cC (pc := 120) h dX13_count_120 rfl (k44)
set_option maxRecDepth 20000 in
theorem lX13_count_43 (k25 : Int32 → Int32 → qM → Option (Int32 × qM)) (a3 : Int32) (s0 : Int32) (m : qM) : tX13_count_43 (wX13_count_44 (fX13_count_44 k25)) [some (.ref 98), none, none, some (.int a3)] [(.int s0)] m = fX13_count_43 k25 a3 s0 m := rfl
theorem bX13_count_43 {C : qCx} {w : qWp} (h : qOk C w RX13 cX13_count 4 7 155 155) (hm : qMt C (some .int)) (hx : qNx C) {k25 : Int32 → Int32 → qM → Option (Int32 × qM)} (h25 : qSnd C w 4 155 (qQf C w 155 155 jI) qfin 155 88 (wX13_count_25 k25)) : qSnd C w 4 155 (qQf C w 155 155 jI) qfin 155 120 (wX13_count_43 (fX13_count_43 k25)) :=
  qSnd_of (fun lo st m x hr0 => by
    unfold wX13_count_43 at hr0
    split at hr0
    · exact ⟨_, (qsub_e (qsub_n (qsub_n (qsub_e qsub_nil)))), (lX13_count_43 _ _ _ _).trans hr0⟩
    · cases hr0) (sX13_count_43 h hm hx (bX13_count_44 h hm hx h25))
noncomputable def tX13_count_25 (j43 : qT (Int32 × qM)) (j44 : qT (Int32 × qM)) : qT (Int32 × qM) :=
  oLi 3 (oLa 0 (oGi 98 32 (oCGe (oLi 2 (eI)) (oLi 2 (oLa 0 (oGf 98 37 126 (oLi 3 (oAi 126 40 (oEq (j43) (oLa 0 (oGf 98 36 125 (oLi 3 (oAi 125 40 (oC (.int (-1 : Int32)) (oCEq (oC (.int (1 : Int32)) (j44)) (j43))))))))))))))))
set_option maxRecDepth 20000 in
theorem sX13_count_25 {C : qCx} {w : qWp} (h : qOk C w RX13 cX13_count 4 7 155 155) (hm : qMt C (some .int)) (hx : qNx C) {j43 : qT (Int32 × qM)} {j44 : qT (Int32 × qM)} (k43 : qSnd C w 4 155 (qQf C w 155 155 jI) qfin 155 120 j43) (k44 : qSnd C w 4 155 (qQf C w 155 155 jI) qfin 155 121 j44) : qSnd C w 4 155 (qQf C w 155 155 jI) qfin 155 88 (tX13_count_25 j43 j44) :=
  cLi (pc := 88) h dX13_count_88 rfl (cLa (pc := 89) h dX13_count_89 rfl (gGi (pc := 90) h dX13_count_90 ff_X13_313_98 (Nat.le_of_ble_eq_true rfl) (Nat.le_of_ble_eq_true rfl) (jCGe (pc := 93) h dX13_count_93 rfl (cLi (pc := 129) h dX13_count_129 rfl (zI (pc := 130) h hm (Nat.le_refl _) dX13_count_130)) (cLi (pc := 96) h dX13_count_96 rfl (cLa (pc := 97) h dX13_count_97 rfl (gGf (pc := 98) h dX13_count_98 ff_X13_223_98 (Nat.le_of_ble_eq_true rfl) (Nat.le_of_ble_eq_true rfl) rfl (cLi (pc := 101) h dX13_count_101 rfl (rAz (pc := 102) h dX13_count_102 rfl (Nat.le_of_ble_eq_true rfl) (Nat.le_of_ble_eq_true rfl) (jEq (pc := 103) h dX13_count_103 rfl (k43) (cLa (pc := 106) h dX13_count_106 rfl (gGf (pc := 107) h dX13_count_107 ff_X13_221_98 (Nat.le_of_ble_eq_true rfl) (Nat.le_of_ble_eq_true rfl) rfl (cLi (pc := 110) h dX13_count_110 rfl (rAi (pc := 111) h dX13_count_111 rfl (Nat.le_of_ble_eq_true rfl) (Nat.le_of_ble_eq_true rfl) (cC (pc := 112) h dX13_count_112 rfl (jCNe (pc := 113) h dX13_count_113 rfl (k43) (cC (pc := 116) h dX13_count_116 rfl (jGo (pc := 117) h dX13_count_117 rfl (k44))))))))))))))))))
set_option maxRecDepth 20000 in
theorem lX13_count_25 (n : Nat) (a2 : Int32) (a3 : Int32) (m : qM) : tX13_count_25 (wX13_count_43 (fX13_count_43 (fX13_count_25 n))) (wX13_count_44 (fX13_count_44 (fX13_count_25 n))) [some (.ref 98), none, some (.int a2), some (.int a3)] [] m = fX13_count_25 (n + 1) a2 a3 m := rfl
theorem bX13_count_25 {C : qCx} {w : qWp} (h : qOk C w RX13 cX13_count 4 7 155 155) (hm : qMt C (some .int)) (hx : qNx C) : ∀ n : Nat, qSnd C w 4 155 (qQf C w 155 155 jI) qfin 155 88 (wX13_count_25 (fX13_count_25 n))
  | 0 => qSnd_of0 (fun lo st m x hr0 => by
    unfold wX13_count_25 at hr0
    split at hr0
    · cases hr0
    · cases hr0)
  | n + 1 => by
    have ih := bX13_count_25 h hm hx n
    exact qSnd_of (fun lo st m x hr0 => by
    unfold wX13_count_25 at hr0
    split at hr0
    · exact ⟨_, (qsub_e (qsub_n (qsub_e (qsub_e qsub_nil)))), (lX13_count_25 n _ _ _).trans hr0⟩
    · cases hr0) (sX13_count_25 h hm hx (bX13_count_43 h hm hx ih) (bX13_count_44 h hm hx ih))
noncomputable def tX13_count_56 : qT (Int32 × qM) :=
  eI
noncomputable def wX13_count_56 (k : Int32 → qM → Option (Int32 × qM)) : qT (Int32 × qM) := fun lo st m => match lo, st with
  | [_, _, _, _], [.int s0] => k s0 m
  | _, _ => none
set_option maxRecDepth 20000 in
theorem sX13_count_56 {C : qCx} {w : qWp} (h : qOk C w RX13 cX13_count 4 7 155 155) (hm : qMt C (some .int)) (hx : qNx C) : qSnd C w 4 155 (qQf C w 155 155 jI) qfin 155 143 (tX13_count_56) :=
  zI (pc := 143) h hm (Nat.le_refl _) dX13_count_143
set_option maxRecDepth 20000 in
theorem lX13_count_56 (s0 : Int32) (m : qM) : tX13_count_56 [none, none, none, none] [(.int s0)] m = fX13_count_56 s0 m := rfl
theorem bX13_count_56 {C : qCx} {w : qWp} (h : qOk C w RX13 cX13_count 4 7 155 155) (hm : qMt C (some .int)) (hx : qNx C) : qSnd C w 4 155 (qQf C w 155 155 jI) qfin 155 143 (wX13_count_56 fX13_count_56) :=
  qSnd_of (fun lo st m x hr0 => by
    unfold wX13_count_56 at hr0
    split at hr0
    · exact ⟨_, (qsub_n (qsub_n (qsub_n (qsub_n qsub_nil)))), (lX13_count_56 _ _).trans hr0⟩
    · cases hr0) (sX13_count_56 h hm hx)
noncomputable def tX13_count_84 (j68 : qT (Int32 × qM)) : qT (Int32 × qM) :=
  o2 (· + ·) (oSi 2 (oInc 3 (1 : Int32) (j68)))
noncomputable def wX13_count_84 (k : Int32 → Int32 → Int32 → qM → Option (Int32 × qM)) : qT (Int32 × qM) := fun lo st m => match lo, st with
  | [some (.ref 98), _, _, some (.int a3)], [.int s0, .int s1] => k a3 s0 s1 m
  | _, _ => none
noncomputable def wX13_count_68 (k : Int32 → Int32 → qM → Option (Int32 × qM)) : qT (Int32 × qM) := fun lo st m => match lo, st with
  | [some (.ref 98), _, some (.int a2), some (.int a3)], [] => k a2 a3 m
  | _, _ => none
set_option maxRecDepth 20000 in
theorem sX13_count_84 {C : qCx} {w : qWp} (h : qOk C w RX13 cX13_count 4 7 155 155) (hm : qMt C (some .int)) (hx : qNx C) {j68 : qT (Int32 × qM)} (k68 : qSnd C w 4 155 (qQf C w 155 155 jI) qfin 155 165 j68) : qSnd C w 4 155 (qQf C w 155 155 jI) qfin 155 195 (tX13_count_84 j68) :=
  aAdd (pc := 195) h dX13_count_195 (cSi (pc := 196) h dX13_count_196 rfl (cInc (pc := 197) h dX13_count_197 rfl (jGo (pc := 200) h dX13_count_200 rfl (k68))))
set_option maxRecDepth 20000 in
theorem lX13_count_84 (k68 : Int32 → Int32 → qM → Option (Int32 × qM)) (a3 : Int32) (s0 : Int32) (s1 : Int32) (m : qM) : tX13_count_84 (wX13_count_68 k68) [some (.ref 98), none, none, some (.int a3)] [(.int s0), (.int s1)] m = fX13_count_84 k68 a3 s0 s1 m := rfl
theorem bX13_count_84 {C : qCx} {w : qWp} (h : qOk C w RX13 cX13_count 4 7 155 155) (hm : qMt C (some .int)) (hx : qNx C) {k68 : Int32 → Int32 → qM → Option (Int32 × qM)} (h68 : qSnd C w 4 155 (qQf C w 155 155 jI) qfin 155 165 (wX13_count_68 k68)) : qSnd C w 4 155 (qQf C w 155 155 jI) qfin 155 195 (wX13_count_84 (fX13_count_84 k68)) :=
  qSnd_of (fun lo st m x hr0 => by
    unfold wX13_count_84 at hr0
    split at hr0
    · exact ⟨_, (qsub_e (qsub_n (qsub_n (qsub_e qsub_nil)))), (lX13_count_84 _ _ _ _ _).trans hr0⟩
    · cases hr0) (sX13_count_84 h hm hx h68)
noncomputable def tX13_count_68 (j88 : qT (Int32 × qM)) (j84 : qT (Int32 × qM)) : qT (Int32 × qM) :=
  oLi 3 (oLa 0 (oGi 98 32 (oCGe (j88) (oLa 0 (oGi 98 33 (oEq (j88) (oLi 2 (oLa 0 (oGf 98 68 149 (oLi 3 (oAi 149 40 (oEq (oC (.int (0 : Int32)) (j84)) (oC (.int (1 : Int32)) (j84))))))))))))))
noncomputable def wX13_count_88 (k : Int32 → qM → Option (Int32 × qM)) : qT (Int32 × qM) := fun lo st m => match lo, st with
  | [_, _, some (.int a2), _], [] => k a2 m
  | _, _ => none
set_option maxRecDepth 20000 in
theorem sX13_count_68 {C : qCx} {w : qWp} (h : qOk C w RX13 cX13_count 4 7 155 155) (hm : qMt C (some .int)) (hx : qNx C) {j88 : qT (Int32 × qM)} {j84 : qT (Int32 × qM)} (k88 : qSnd C w 4 155 (qQf C w 155 155 jI) qfin 155 203 j88) (k84 : qSnd C w 4 155 (qQf C w 155 155 jI) qfin 155 195 j84) : qSnd C w 4 155 (qQf C w 155 155 jI) qfin 155 165 (tX13_count_68 j88 j84) :=
  cLi (pc := 165) h dX13_count_165 rfl (cLa (pc := 166) h dX13_count_166 rfl (gGi (pc := 167) h dX13_count_167 ff_X13_313_98 (Nat.le_of_ble_eq_true rfl) (Nat.le_of_ble_eq_true rfl) (jCGe (pc := 170) h dX13_count_170 rfl (k88) (cLa (pc := 173) h dX13_count_173 rfl (gGz (pc := 174) h dX13_count_174 ff_X13_316_98 (Nat.le_of_ble_eq_true rfl) (Nat.le_of_ble_eq_true rfl) (jEq (pc := 177) h dX13_count_177 rfl (k88) (cLi (pc := 180) h dX13_count_180 rfl (cLa (pc := 181) h dX13_count_181 rfl (gGf (pc := 182) h dX13_count_182 ff_X13_292_98 (Nat.le_of_ble_eq_true rfl) (Nat.le_of_ble_eq_true rfl) rfl (cLi (pc := 185) h dX13_count_185 rfl (rAz (pc := 186) h dX13_count_186 rfl (Nat.le_of_ble_eq_true rfl) (Nat.le_of_ble_eq_true rfl) (jEq (pc := 187) h dX13_count_187 rfl (cC (pc := 194) h dX13_count_194 rfl (k84)) (cC (pc := 190) h dX13_count_190 rfl (jGo (pc := 191) h dX13_count_191 rfl (k84)))))))))))))))
set_option maxRecDepth 20000 in
theorem lX13_count_68 (k88 : Int32 → qM → Option (Int32 × qM)) (n : Nat) (a2 : Int32) (a3 : Int32) (m : qM) : tX13_count_68 (wX13_count_88 k88) (wX13_count_84 (fX13_count_84 (fX13_count_68 k88 n))) [some (.ref 98), none, some (.int a2), some (.int a3)] [] m = fX13_count_68 k88 (n + 1) a2 a3 m := rfl
theorem bX13_count_68 {C : qCx} {w : qWp} (h : qOk C w RX13 cX13_count 4 7 155 155) (hm : qMt C (some .int)) (hx : qNx C) {k88 : Int32 → qM → Option (Int32 × qM)} (h88 : qSnd C w 4 155 (qQf C w 155 155 jI) qfin 155 203 (wX13_count_88 k88)) : ∀ n : Nat, qSnd C w 4 155 (qQf C w 155 155 jI) qfin 155 165 (wX13_count_68 (fX13_count_68 k88 n))
  | 0 => qSnd_of0 (fun lo st m x hr0 => by
    unfold wX13_count_68 at hr0
    split at hr0
    · cases hr0
    · cases hr0)
  | n + 1 => by
    have ih := bX13_count_68 h hm hx h88 n
    exact qSnd_of (fun lo st m x hr0 => by
    unfold wX13_count_68 at hr0
    split at hr0
    · exact ⟨_, (qsub_e (qsub_n (qsub_e (qsub_e qsub_nil)))), (lX13_count_68 _ n _ _ _).trans hr0⟩
    · cases hr0) (sX13_count_68 h hm hx h88 (bX13_count_84 h hm hx ih))
noncomputable def tX13_count_88 : qT (Int32 × qM) :=
  oLi 2 (eI)
set_option maxRecDepth 20000 in
theorem sX13_count_88 {C : qCx} {w : qWp} (h : qOk C w RX13 cX13_count 4 7 155 155) (hm : qMt C (some .int)) (hx : qNx C) : qSnd C w 4 155 (qQf C w 155 155 jI) qfin 155 203 (tX13_count_88) :=
  cLi (pc := 203) h dX13_count_203 rfl (zI (pc := 204) h hm (Nat.le_refl _) dX13_count_204)
set_option maxRecDepth 20000 in
theorem lX13_count_88 (a2 : Int32) (m : qM) : tX13_count_88 [none, none, some (.int a2), none] [] m = fX13_count_88 a2 m := rfl
theorem bX13_count_88 {C : qCx} {w : qWp} (h : qOk C w RX13 cX13_count 4 7 155 155) (hm : qMt C (some .int)) (hx : qNx C) : qSnd C w 4 155 (qQf C w 155 155 jI) qfin 155 203 (wX13_count_88 fX13_count_88) :=
  qSnd_of (fun lo st m x hr0 => by
    unfold wX13_count_88 at hr0
    split at hr0
    · exact ⟨_, (qsub_n (qsub_n (qsub_e (qsub_n qsub_nil)))), (lX13_count_88 _ _).trans hr0⟩
    · cases hr0) (sX13_count_88 h hm hx)
noncomputable def tX13_count_66 (j68 : qT (Int32 × qM)) : qT (Int32 × qM) :=
  oC (.int (0 : Int32)) (oSi 3 (j68))
noncomputable def wX13_count_66 (k : Int32 → qM → Option (Int32 × qM)) : qT (Int32 × qM) := fun lo st m => match lo, st with
  | [some (.ref 98), _, some (.int a2), _], [] => k a2 m
  | _, _ => none
set_option maxRecDepth 20000 in
theorem sX13_count_66 {C : qCx} {w : qWp} (h : qOk C w RX13 cX13_count 4 7 155 155) (hm : qMt C (some .int)) (hx : qNx C) {j68 : qT (Int32 × qM)} (k68 : qSnd C w 4 155 (qQf C w 155 155 jI) qfin 155 165 j68) : qSnd C w 4 155 (qQf C w 155 155 jI) qfin 155 163 (tX13_count_66 j68) :=
  cC (pc := 163) h dX13_count_163 rfl (cSi (pc := 164) h dX13_count_164 rfl (k68))
set_option maxRecDepth 20000 in
theorem lX13_count_66 (a2 : Int32) (m : qM) : tX13_count_66 (wX13_count_68 (fX13_count_68 fX13_count_88 FU)) [some (.ref 98), none, some (.int a2), none] [] m = fX13_count_66 a2 m := rfl
theorem bX13_count_66 {C : qCx} {w : qWp} (h : qOk C w RX13 cX13_count 4 7 155 155) (hm : qMt C (some .int)) (hx : qNx C) : qSnd C w 4 155 (qQf C w 155 155 jI) qfin 155 163 (wX13_count_66 fX13_count_66) :=
  qSnd_of (fun lo st m x hr0 => by
    unfold wX13_count_66 at hr0
    split at hr0
    · exact ⟨_, (qsub_e (qsub_n (qsub_e (qsub_n qsub_nil)))), (lX13_count_66 _ _).trans hr0⟩
    · cases hr0) (sX13_count_66 h hm hx (bX13_count_68 h hm hx (bX13_count_88 h hm hx) FU))
noncomputable def tX13_count_123 (j98 : qT (Int32 × qM)) : qT (Int32 × qM) :=
  oInc 3 (1 : Int32) (j98)
noncomputable def wX13_count_123 (k : Int32 → Int32 → qM → Option (Int32 × qM)) : qT (Int32 × qM) := fun lo st m => match lo, st with
  | [some (.ref 98), _, some (.int a2), some (.int a3)], [] => k a2 a3 m
  | _, _ => none
noncomputable def wX13_count_98 (k : Int32 → Int32 → qM → Option (Int32 × qM)) : qT (Int32 × qM) := fun lo st m => match lo, st with
  | [some (.ref 98), _, some (.int a2), some (.int a3)], [] => k a2 a3 m
  | _, _ => none
set_option maxRecDepth 20000 in
theorem sX13_count_123 {C : qCx} {w : qWp} (h : qOk C w RX13 cX13_count 4 7 155 155) (hm : qMt C (some .int)) (hx : qNx C) {j98 : qT (Int32 × qM)} (k98 : qSnd C w 4 155 (qQf C w 155 155 jI) qfin 155 221 j98) : qSnd C w 4 155 (qQf C w 155 155 jI) qfin 155 264 (tX13_count_123 j98) :=
  cInc (pc := 264) h dX13_count_264 rfl (jGo (pc := 267) h dX13_count_267 rfl (k98))
set_option maxRecDepth 20000 in
theorem lX13_count_123 (k98 : Int32 → Int32 → qM → Option (Int32 × qM)) (a2 : Int32) (a3 : Int32) (m : qM) : tX13_count_123 (wX13_count_98 k98) [some (.ref 98), none, some (.int a2), some (.int a3)] [] m = fX13_count_123 k98 a2 a3 m := rfl
theorem bX13_count_123 {C : qCx} {w : qWp} (h : qOk C w RX13 cX13_count 4 7 155 155) (hm : qMt C (some .int)) (hx : qNx C) {k98 : Int32 → Int32 → qM → Option (Int32 × qM)} (h98 : qSnd C w 4 155 (qQf C w 155 155 jI) qfin 155 221 (wX13_count_98 k98)) : qSnd C w 4 155 (qQf C w 155 155 jI) qfin 155 264 (wX13_count_123 (fX13_count_123 k98)) :=
  qSnd_of (fun lo st m x hr0 => by
    unfold wX13_count_123 at hr0
    split at hr0
    · exact ⟨_, (qsub_e (qsub_n (qsub_e (qsub_e qsub_nil)))), (lX13_count_123 _ _ _ _).trans hr0⟩
    · cases hr0) (sX13_count_123 h hm hx h98)
noncomputable def tX13_count_98 (j125 : qT (Int32 × qM)) (j123 : qT (Int32 × qM)) : qT (Int32 × qM) :=
  oLi 3 (oLa 0 (oGi 98 32 (oCGe (j125) (oLa 0 (oGi 98 33 (oEq (j125) (oLa 0 (oGf 98 60 141 (oLi 3 (oAi 141 40 (oC (.int (-1 : Int32)) (oCEq (j123) (oLi 2 (oLa 0 (oGf 98 60 141 (oLi 3 (oAi 141 40 (oLa 0 (oGf 98 61 142 (oLi 3 (oAi 142 40 (o2 (· + ·) (oCi GJ9_max_7cf53 2 (oSi 2 (j123)))))))))))))))))))))))))
noncomputable def wX13_count_125 (k : Int32 → qM → Option (Int32 × qM)) : qT (Int32 × qM) := fun lo st m => match lo, st with
  | [_, _, some (.int a2), _], [] => k a2 m
  | _, _ => none
set_option maxRecDepth 20000 in
theorem sX13_count_98 {C : qCx} {w : qWp} (h : qOk C w RX13 cX13_count 4 7 155 155) (hm : qMt C (some .int)) (hx : qNx C) {j125 : qT (Int32 × qM)} {j123 : qT (Int32 × qM)} (k125 : qSnd C w 4 155 (qQf C w 155 155 jI) qfin 155 270 j125) (k123 : qSnd C w 4 155 (qQf C w 155 155 jI) qfin 155 264 j123) : qSnd C w 4 155 (qQf C w 155 155 jI) qfin 155 221 (tX13_count_98 j125 j123) :=
  cLi (pc := 221) h dX13_count_221 rfl (cLa (pc := 222) h dX13_count_222 rfl (gGi (pc := 223) h dX13_count_223 ff_X13_313_98 (Nat.le_of_ble_eq_true rfl) (Nat.le_of_ble_eq_true rfl) (jCGe (pc := 226) h dX13_count_226 rfl (k125) (cLa (pc := 229) h dX13_count_229 rfl (gGz (pc := 230) h dX13_count_230 ff_X13_316_98 (Nat.le_of_ble_eq_true rfl) (Nat.le_of_ble_eq_true rfl) (jEq (pc := 233) h dX13_count_233 rfl (k125) (cLa (pc := 236) h dX13_count_236 rfl (gGf (pc := 237) h dX13_count_237 ff_X13_268_98 (Nat.le_of_ble_eq_true rfl) (Nat.le_of_ble_eq_true rfl) rfl (cLi (pc := 240) h dX13_count_240 rfl (rAi (pc := 241) h dX13_count_241 rfl (Nat.le_of_ble_eq_true rfl) (Nat.le_of_ble_eq_true rfl) (cC (pc := 242) h dX13_count_242 rfl (jCEq (pc := 243) h dX13_count_243 rfl (k123) (cLi (pc := 246) h dX13_count_246 rfl (cLa (pc := 247) h dX13_count_247 rfl (gGf (pc := 248) h dX13_count_248 ff_X13_268_98 (Nat.le_of_ble_eq_true rfl) (Nat.le_of_ble_eq_true rfl) rfl (cLi (pc := 251) h dX13_count_251 rfl (rAi (pc := 252) h dX13_count_252 rfl (Nat.le_of_ble_eq_true rfl) (Nat.le_of_ble_eq_true rfl) (cLa (pc := 253) h dX13_count_253 rfl (gGf (pc := 254) h dX13_count_254 ff_X13_271_98 (Nat.le_of_ble_eq_true rfl) (Nat.le_of_ble_eq_true rfl) rfl (cLi (pc := 257) h dX13_count_257 rfl (rAi (pc := 258) h dX13_count_258 rfl (Nat.le_of_ble_eq_true rfl) (Nat.le_of_ble_eq_true rfl) (aAdd (pc := 259) h dX13_count_259 (kCi (pc := 260) h (kd_X13_385 h dX13_count_260) spJ9_max_7cf53 (by decide) (by decide) (by decide) (by decide) (cSi (pc := 263) h dX13_count_263 rfl (k123)))))))))))))))))))))))))
set_option maxRecDepth 20000 in
theorem lX13_count_98 (k125 : Int32 → qM → Option (Int32 × qM)) (n : Nat) (a2 : Int32) (a3 : Int32) (m : qM) : tX13_count_98 (wX13_count_125 k125) (wX13_count_123 (fX13_count_123 (fX13_count_98 k125 n))) [some (.ref 98), none, some (.int a2), some (.int a3)] [] m = fX13_count_98 k125 (n + 1) a2 a3 m := rfl
theorem bX13_count_98 {C : qCx} {w : qWp} (h : qOk C w RX13 cX13_count 4 7 155 155) (hm : qMt C (some .int)) (hx : qNx C) {k125 : Int32 → qM → Option (Int32 × qM)} (h125 : qSnd C w 4 155 (qQf C w 155 155 jI) qfin 155 270 (wX13_count_125 k125)) : ∀ n : Nat, qSnd C w 4 155 (qQf C w 155 155 jI) qfin 155 221 (wX13_count_98 (fX13_count_98 k125 n))
  | 0 => qSnd_of0 (fun lo st m x hr0 => by
    unfold wX13_count_98 at hr0
    split at hr0
    · cases hr0
    · cases hr0)
  | n + 1 => by
    have ih := bX13_count_98 h hm hx h125 n
    exact qSnd_of (fun lo st m x hr0 => by
    unfold wX13_count_98 at hr0
    split at hr0
    · exact ⟨_, (qsub_e (qsub_n (qsub_e (qsub_e qsub_nil)))), (lX13_count_98 _ n _ _ _).trans hr0⟩
    · cases hr0) (sX13_count_98 h hm hx h125 (bX13_count_123 h hm hx ih))
noncomputable def tX13_count_125 : qT (Int32 × qM) :=
  oLi 2 (eI)
set_option maxRecDepth 20000 in
theorem sX13_count_125 {C : qCx} {w : qWp} (h : qOk C w RX13 cX13_count 4 7 155 155) (hm : qMt C (some .int)) (hx : qNx C) : qSnd C w 4 155 (qQf C w 155 155 jI) qfin 155 270 (tX13_count_125) :=
  cLi (pc := 270) h dX13_count_270 rfl (zI (pc := 271) h hm (Nat.le_refl _) dX13_count_271)
set_option maxRecDepth 20000 in
theorem lX13_count_125 (a2 : Int32) (m : qM) : tX13_count_125 [none, none, some (.int a2), none] [] m = fX13_count_125 a2 m := rfl
theorem bX13_count_125 {C : qCx} {w : qWp} (h : qOk C w RX13 cX13_count 4 7 155 155) (hm : qMt C (some .int)) (hx : qNx C) : qSnd C w 4 155 (qQf C w 155 155 jI) qfin 155 270 (wX13_count_125 fX13_count_125) :=
  qSnd_of (fun lo st m x hr0 => by
    unfold wX13_count_125 at hr0
    split at hr0
    · exact ⟨_, (qsub_n (qsub_n (qsub_e (qsub_n qsub_nil)))), (lX13_count_125 _ _).trans hr0⟩
    · cases hr0) (sX13_count_125 h hm hx)
noncomputable def tX13_count_96 (j98 : qT (Int32 × qM)) : qT (Int32 × qM) :=
  oC (.int (0 : Int32)) (oSi 3 (j98))
noncomputable def wX13_count_96 (k : Int32 → qM → Option (Int32 × qM)) : qT (Int32 × qM) := fun lo st m => match lo, st with
  | [some (.ref 98), _, some (.int a2), _], [] => k a2 m
  | _, _ => none
set_option maxRecDepth 20000 in
theorem sX13_count_96 {C : qCx} {w : qWp} (h : qOk C w RX13 cX13_count 4 7 155 155) (hm : qMt C (some .int)) (hx : qNx C) {j98 : qT (Int32 × qM)} (k98 : qSnd C w 4 155 (qQf C w 155 155 jI) qfin 155 221 j98) : qSnd C w 4 155 (qQf C w 155 155 jI) qfin 155 219 (tX13_count_96 j98) :=
  cC (pc := 219) h dX13_count_219 rfl (cSi (pc := 220) h dX13_count_220 rfl (k98))
set_option maxRecDepth 20000 in
theorem lX13_count_96 (a2 : Int32) (m : qM) : tX13_count_96 (wX13_count_98 (fX13_count_98 fX13_count_125 FU)) [some (.ref 98), none, some (.int a2), none] [] m = fX13_count_96 a2 m := rfl
theorem bX13_count_96 {C : qCx} {w : qWp} (h : qOk C w RX13 cX13_count 4 7 155 155) (hm : qMt C (some .int)) (hx : qNx C) : qSnd C w 4 155 (qQf C w 155 155 jI) qfin 155 219 (wX13_count_96 fX13_count_96) :=
  qSnd_of (fun lo st m x hr0 => by
    unfold wX13_count_96 at hr0
    split at hr0
    · exact ⟨_, (qsub_e (qsub_n (qsub_e (qsub_n qsub_nil)))), (lX13_count_96 _ _).trans hr0⟩
    · cases hr0) (sX13_count_96 h hm hx (bX13_count_98 h hm hx (bX13_count_125 h hm hx) FU))
noncomputable def tX13_count_145 (j132 : qT (Int32 × qM)) : qT (Int32 × qM) :=
  o2 (· + ·) (oSi 2 (oInc 3 (1 : Int32) (j132)))
noncomputable def wX13_count_145 (k : Int32 → Int32 → Int32 → qM → Option (Int32 × qM)) : qT (Int32 × qM) := fun lo st m => match lo, st with
  | [some (.ref 98), _, _, some (.int a3)], [.int s0, .int s1] => k a3 s0 s1 m
  | _, _ => none
noncomputable def wX13_count_132 (k : Int32 → Int32 → qM → Option (Int32 × qM)) : qT (Int32 × qM) := fun lo st m => match lo, st with
  | [some (.ref 98), _, some (.int a2), some (.int a3)], [] => k a2 a3 m
  | _, _ => none
set_option maxRecDepth 20000 in
theorem sX13_count_145 {C : qCx} {w : qWp} (h : qOk C w RX13 cX13_count 4 7 155 155) (hm : qMt C (some .int)) (hx : qNx C) {j132 : qT (Int32 × qM)} (k132 : qSnd C w 4 155 (qQf C w 155 155 jI) qfin 155 279 j132) : qSnd C w 4 155 (qQf C w 155 155 jI) qfin 155 302 (tX13_count_145 j132) :=
  aAdd (pc := 302) h dX13_count_302 (cSi (pc := 303) h dX13_count_303 rfl (cInc (pc := 304) h dX13_count_304 rfl (jGo (pc := 307) h dX13_count_307 rfl (k132))))
set_option maxRecDepth 20000 in
theorem lX13_count_145 (k132 : Int32 → Int32 → qM → Option (Int32 × qM)) (a3 : Int32) (s0 : Int32) (s1 : Int32) (m : qM) : tX13_count_145 (wX13_count_132 k132) [some (.ref 98), none, none, some (.int a3)] [(.int s0), (.int s1)] m = fX13_count_145 k132 a3 s0 s1 m := rfl
theorem bX13_count_145 {C : qCx} {w : qWp} (h : qOk C w RX13 cX13_count 4 7 155 155) (hm : qMt C (some .int)) (hx : qNx C) {k132 : Int32 → Int32 → qM → Option (Int32 × qM)} (h132 : qSnd C w 4 155 (qQf C w 155 155 jI) qfin 155 279 (wX13_count_132 k132)) : qSnd C w 4 155 (qQf C w 155 155 jI) qfin 155 302 (wX13_count_145 (fX13_count_145 k132)) :=
  qSnd_of (fun lo st m x hr0 => by
    unfold wX13_count_145 at hr0
    split at hr0
    · exact ⟨_, (qsub_e (qsub_n (qsub_n (qsub_e qsub_nil)))), (lX13_count_145 _ _ _ _ _).trans hr0⟩
    · cases hr0) (sX13_count_145 h hm hx h132)
noncomputable def tX13_count_132 (j145 : qT (Int32 × qM)) : qT (Int32 × qM) :=
  oLi 3 (oLa 0 (oGi 98 32 (oCGe (oLi 2 (eI)) (oLi 2 (oLa 0 (oGf 98 71 151 (oLi 3 (oAi 151 40 (oLe (oC (.int (0 : Int32)) (j145)) (oC (.int (1 : Int32)) (j145)))))))))))
set_option maxRecDepth 20000 in
theorem sX13_count_132 {C : qCx} {w : qWp} (h : qOk C w RX13 cX13_count 4 7 155 155) (hm : qMt C (some .int)) (hx : qNx C) {j145 : qT (Int32 × qM)} (k145 : qSnd C w 4 155 (qQf C w 155 155 jI) qfin 155 302 j145) : qSnd C w 4 155 (qQf C w 155 155 jI) qfin 155 279 (tX13_count_132 j145) :=
  cLi (pc := 279) h dX13_count_279 rfl (cLa (pc := 280) h dX13_count_280 rfl (gGi (pc := 281) h dX13_count_281 ff_X13_313_98 (Nat.le_of_ble_eq_true rfl) (Nat.le_of_ble_eq_true rfl) (jCGe (pc := 284) h dX13_count_284 rfl (cLi (pc := 310) h dX13_count_310 rfl (zI (pc := 311) h hm (Nat.le_refl _) dX13_count_311)) (cLi (pc := 287) h dX13_count_287 rfl (cLa (pc := 288) h dX13_count_288 rfl (gGf (pc := 289) h dX13_count_289 ff_X13_298_98 (Nat.le_of_ble_eq_true rfl) (Nat.le_of_ble_eq_true rfl) rfl (cLi (pc := 292) h dX13_count_292 rfl (rAi (pc := 293) h dX13_count_293 rfl (Nat.le_of_ble_eq_true rfl) (Nat.le_of_ble_eq_true rfl) (jLe (pc := 294) h dX13_count_294 rfl (cC (pc := 301) h dX13_count_301 rfl (k145)) (cC (pc := 297) h dX13_count_297 rfl (jGo (pc := 298) h dX13_count_298 rfl (k145))))))))))))
set_option maxRecDepth 20000 in
theorem lX13_count_132 (n : Nat) (a2 : Int32) (a3 : Int32) (m : qM) : tX13_count_132 (wX13_count_145 (fX13_count_145 (fX13_count_132 n))) [some (.ref 98), none, some (.int a2), some (.int a3)] [] m = fX13_count_132 (n + 1) a2 a3 m := rfl
theorem bX13_count_132 {C : qCx} {w : qWp} (h : qOk C w RX13 cX13_count 4 7 155 155) (hm : qMt C (some .int)) (hx : qNx C) : ∀ n : Nat, qSnd C w 4 155 (qQf C w 155 155 jI) qfin 155 279 (wX13_count_132 (fX13_count_132 n))
  | 0 => qSnd_of0 (fun lo st m x hr0 => by
    unfold wX13_count_132 at hr0
    split at hr0
    · cases hr0
    · cases hr0)
  | n + 1 => by
    have ih := bX13_count_132 h hm hx n
    exact qSnd_of (fun lo st m x hr0 => by
    unfold wX13_count_132 at hr0
    split at hr0
    · exact ⟨_, (qsub_e (qsub_n (qsub_e (qsub_e qsub_nil)))), (lX13_count_132 n _ _ _).trans hr0⟩
    · cases hr0) (sX13_count_132 h hm hx (bX13_count_145 h hm hx ih))
noncomputable def tX13_count_0 (j25 : qT (Int32 × qM)) (j56 : qT (Int32 × qM)) (j66 : qT (Int32 × qM)) (j96 : qT (Int32 × qM)) (j132 : qT (Int32 × qM)) : qT (Int32 × qM) :=
  oC (.int (0 : Int32)) (oSi 2 (oLi 1 (oI2l (oC (.long (10 : Int64)) (oC (.long (13 : Int64)) (oCi GX13_in 3 (oEq (oLi 1 (oSw (0 : Int32) (oC (.int (-1 : Int32)) (eI)) [oLa 0 (oGi 98 32 (eI)), oLa 0 (oCi GX13_laidMany 1 (eI)), oC (.int (0 : Int32)) (oSi 3 (j25)), oLa 0 (oGi 98 33 (oEq (oC (.int (0 : Int32)) (j56)) (oC (.int (1 : Int32)) (j56)))), oLa 0 (oGi 98 52 (eI)), oLa 0 (oGi 98 33 (oEq (j66) (oLa 0 (oC (.int (799 : Int32)) (oCv GX13_goThrough 2 (j66)))))), oLa 0 (oGi 98 33 (oEq (j96) (oLa 0 (oC (.int (799 : Int32)) (oCv GX13_goThrough 2 (j96)))))), oLa 0 (oGi 98 12 (eI)), oC (.int (0 : Int32)) (oSi 3 (j132))])) (oLa 0 (oGf 98 2 101 (oLi 1 (oC (.int (10 : Int32)) (o2 (· - ·) (oAi 101 5 (eI))))))))))))))
set_option maxRecDepth 20000 in
theorem sX13_count_0 {C : qCx} {w : qWp} (h : qOk C w RX13 cX13_count 4 7 155 155) (hm : qMt C (some .int)) (hx : qNx C) {j25 : qT (Int32 × qM)} {j56 : qT (Int32 × qM)} {j66 : qT (Int32 × qM)} {j96 : qT (Int32 × qM)} {j132 : qT (Int32 × qM)} (k25 : qSnd C w 4 155 (qQf C w 155 155 jI) qfin 155 88 j25) (k56 : qSnd C w 4 155 (qQf C w 155 155 jI) qfin 155 143 j56) (k66 : qSnd C w 4 155 (qQf C w 155 155 jI) qfin 155 163 j66) (k96 : qSnd C w 4 155 (qQf C w 155 155 jI) qfin 155 219 j96) (k132 : qSnd C w 4 155 (qQf C w 155 155 jI) qfin 155 279 j132) : qSnd C w 4 155 (qQf C w 155 155 jI) qfin 155 0 (tX13_count_0 j25 j56 j66 j96 j132) :=
  cC (pc := 0) h dX13_count_0 rfl (cSi (pc := 1) h dX13_count_1 rfl (cLi (pc := 2) h dX13_count_2 rfl (aI2l (pc := 3) h dX13_count_3 (cKJ (pc := 4) h dX13_count_4 fc_X13_530 (cKJ (pc := 7) h dX13_count_7 fc_X13_532 (kCi (pc := 10) h (kd_X13_66 h dX13_count_10) spX13_in (by decide) (by decide) (by decide) (by decide) (jEq (pc := 13) h dX13_count_13 rfl (cLi (pc := 26) h dX13_count_26 rfl (jSw (pc := 27) (a := 0) h dX13_count_27 rfl rfl rfl (by decide) rfl (cC (pc := 312) h dX13_count_312 rfl (zI (pc := 313) h hm (Nat.le_refl _) dX13_count_313)) ⟨⟨_, rfl, cLa (pc := 76) h dX13_count_76 rfl (gGi (pc := 77) h dX13_count_77 ff_X13_313_98 (Nat.le_of_ble_eq_true rfl) (Nat.le_of_ble_eq_true rfl) (zI (pc := 80) h hm (Nat.le_refl _) dX13_count_80))⟩, ⟨⟨_, rfl, cLa (pc := 81) h dX13_count_81 rfl (kCi (pc := 82) h (kd_X13_320 h dX13_count_82) spX13_laidMany (by decide) (by decide) (by decide) (by decide) (zI (pc := 85) h hm (Nat.le_refl _) dX13_count_85))⟩, ⟨⟨_, rfl, cC (pc := 86) h dX13_count_86 rfl (cSi (pc := 87) h dX13_count_87 rfl (k25))⟩, ⟨⟨_, rfl, cLa (pc := 131) h dX13_count_131 rfl (gGz (pc := 132) h dX13_count_132 ff_X13_316_98 (Nat.le_of_ble_eq_true rfl) (Nat.le_of_ble_eq_true rfl) (jEq (pc := 135) h dX13_count_135 rfl (cC (pc := 142) h dX13_count_142 rfl (k56)) (cC (pc := 138) h dX13_count_138 rfl (jGo (pc := 139) h dX13_count_139 rfl (k56)))))⟩, ⟨⟨_, rfl, cLa (pc := 144) h dX13_count_144 rfl (gGi (pc := 145) h dX13_count_145 ff_X13_452_98 (Nat.le_of_ble_eq_true rfl) (Nat.le_of_ble_eq_true rfl) (zI (pc := 148) h hm (Nat.le_refl _) dX13_count_148))⟩, ⟨⟨_, rfl, cLa (pc := 149) h dX13_count_149 rfl (gGz (pc := 150) h dX13_count_150 ff_X13_316_98 (Nat.le_of_ble_eq_true rfl) (Nat.le_of_ble_eq_true rfl) (jEq (pc := 153) h dX13_count_153 rfl (k66) (cLa (pc := 156) h dX13_count_156 rfl (cS (pc := 157) h dX13_count_157 rfl (kCv (pc := 160) h (kd_X13_503 h dX13_count_160) spX13_goThrough (by decide) (by decide) (by decide) (by decide) (k66))))))⟩, ⟨⟨_, rfl, cLa (pc := 205) h dX13_count_205 rfl (gGz (pc := 206) h dX13_count_206 ff_X13_316_98 (Nat.le_of_ble_eq_true rfl) (Nat.le_of_ble_eq_true rfl) (jEq (pc := 209) h dX13_count_209 rfl (k96) (cLa (pc := 212) h dX13_count_212 rfl (cS (pc := 213) h dX13_count_213 rfl (kCv (pc := 216) h (kd_X13_503 h dX13_count_216) spX13_goThrough (by decide) (by decide) (by decide) (by decide) (k96))))))⟩, ⟨⟨_, rfl, cLa (pc := 272) h dX13_count_272 rfl (gGi (pc := 273) h dX13_count_273 ff_X13_70_98 (Nat.le_of_ble_eq_true rfl) (Nat.le_of_ble_eq_true rfl) (zI (pc := 276) h hm (Nat.le_refl _) dX13_count_276))⟩, ⟨⟨_, rfl, cC (pc := 277) h dX13_count_277 rfl (cSi (pc := 278) h dX13_count_278 rfl (k132))⟩, trivial⟩⟩⟩⟩⟩⟩⟩⟩⟩)) (cLa (pc := 16) h dX13_count_16 rfl (gGf (pc := 17) h dX13_count_17 ff_X13_106_98 (Nat.le_of_ble_eq_true rfl) (Nat.le_of_ble_eq_true rfl) rfl (cLi (pc := 20) h dX13_count_20 rfl (cB (pc := 21) h dX13_count_21 rfl (aSub (pc := 23) h dX13_count_23 (rAi (pc := 24) h dX13_count_24 rfl (Nat.le_of_ble_eq_true rfl) (Nat.le_of_ble_eq_true rfl) (zI (pc := 25) h hm (Nat.le_refl _) dX13_count_25))))))))))))))
set_option maxRecDepth 20000 in
theorem lX13_count_0 (a1 : Int32) (m : qM) : tX13_count_0 (wX13_count_25 (fX13_count_25 FU)) (wX13_count_56 fX13_count_56) (wX13_count_66 fX13_count_66) (wX13_count_96 fX13_count_96) (wX13_count_132 (fX13_count_132 FU)) [some (.ref 98), some (.int a1), none, none] [] m = fX13_count_0 a1 m := rfl
noncomputable def GX13_count : qG Int32 := fun av m => match av with
  | [.ref 98, .int a1] => fX13_count a1 m
  | _ => none
theorem spX13_count : qSpI yX13_count (.code yX13_count cX13_count 4 (some .int)) 7 qfin 155 155 1 GX13_count := by
  intro av m x m' hG
  unfold GX13_count at hG
  split at hG
  · rename_i a1
    rw [fX13_count_d] at hG
    exact ⟨qmeet (J := jI) (r := (x, m')) (av := [.ref 98, .int a1]) (by decide +kernel) (Nat.le_of_ble_eq_true rfl) (fun C w h hm hx hn => sX13_count_0 h hm hx (bX13_count_25 h hm hx FU) (bX13_count_56 h hm hx) (bX13_count_66 h hm hx) (bX13_count_96 h hm hx) (bX13_count_132 h hm hx FU)) ((lX13_count_0 _ _).trans hG) (Nat.le_of_ble_eq_true rfl), Or.inl ⟨98, _, 13, _, _, rfl, by decide, rfl, qCk_13, rfl⟩⟩
  · cases hG

