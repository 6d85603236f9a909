/-! methods (by program): X13_know, X13_isAway, X13_isOpen, X13_frontOf, X13_minuteOf, X13_isHere, X13_seen, X13_holds, X13_start -/
theorem mf_X13_465 : Jvm.Cond.fieldLink RX13 465 (qTb 13 70).1 (qTb 13 70).2.1 (qTb 13 70).2.2.1 ∈ qTw := qm7 (List.mem_of_getElem? (i := 48) (by decide +kernel)) (by decide +kernel)
theorem ff_X13_465_98 : qFd RX13 465 98 13 70 0 := ⟨mf_X13_465, rfl, by decide, rfl⟩
theorem mf_X13_262 : Jvm.Cond.fieldLink RX13 262 (qTb 13 58).1 (qTb 13 58).2.1 (qTb 13 58).2.2.1 ∈ qTw := qm7 (List.mem_of_getElem? (i := 36) (by decide +kernel)) (by decide +kernel)
theorem ff_X13_262_98 : qFd RX13 262 98 13 58 3 := ⟨mf_X13_262, rfl, by decide, rfl⟩
theorem mf_X13_289 : Jvm.Cond.fieldLink RX13 289 (qTb 13 67).1 (qTb 13 67).2.1 (qTb 13 67).2.2.1 ∈ qTw := qm7 (List.mem_of_getElem? (i := 45) (by decide +kernel)) (by decide +kernel)
theorem ff_X13_289_98 : qFd RX13 289 98 13 67 3 := ⟨mf_X13_289, rfl, by decide, rfl⟩
theorem mf_X13_265 : Jvm.Cond.fieldLink RX13 265 (qTb 13 59).1 (qTb 13 59).2.1 (qTb 13 59).2.2.1 ∈ qTw := qm7 (List.mem_of_getElem? (i := 37) (by decide +kernel)) (by decide +kernel)
theorem ff_X13_265_98 : qFd RX13 265 98 13 59 3 := ⟨mf_X13_265, rfl, by decide, rfl⟩
theorem dX13_know_0 : decode cX13_know 0 = .ok (.aload_n 0, 1) := by decide +kernel
theorem dX13_know_1 : decode cX13_know 1 = .ok (.iload_n 1, 1) := by decide +kernel
theorem dX13_know_2 : decode cX13_know 2 = .ok (.putfield 465, 3) := by decide +kernel
theorem dX13_know_5 : decode cX13_know 5 = .ok (.iconst 0, 1) := by decide +kernel
theorem dX13_know_6 : decode cX13_know 6 = .ok (.istore_n 2, 1) := by decide +kernel
theorem dX13_know_7 : decode cX13_know 7 = .ok (.iload_n 2, 1) := by decide +kernel
theorem dX13_know_8 : decode cX13_know 8 = .ok (.aload_n 0, 1) := by decide +kernel
theorem dX13_know_9 : decode cX13_know 9 = .ok (.getfield 313, 3) := by decide +kernel
theorem dX13_know_12 : decode cX13_know 12 = .ok (.if_icmp .ge 32, 3) := by decide +kernel
theorem dX13_know_15 : decode cX13_know 15 = .ok (.aload_n 0, 1) := by decide +kernel
theorem dX13_know_16 : decode cX13_know 16 = .ok (.getfield 262, 3) := by decide +kernel
theorem dX13_know_19 : decode cX13_know 19 = .ok (.iload_n 2, 1) := by decide +kernel
theorem dX13_know_20 : decode cX13_know 20 = .ok (.aload_n 0, 1) := by decide +kernel
theorem dX13_know_21 : decode cX13_know 21 = .ok (.aload_n 0, 1) := by decide +kernel
theorem dX13_know_22 : decode cX13_know 22 = .ok (.getfield 218, 3) := by decide +kernel
theorem dX13_know_25 : decode cX13_know 25 = .ok (.iload_n 2, 1) := by decide +kernel
theorem dX13_know_26 : decode cX13_know 26 = .ok (.iaload, 1) := by decide +kernel
theorem dX13_know_27 : decode cX13_know 27 = .ok (.invokevirtual 444, 3) := by decide +kernel
theorem dX13_know_30 : decode cX13_know 30 = .ok (.iastore, 1) := by decide +kernel
theorem dX13_know_31 : decode cX13_know 31 = .ok (.aload_n 0, 1) := by decide +kernel
theorem dX13_know_32 : decode cX13_know 32 = .ok (.getfield 289, 3) := by decide +kernel
theorem dX13_know_35 : decode cX13_know 35 = .ok (.iload_n 2, 1) := by decide +kernel
theorem dX13_know_36 : decode cX13_know 36 = .ok (.iconst 0, 1) := by decide +kernel
theorem dX13_know_37 : decode cX13_know 37 = .ok (.bastore, 1) := by decide +kernel
theorem dX13_know_38 : decode cX13_know 38 = .ok (.iinc 2 1, 3) := by decide +kernel
theorem dX13_know_41 : decode cX13_know 41 = .ok (.goto (-34), 3) := by decide +kernel
theorem dX13_know_44 : decode cX13_know 44 = .ok (.iconst 0, 1) := by decide +kernel
theorem dX13_know_45 : decode cX13_know 45 = .ok (.istore_n 2, 1) := by decide +kernel
theorem dX13_know_46 : decode cX13_know 46 = .ok (.iload_n 2, 1) := by decide +kernel
theorem dX13_know_47 : decode cX13_know 47 = .ok (.bipush 15, 2) := by decide +kernel
theorem dX13_know_49 : decode cX13_know 49 = .ok (.if_icmp .ge 28, 3) := by decide +kernel
theorem dX13_know_52 : decode cX13_know 52 = .ok (.aload_n 0, 1) := by decide +kernel
theorem dX13_know_53 : decode cX13_know 53 = .ok (.getfield 265, 3) := by decide +kernel
theorem dX13_know_56 : decode cX13_know 56 = .ok (.iload_n 2, 1) := by decide +kernel
theorem dX13_know_57 : decode cX13_know 57 = .ok (.aload_n 0, 1) := by decide +kernel
theorem dX13_know_58 : decode cX13_know 58 = .ok (.getfield 174, 3) := by decide +kernel
theorem dX13_know_61 : decode cX13_know 61 = .ok (.iconst 0, 1) := by decide +kernel
theorem dX13_know_62 : decode cX13_know 62 = .ok (.iaload, 1) := by decide +kernel
theorem dX13_know_63 : decode cX13_know 63 = .ok (.aload_n 0, 1) := by decide +kernel
theorem dX13_know_64 : decode cX13_know 64 = .ok (.getfield 194, 3) := by decide +kernel
theorem dX13_know_67 : decode cX13_know 67 = .ok (.iload_n 2, 1) := by decide +kernel
theorem dX13_know_68 : decode cX13_know 68 = .ok (.iaload, 1) := by decide +kernel
theorem dX13_know_69 : decode cX13_know 69 = .ok (.imul, 1) := by decide +kernel
theorem dX13_know_70 : decode cX13_know 70 = .ok (.iastore, 1) := by decide +kernel
theorem dX13_know_71 : decode cX13_know 71 = .ok (.iinc 2 1, 3) := by decide +kernel
theorem dX13_know_74 : decode cX13_know 74 = .ok (.goto (-28), 3) := by decide +kernel
theorem dX13_know_77 : decode cX13_know 77 = .ok (.iconst 0, 1) := by decide +kernel
theorem dX13_know_78 : decode cX13_know 78 = .ok (.istore_n 2, 1) := by decide +kernel
theorem dX13_know_79 : decode cX13_know 79 = .ok (.iload_n 2, 1) := by decide +kernel
theorem dX13_know_80 : decode cX13_know 80 = .ok (.aload_n 0, 1) := by decide +kernel
theorem dX13_know_81 : decode cX13_know 81 = .ok (.getfield 452, 3) := by decide +kernel
theorem dX13_know_84 : decode cX13_know 84 = .ok (.if_icmp .ge 114, 3) := by decide +kernel
theorem dX13_know_87 : decode cX13_know 87 = .ok (.aload_n 0, 1) := by decide +kernel
theorem dX13_know_88 : decode cX13_know 88 = .ok (.getfield 247, 3) := by decide +kernel
theorem dX13_know_91 : decode cX13_know 91 = .ok (.iload_n 2, 1) := by decide +kernel
theorem dX13_know_92 : decode cX13_know 92 = .ok (.iaload, 1) := by decide +kernel
theorem dX13_know_93 : decode cX13_know 93 = .ok (.iload_n 1, 1) := by decide +kernel
theorem dX13_know_94 : decode cX13_know 94 = .ok (.if_icmp .gt 104, 3) := by decide +kernel
theorem dX13_know_97 : decode cX13_know 97 = .ok (.aload_n 0, 1) := by decide +kernel
theorem dX13_know_98 : decode cX13_know 98 = .ok (.getfield 250, 3) := by decide +kernel
theorem dX13_know_101 : decode cX13_know 101 = .ok (.iload_n 2, 1) := by decide +kernel
theorem dX13_know_102 : decode cX13_know 102 = .ok (.iaload, 1) := by decide +kernel
theorem dX13_know_103 : decode cX13_know 103 = .ok (.ifCond .ne 23, 3) := by decide +kernel
theorem dX13_know_106 : decode cX13_know 106 = .ok (.aload_n 0, 1) := by decide +kernel
theorem dX13_know_107 : decode cX13_know 107 = .ok (.getfield 262, 3) := by decide +kernel
theorem dX13_know_110 : decode cX13_know 110 = .ok (.aload_n 0, 1) := by decide +kernel
theorem dX13_know_111 : decode cX13_know 111 = .ok (.getfield 253, 3) := by decide +kernel
theorem dX13_know_114 : decode cX13_know 114 = .ok (.iload_n 2, 1) := by decide +kernel
theorem dX13_know_115 : decode cX13_know 115 = .ok (.iaload, 1) := by decide +kernel
theorem dX13_know_116 : decode cX13_know 116 = .ok (.aload_n 0, 1) := by decide +kernel
theorem dX13_know_117 : decode cX13_know 117 = .ok (.getfield 256, 3) := by decide +kernel
theorem dX13_know_120 : decode cX13_know 120 = .ok (.iload_n 2, 1) := by decide +kernel
theorem dX13_know_121 : decode cX13_know 121 = .ok (.iaload, 1) := by decide +kernel
theorem dX13_know_122 : decode cX13_know 122 = .ok (.iastore, 1) := by decide +kernel
theorem dX13_know_123 : decode cX13_know 123 = .ok (.goto 69, 3) := by decide +kernel
theorem dX13_know_126 : decode cX13_know 126 = .ok (.aload_n 0, 1) := by decide +kernel
theorem dX13_know_127 : decode cX13_know 127 = .ok (.getfield 250, 3) := by decide +kernel
theorem dX13_know_130 : decode cX13_know 130 = .ok (.iload_n 2, 1) := by decide +kernel
theorem dX13_know_131 : decode cX13_know 131 = .ok (.iaload, 1) := by decide +kernel
theorem dX13_know_132 : decode cX13_know 132 = .ok (.iconst 1, 1) := by decide +kernel
theorem dX13_know_133 : decode cX13_know 133 = .ok (.if_icmp .ne 32, 3) := by decide +kernel
theorem dX13_know_136 : decode cX13_know 136 = .ok (.aload_n 0, 1) := by decide +kernel
theorem dX13_know_137 : decode cX13_know 137 = .ok (.getfield 289, 3) := by decide +kernel
theorem dX13_know_140 : decode cX13_know 140 = .ok (.aload_n 0, 1) := by decide +kernel
theorem dX13_know_141 : decode cX13_know 141 = .ok (.getfield 253, 3) := by decide +kernel
theorem dX13_know_144 : decode cX13_know 144 = .ok (.iload_n 2, 1) := by decide +kernel
theorem dX13_know_145 : decode cX13_know 145 = .ok (.iaload, 1) := by decide +kernel
theorem dX13_know_146 : decode cX13_know 146 = .ok (.aload_n 0, 1) := by decide +kernel
theorem dX13_know_147 : decode cX13_know 147 = .ok (.getfield 256, 3) := by decide +kernel
theorem dX13_know_150 : decode cX13_know 150 = .ok (.iload_n 2, 1) := by decide +kernel
theorem dX13_know_151 : decode cX13_know 151 = .ok (.iaload, 1) := by decide +kernel
theorem dX13_know_152 : decode cX13_know 152 = .ok (.iconst 1, 1) := by decide +kernel
theorem dX13_know_153 : decode cX13_know 153 = .ok (.if_icmp .ne 7, 3) := by decide +kernel
theorem dX13_know_156 : decode cX13_know 156 = .ok (.iconst 1, 1) := by decide +kernel
theorem dX13_know_157 : decode cX13_know 157 = .ok (.goto 4, 3) := by decide +kernel
theorem dX13_know_160 : decode cX13_know 160 = .ok (.iconst 0, 1) := by decide +kernel
theorem dX13_know_161 : decode cX13_know 161 = .ok (.bastore, 1) := by decide +kernel
theorem dX13_know_162 : decode cX13_know 162 = .ok (.goto 30, 3) := by decide +kernel
theorem dX13_know_165 : decode cX13_know 165 = .ok (.aload_n 0, 1) := by decide +kernel
theorem dX13_know_166 : decode cX13_know 166 = .ok (.getfield 250, 3) := by decide +kernel
theorem dX13_know_169 : decode cX13_know 169 = .ok (.iload_n 2, 1) := by decide +kernel
theorem dX13_know_170 : decode cX13_know 170 = .ok (.iaload, 1) := by decide +kernel
theorem dX13_know_171 : decode cX13_know 171 = .ok (.iconst 2, 1) := by decide +kernel
theorem dX13_know_172 : decode cX13_know 172 = .ok (.if_icmp .ne 20, 3) := by decide +kernel
theorem dX13_know_175 : decode cX13_know 175 = .ok (.aload_n 0, 1) := by decide +kernel
theorem dX13_know_176 : decode cX13_know 176 = .ok (.getfield 265, 3) := by decide +kernel
theorem dX13_know_179 : decode cX13_know 179 = .ok (.aload_n 0, 1) := by decide +kernel
theorem dX13_know_180 : decode cX13_know 180 = .ok (.getfield 253, 3) := by decide +kernel
theorem dX13_know_183 : decode cX13_know 183 = .ok (.iload_n 2, 1) := by decide +kernel
theorem dX13_know_184 : decode cX13_know 184 = .ok (.iaload, 1) := by decide +kernel
theorem dX13_know_185 : decode cX13_know 185 = .ok (.aload_n 0, 1) := by decide +kernel
theorem dX13_know_186 : decode cX13_know 186 = .ok (.getfield 256, 3) := by decide +kernel
theorem dX13_know_189 : decode cX13_know 189 = .ok (.iload_n 2, 1) := by decide +kernel
theorem dX13_know_190 : decode cX13_know 190 = .ok (.iaload, 1) := by decide +kernel
theorem dX13_know_191 : decode cX13_know 191 = .ok (.iastore, 1) := by decide +kernel
theorem dX13_know_192 : decode cX13_know 192 = .ok (.iinc 2 1, 3) := by decide +kernel
theorem dX13_know_195 : decode cX13_know 195 = .ok (.goto (-116), 3) := by decide +kernel
theorem dX13_know_198 : decode cX13_know 198 = .ok (.return_, 1) := by decide +kernel
noncomputable def tX13_know_5 (j28 : qT (Unit × qM)) (j5 : qT (Unit × qM)) : qT (Unit × qM) :=
  oLi 2 (oLa 0 (oGi 98 32 (oCGe (oC (.int (0 : Int32)) (oSi 2 (j28))) (oLa 0 (oGf 98 58 139 (oLi 2 (oLa 0 (oLa 0 (oGf 98 35 124 (oLi 2 (oAi 124 40 (oCi GX13_foretoldOf 2 (oWi 139 40 (oLa 0 (oGf 98 67 148 (oLi 2 (oC (.int (0 : Int32)) (oWz 148 40 (oInc 2 (1 : Int32) (j5))))))))))))))))))))
noncomputable def wX13_know_5 (k : Int32 → Int32 → qM → Option (Unit × qM)) : qT (Unit × qM) := fun lo st m => match lo, st with
  | [some (.ref 98), some (.int a1), some (.int a2)], [] => k a1 a2 m
  | _, _ => none
noncomputable def wX13_know_28 (k : Int32 → Int32 → qM → Option (Unit × qM)) : qT (Unit × qM) := fun lo st m => match lo, st with
  | [some (.ref 98), some (.int a1), some (.int a2)], [] => k a1 a2 m
  | _, _ => none
set_option maxRecDepth 20000 in
theorem sX13_know_5 {C : qCx} {w : qWp} (h : qOk C w RX13 cX13_know 3 1 155 155) (hm : qMt C none) (hx : qNx C) {j28 : qT (Unit × qM)} {j5 : qT (Unit × qM)} (k28 : qSnd C w 3 155 (qQf C w 155 155 jV) qfin 155 46 j28) (k5 : qSnd C w 3 155 (qQf C w 155 155 jV) qfin 155 7 j5) : qSnd C w 3 155 (qQf C w 155 155 jV) qfin 155 7 (tX13_know_5 j28 j5) :=
  cLi (pc := 7) h dX13_know_7 rfl (cLa (pc := 8) h dX13_know_8 rfl (gGi (pc := 9) h dX13_know_9 ff_X13_313_98 (Nat.le_of_ble_eq_true rfl) (Nat.le_of_ble_eq_true rfl) (jCGe (pc := 12) h dX13_know_12 rfl (cC (pc := 44) h dX13_know_44 rfl (cSi (pc := 45) h dX13_know_45 rfl (k28))) (cLa (pc := 15) h dX13_know_15 rfl (gGf (pc := 16) h dX13_know_16 ff_X13_262_98 (Nat.le_of_ble_eq_true rfl) (Nat.le_of_ble_eq_true rfl) rfl (cLi (pc := 19) h dX13_know_19 rfl (cLa (pc := 20) h dX13_know_20 rfl (cLa (pc := 21) h dX13_know_21 rfl (gGf (pc := 22) h dX13_know_22 ff_X13_218_98 (Nat.le_of_ble_eq_true rfl) (Nat.le_of_ble_eq_true rfl) rfl (cLi (pc := 25) h dX13_know_25 rfl (rAi (pc := 26) h dX13_know_26 rfl (Nat.le_of_ble_eq_true rfl) (Nat.le_of_ble_eq_true rfl) (kCi (pc := 27) h (kd_X13_444 h dX13_know_27) spX13_foretoldOf (by decide) (by decide) (by decide) (by decide) (rWi (pc := 30) h dX13_know_30 rfl (Nat.le_of_ble_eq_true rfl) (Nat.le_of_ble_eq_true rfl) (cLa (pc := 31) h dX13_know_31 rfl (gGf (pc := 32) h dX13_know_32 ff_X13_289_98 (Nat.le_of_ble_eq_true rfl) (Nat.le_of_ble_eq_true rfl) rfl (cLi (pc := 35) h dX13_know_35 rfl (cC (pc := 36) h dX13_know_36 rfl (rWz (pc := 37) h dX13_know_37 rfl (Nat.le_of_ble_eq_true rfl) (Nat.le_of_ble_eq_true rfl) (cInc (pc := 38) h dX13_know_38 rfl (jGo (pc := 41) h dX13_know_41 rfl (k5)))))))))))))))))))))
set_option maxRecDepth 20000 in
theorem lX13_know_5 (k28 : Int32 → Int32 → qM → Option (Unit × qM)) (n : Nat) (a1 : Int32) (a2 : Int32) (m : qM) : tX13_know_5 (wX13_know_28 k28) (wX13_know_5 ((fX13_know_5 k28 n))) [some (.ref 98), some (.int a1), some (.int a2)] [] m = fX13_know_5 k28 (n + 1) a1 a2 m := rfl
theorem bX13_know_5 {C : qCx} {w : qWp} (h : qOk C w RX13 cX13_know 3 1 155 155) (hm : qMt C none) (hx : qNx C) {k28 : Int32 → Int32 → qM → Option (Unit × qM)} (h28 : qSnd C w 3 155 (qQf C w 155 155 jV) qfin 155 46 (wX13_know_28 k28)) : ∀ n : Nat, qSnd C w 3 155 (qQf C w 155 155 jV) qfin 155 7 (wX13_know_5 (fX13_know_5 k28 n))
  | 0 => qSnd_of0 (fun lo st m x hr0 => by
    unfold wX13_know_5 at hr0
    split at hr0
    · cases hr0
    · cases hr0)
  | n + 1 => by
    have ih := bX13_know_5 h hm hx h28 n
    exact qSnd_of (fun lo st m x hr0 => by
    unfold wX13_know_5 at hr0
    split at hr0
    · exact ⟨_, (qsub_e (qsub_e (qsub_e qsub_nil))), (lX13_know_5 _ n _ _ _).trans hr0⟩
    · cases hr0) (sX13_know_5 h hm hx h28 ih)
noncomputable def tX13_know_28 (j48 : qT (Unit × qM)) (j28 : qT (Unit × qM)) : qT (Unit × qM) :=
  oLi 2 (oC (.int (15 : Int32)) (oCGe (oC (.int (0 : Int32)) (oSi 2 (j48))) (oLa 0 (oGf 98 59 140 (oLi 2 (oLa 0 (oGf 98 0 99 (oC (.int (0 : Int32)) (oAi 99 6 (oLa 0 (oGf 98 25 116 (oLi 2 (oAi 116 15 (o2 (· * ·) (oWi 140 15 (oInc 2 (1 : Int32) (j28)))))))))))))))))
noncomputable def wX13_know_48 (k : Int32 → Int32 → qM → Option (Unit × qM)) : qT (Unit × qM) := fun lo st m => match lo, st with
  | [some (.ref 98), some (.int a1), some (.int a2)], [] => k a1 a2 m
  | _, _ => none
set_option maxRecDepth 20000 in
theorem sX13_know_28 {C : qCx} {w : qWp} (h : qOk C w RX13 cX13_know 3 1 155 155) (hm : qMt C none) (hx : qNx C) {j48 : qT (Unit × qM)} {j28 : qT (Unit × qM)} (k48 : qSnd C w 3 155 (qQf C w 155 155 jV) qfin 155 79 j48) (k28 : qSnd C w 3 155 (qQf C w 155 155 jV) qfin 155 46 j28) : qSnd C w 3 155 (qQf C w 155 155 jV) qfin 155 46 (tX13_know_28 j48 j28) :=
  cLi (pc := 46) h dX13_know_46 rfl (cB (pc := 47) h dX13_know_47 rfl (jCGe (pc := 49) h dX13_know_49 rfl (cC (pc := 77) h dX13_know_77 rfl (cSi (pc := 78) h dX13_know_78 rfl (k48))) (cLa (pc := 52) h dX13_know_52 rfl (gGf (pc := 53) h dX13_know_53 ff_X13_265_98 (Nat.le_of_ble_eq_true rfl) (Nat.le_of_ble_eq_true rfl) rfl (cLi (pc := 56) h dX13_know_56 rfl (cLa (pc := 57) h dX13_know_57 rfl (gGf (pc := 58) h dX13_know_58 ff_X13_174_98 (Nat.le_of_ble_eq_true rfl) (Nat.le_of_ble_eq_true rfl) rfl (cC (pc := 61) h dX13_know_61 rfl (rAi (pc := 62) h dX13_know_62 rfl (Nat.le_of_ble_eq_true rfl) (Nat.le_of_ble_eq_true rfl) (cLa (pc := 63) h dX13_know_63 rfl (gGf (pc := 64) h dX13_know_64 ff_X13_194_98 (Nat.le_of_ble_eq_true rfl) (Nat.le_of_ble_eq_true rfl) rfl (cLi (pc := 67) h dX13_know_67 rfl (rAi (pc := 68) h dX13_know_68 rfl (Nat.le_of_ble_eq_true rfl) (Nat.le_of_ble_eq_true rfl) (aMul (pc := 69) h dX13_know_69 (rWi (pc := 70) h dX13_know_70 rfl (Nat.le_of_ble_eq_true rfl) (Nat.le_of_ble_eq_true rfl) (cInc (pc := 71) h dX13_know_71 rfl (jGo (pc := 74) h dX13_know_74 rfl (k28))))))))))))))))))
set_option maxRecDepth 20000 in
theorem lX13_know_28 (k48 : Int32 → Int32 → qM → Option (Unit × qM)) (n : Nat) (a1 : Int32) (a2 : Int32) (m : qM) : tX13_know_28 (wX13_know_48 k48) (wX13_know_28 ((fX13_know_28 k48 n))) [some (.ref 98), some (.int a1), some (.int a2)] [] m = fX13_know_28 k48 (n + 1) a1 a2 m := rfl
theorem bX13_know_28 {C : qCx} {w : qWp} (h : qOk C w RX13 cX13_know 3 1 155 155) (hm : qMt C none) (hx : qNx C) {k48 : Int32 → Int32 → qM → Option (Unit × qM)} (h48 : qSnd C w 3 155 (qQf C w 155 155 jV) qfin 155 79 (wX13_know_48 k48)) : ∀ n : Nat, qSnd C w 3 155 (qQf C w 155 155 jV) qfin 155 46 (wX13_know_28 (fX13_know_28 k48 n))
  | 0 => qSnd_of0 (fun lo st m x hr0 => by
    unfold wX13_know_28 at hr0
    split at hr0
    · cases hr0
    · cases hr0)
  | n + 1 => by
    have ih := bX13_know_28 h hm hx h48 n
    exact qSnd_of (fun lo st m x hr0 => by
    unfold wX13_know_28 at hr0
    split at hr0
    · exact ⟨_, (qsub_e (qsub_e (qsub_e qsub_nil))), (lX13_know_28 _ n _ _ _).trans hr0⟩
    · cases hr0) (sX13_know_28 h hm hx h48 ih)
noncomputable def tX13_know_115 (j48 : qT (Unit × qM)) : qT (Unit × qM) :=
  oInc 2 (1 : Int32) (j48)
noncomputable def wX13_know_115 (k : Int32 → Int32 → qM → Option (Unit × qM)) : qT (Unit × qM) := fun lo st m => match lo, st with
  | [some (.ref 98), some (.int a1), some (.int a2)], [] => k a1 a2 m
  | _, _ => none
set_option maxRecDepth 20000 in
theorem sX13_know_115 {C : qCx} {w : qWp} (h : qOk C w RX13 cX13_know 3 1 155 155) (hm : qMt C none) (hx : qNx C) {j48 : qT (Unit × qM)} (k48 : qSnd C w 3 155 (qQf C w 155 155 jV) qfin 155 79 j48) : qSnd C w 3 155 (qQf C w 155 155 jV) qfin 155 192 (tX13_know_115 j48) :=
  cInc (pc := 192) h dX13_know_192 rfl (jGo (pc := 195) h dX13_know_195 rfl (k48))
set_option maxRecDepth 20000 in
theorem lX13_know_115 (k48 : Int32 → Int32 → qM → Option (Unit × qM)) (a1 : Int32) (a2 : Int32) (m : qM) : tX13_know_115 (wX13_know_48 k48) [some (.ref 98), some (.int a1), some (.int a2)] [] m = fX13_know_115 k48 a1 a2 m := rfl
theorem bX13_know_115 {C : qCx} {w : qWp} (h : qOk C w RX13 cX13_know 3 1 155 155) (hm : qMt C none) (hx : qNx C) {k48 : Int32 → Int32 → qM → Option (Unit × qM)} (h48 : qSnd C w 3 155 (qQf C w 155 155 jV) qfin 155 79 (wX13_know_48 k48)) : qSnd C w 3 155 (qQf C w 155 155 jV) qfin 155 192 (wX13_know_115 (fX13_know_115 k48)) :=
  qSnd_of (fun lo st m x hr0 => by
    unfold wX13_know_115 at hr0
    split at hr0
    · exact ⟨_, (qsub_e (qsub_e (qsub_e qsub_nil))), (lX13_know_115 _ _ _ _).trans hr0⟩
    · cases hr0) (sX13_know_115 h hm hx h48)
noncomputable def tX13_know_96 (j115 : qT (Unit × qM)) : qT (Unit × qM) :=
  oWz 148 40 (j115)
noncomputable def wX13_know_96 (k : Int32 → Int32 → Int32 → Int32 → qM → Option (Unit × qM)) : qT (Unit × qM) := fun lo st m => match lo, st with
  | [some (.ref 98), some (.int a1), some (.int a2)], [.int s0, .int s1, .ref 148] => k a1 a2 s0 s1 m
  | _, _ => none
set_option maxRecDepth 20000 in
theorem sX13_know_96 {C : qCx} {w : qWp} (h : qOk C w RX13 cX13_know 3 1 155 155) (hm : qMt C none) (hx : qNx C) {j115 : qT (Unit × qM)} (k115 : qSnd C w 3 155 (qQf C w 155 155 jV) qfin 155 192 j115) : qSnd C w 3 155 (qQf C w 155 155 jV) qfin 155 161 (tX13_know_96 j115) :=
  rWz (pc := 161) h dX13_know_161 rfl (Nat.le_of_ble_eq_true rfl) (Nat.le_of_ble_eq_true rfl) (jGo (pc := 162) h dX13_know_162 rfl (k115))
set_option maxRecDepth 20000 in
theorem lX13_know_96 (k48 : Int32 → Int32 → qM → Option (Unit × qM)) (a1 : Int32) (a2 : Int32) (s0 : Int32) (s1 : Int32) (m : qM) : tX13_know_96 (wX13_know_115 (fX13_know_115 k48)) [some (.ref 98), some (.int a1), some (.int a2)] [(.int s0), (.int s1), (.ref 148)] m = fX13_know_96 k48 a1 a2 s0 s1 m := rfl
theorem bX13_know_96 {C : qCx} {w : qWp} (h : qOk C w RX13 cX13_know 3 1 155 155) (hm : qMt C none) (hx : qNx C) {k48 : Int32 → Int32 → qM → Option (Unit × qM)} (h48 : qSnd C w 3 155 (qQf C w 155 155 jV) qfin 155 79 (wX13_know_48 k48)) : qSnd C w 3 155 (qQf C w 155 155 jV) qfin 155 161 (wX13_know_96 (fX13_know_96 k48)) :=
  qSnd_of (fun lo st m x hr0 => by
    unfold wX13_know_96 at hr0
    split at hr0
    · exact ⟨_, (qsub_e (qsub_e (qsub_e qsub_nil))), (lX13_know_96 _ _ _ _ _ _).trans hr0⟩
    · cases hr0) (sX13_know_96 h hm hx (bX13_know_115 h hm hx h48))
noncomputable def tX13_know_48 (j117 : qT (Unit × qM)) (j115 : qT (Unit × qM)) (j96 : qT (Unit × qM)) : qT (Unit × qM) :=
  oLi 2 (oLa 0 (oGi 98 52 (oCGe (j117) (oLa 0 (oGf 98 53 134 (oLi 2 (oAi 134 80 (oLi 1 (oCGt (j117) (oLa 0 (oGf 98 54 135 (oLi 2 (oAi 135 80 (oEq (oLa 0 (oGf 98 58 139 (oLa 0 (oGf 98 55 136 (oLi 2 (oAi 136 80 (oLa 0 (oGf 98 56 137 (oLi 2 (oAi 137 80 (oWi 139 40 (j115)))))))))))) (oLa 0 (oGf 98 54 135 (oLi 2 (oAi 135 80 (oC (.int (1 : Int32)) (oCEq (oLa 0 (oGf 98 67 148 (oLa 0 (oGf 98 55 136 (oLi 2 (oAi 136 80 (oLa 0 (oGf 98 56 137 (oLi 2 (oAi 137 80 (oC (.int (1 : Int32)) (oCEq (oC (.int (1 : Int32)) (j96)) (oC (.int (0 : Int32)) (j96)))))))))))))) (oLa 0 (oGf 98 54 135 (oLi 2 (oAi 135 80 (oC (.int (2 : Int32)) (oCEq (oLa 0 (oGf 98 59 140 (oLa 0 (oGf 98 55 136 (oLi 2 (oAi 136 80 (oLa 0 (oGf 98 56 137 (oLi 2 (oAi 137 80 (oWi 140 15 (j115)))))))))))) (j115)))))))))))))))))))))))))))
noncomputable def wX13_know_117 (k : qM → Option (Unit × qM)) : qT (Unit × qM) := fun lo st m => match lo, st with
  | [_, _, _], [] => k m
  | _, _ => none
set_option maxRecDepth 20000 in
theorem sX13_know_48 {C : qCx} {w : qWp} (h : qOk C w RX13 cX13_know 3 1 155 155) (hm : qMt C none) (hx : qNx C) {j117 : qT (Unit × qM)} {j115 : qT (Unit × qM)} {j96 : qT (Unit × qM)} (k117 : qSnd C w 3 155 (qQf C w 155 155 jV) qfin 155 198 j117) (k115 : qSnd C w 3 155 (qQf C w 155 155 jV) qfin 155 192 j115) (k96 : qSnd C w 3 155 (qQf C w 155 155 jV) qfin 155 161 j96) : qSnd C w 3 155 (qQf C w 155 155 jV) qfin 155 79 (tX13_know_48 j117 j115 j96) :=
  cLi (pc := 79) h dX13_know_79 rfl (cLa (pc := 80) h dX13_know_80 rfl (gGi (pc := 81) h dX13_know_81 ff_X13_452_98 (Nat.le_of_ble_eq_true rfl) (Nat.le_of_ble_eq_true rfl) (jCGe (pc := 84) h dX13_know_84 rfl (k117) (cLa (pc := 87) h dX13_know_87 rfl (gGf (pc := 88) h dX13_know_88 ff_X13_247_98 (Nat.le_of_ble_eq_true rfl) (Nat.le_of_ble_eq_true rfl) rfl (cLi (pc := 91) h dX13_know_91 rfl (rAi (pc := 92) h dX13_know_92 rfl (Nat.le_of_ble_eq_true rfl) (Nat.le_of_ble_eq_true rfl) (cLi (pc := 93) h dX13_know_93 rfl (jCGt (pc := 94) h dX13_know_94 rfl (k117) (cLa (pc := 97) h dX13_know_97 rfl (gGf (pc := 98) h dX13_know_98 ff_X13_250_98 (Nat.le_of_ble_eq_true rfl) (Nat.le_of_ble_eq_true rfl) rfl (cLi (pc := 101) h dX13_know_101 rfl (rAi (pc := 102) h dX13_know_102 rfl (Nat.le_of_ble_eq_true rfl) (Nat.le_of_ble_eq_true rfl) (jNe (pc := 103) h dX13_know_103 rfl (cLa (pc := 126) h dX13_know_126 rfl (gGf (pc := 127) h dX13_know_127 ff_X13_250_98 (Nat.le_of_ble_eq_true rfl) (Nat.le_of_ble_eq_true rfl) rfl (cLi (pc := 130) h dX13_know_130 rfl (rAi (pc := 131) h dX13_know_131 rfl (Nat.le_of_ble_eq_true rfl) (Nat.le_of_ble_eq_true rfl) (cC (pc := 132) h dX13_know_132 rfl (jCNe (pc := 133) h dX13_know_133 rfl (cLa (pc := 165) h dX13_know_165 rfl (gGf (pc := 166) h dX13_know_166 ff_X13_250_98 (Nat.le_of_ble_eq_true rfl) (Nat.le_of_ble_eq_true rfl) rfl (cLi (pc := 169) h dX13_know_169 rfl (rAi (pc := 170) h dX13_know_170 rfl (Nat.le_of_ble_eq_true rfl) (Nat.le_of_ble_eq_true rfl) (cC (pc := 171) h dX13_know_171 rfl (jCNe (pc := 172) h dX13_know_172 rfl (k115) (cLa (pc := 175) h dX13_know_175 rfl (gGf (pc := 176) h dX13_know_176 ff_X13_265_98 (Nat.le_of_ble_eq_true rfl) (Nat.le_of_ble_eq_true rfl) rfl (cLa (pc := 179) h dX13_know_179 rfl (gGf (pc := 180) h dX13_know_180 ff_X13_253_98 (Nat.le_of_ble_eq_true rfl) (Nat.le_of_ble_eq_true rfl) rfl (cLi (pc := 183) h dX13_know_183 rfl (rAi (pc := 184) h dX13_know_184 rfl (Nat.le_of_ble_eq_true rfl) (Nat.le_of_ble_eq_true rfl) (cLa (pc := 185) h dX13_know_185 rfl (gGf (pc := 186) h dX13_know_186 ff_X13_256_98 (Nat.le_of_ble_eq_true rfl) (Nat.le_of_ble_eq_true rfl) rfl (cLi (pc := 189) h dX13_know_189 rfl (rAi (pc := 190) h dX13_know_190 rfl (Nat.le_of_ble_eq_true rfl) (Nat.le_of_ble_eq_true rfl) (rWi (pc := 191) h dX13_know_191 rfl (Nat.le_of_ble_eq_true rfl) (Nat.le_of_ble_eq_true rfl) (k115)))))))))))))))))) (cLa (pc := 136) h dX13_know_136 rfl (gGf (pc := 137) h dX13_know_137 ff_X13_289_98 (Nat.le_of_ble_eq_true rfl) (Nat.le_of_ble_eq_true rfl) rfl (cLa (pc := 140) h dX13_know_140 rfl (gGf (pc := 141) h dX13_know_141 ff_X13_253_98 (Nat.le_of_ble_eq_true rfl) (Nat.le_of_ble_eq_true rfl) rfl (cLi (pc := 144) h dX13_know_144 rfl (rAi (pc := 145) h dX13_know_145 rfl (Nat.le_of_ble_eq_true rfl) (Nat.le_of_ble_eq_true rfl) (cLa (pc := 146) h dX13_know_146 rfl (gGf (pc := 147) h dX13_know_147 ff_X13_256_98 (Nat.le_of_ble_eq_true rfl) (Nat.le_of_ble_eq_true rfl) rfl (cLi (pc := 150) h dX13_know_150 rfl (rAi (pc := 151) h dX13_know_151 rfl (Nat.le_of_ble_eq_true rfl) (Nat.le_of_ble_eq_true rfl) (cC (pc := 152) h dX13_know_152 rfl (jCNe (pc := 153) h dX13_know_153 rfl (cC (pc := 160) h dX13_know_160 rfl (k96)) (cC (pc := 156) h dX13_know_156 rfl (jGo (pc := 157) h dX13_know_157 rfl (k96))))))))))))))))))))) (cLa (pc := 106) h dX13_know_106 rfl (gGf (pc := 107) h dX13_know_107 ff_X13_262_98 (Nat.le_of_ble_eq_true rfl) (Nat.le_of_ble_eq_true rfl) rfl (cLa (pc := 110) h dX13_know_110 rfl (gGf (pc := 111) h dX13_know_111 ff_X13_253_98 (Nat.le_of_ble_eq_true rfl) (Nat.le_of_ble_eq_true rfl) rfl (cLi (pc := 114) h dX13_know_114 rfl (rAi (pc := 115) h dX13_know_115 rfl (Nat.le_of_ble_eq_true rfl) (Nat.le_of_ble_eq_true rfl) (cLa (pc := 116) h dX13_know_116 rfl (gGf (pc := 117) h dX13_know_117 ff_X13_256_98 (Nat.le_of_ble_eq_true rfl) (Nat.le_of_ble_eq_true rfl) rfl (cLi (pc := 120) h dX13_know_120 rfl (rAi (pc := 121) h dX13_know_121 rfl (Nat.le_of_ble_eq_true rfl) (Nat.le_of_ble_eq_true rfl) (rWi (pc := 122) h dX13_know_122 rfl (Nat.le_of_ble_eq_true rfl) (Nat.le_of_ble_eq_true rfl) (jGo (pc := 123) h dX13_know_123 rfl (k115)))))))))))))))))))))))))))
set_option maxRecDepth 20000 in
theorem lX13_know_48 (k117 : qM → Option (Unit × qM)) (n : Nat) (a1 : Int32) (a2 : Int32) (m : qM) : tX13_know_48 (wX13_know_117 k117) (wX13_know_115 (fX13_know_115 (fX13_know_48 k117 n))) (wX13_know_96 (fX13_know_96 (fX13_know_48 k117 n))) [some (.ref 98), some (.int a1), some (.int a2)] [] m = fX13_know_48 k117 (n + 1) a1 a2 m := rfl
theorem bX13_know_48 {C : qCx} {w : qWp} (h : qOk C w RX13 cX13_know 3 1 155 155) (hm : qMt C none) (hx : qNx C) {k117 : qM → Option (Unit × qM)} (h117 : qSnd C w 3 155 (qQf C w 155 155 jV) qfin 155 198 (wX13_know_117 k117)) : ∀ n : Nat, qSnd C w 3 155 (qQf C w 155 155 jV) qfin 155 79 (wX13_know_48 (fX13_know_48 k117 n))
  | 0 => qSnd_of0 (fun lo st m x hr0 => by
    unfold wX13_know_48 at hr0
    split at hr0
    · cases hr0
    · cases hr0)
  | n + 1 => by
    have ih := bX13_know_48 h hm hx h117 n
    exact qSnd_of (fun lo st m x hr0 => by
    unfold wX13_know_48 at hr0
    split at hr0
    · exact ⟨_, (qsub_e (qsub_e (qsub_e qsub_nil))), (lX13_know_48 _ n _ _ _).trans hr0⟩
    · cases hr0) (sX13_know_48 h hm hx h117 (bX13_know_115 h hm hx ih) (bX13_know_96 h hm hx ih))
noncomputable def tX13_know_117 : qT (Unit × qM) :=
  eV
set_option maxRecDepth 20000 in
theorem sX13_know_117 {C : qCx} {w : qWp} (h : qOk C w RX13 cX13_know 3 1 155 155) (hm : qMt C none) (hx : qNx C) : qSnd C w 3 155 (qQf C w 155 155 jV) qfin 155 198 (tX13_know_117) :=
  zV (pc := 198) h hm (Nat.le_refl _) dX13_know_198
set_option maxRecDepth 20000 in
theorem lX13_know_117 (m : qM) : tX13_know_117 [none, none, none] [] m = fX13_know_117 m := rfl
theorem bX13_know_117 {C : qCx} {w : qWp} (h : qOk C w RX13 cX13_know 3 1 155 155) (hm : qMt C none) (hx : qNx C) : qSnd C w 3 155 (qQf C w 155 155 jV) qfin 155 198 (wX13_know_117 fX13_know_117) :=
  qSnd_of (fun lo st m x hr0 => by
    unfold wX13_know_117 at hr0
    split at hr0
    · exact ⟨_, (qsub_n (qsub_n (qsub_n qsub_nil))), (lX13_know_117 _).trans hr0⟩
    · cases hr0) (sX13_know_117 h hm hx)
noncomputable def tX13_know_0 (j5 : qT (Unit × qM)) : qT (Unit × qM) :=
  oLa 0 (oLi 1 (oPi 98 70 (oC (.int (0 : Int32)) (oSi 2 (j5)))))
set_option maxRecDepth 20000 in
theorem sX13_know_0 {C : qCx} {w : qWp} (h : qOk C w RX13 cX13_know 3 1 155 155) (hm : qMt C none) (hx : qNx C) {j5 : qT (Unit × qM)} (k5 : qSnd C w 3 155 (qQf C w 155 155 jV) qfin 155 7 j5) : qSnd C w 3 155 (qQf C w 155 155 jV) qfin 155 0 (tX13_know_0 j5) :=
  cLa (pc := 0) h dX13_know_0 rfl (cLi (pc := 1) h dX13_know_1 rfl (gPi (pc := 2) h dX13_know_2 ff_X13_465_98 (Or.inl rfl) (Nat.le_of_ble_eq_true rfl) (Nat.le_of_ble_eq_true rfl) (cC (pc := 5) h dX13_know_5 rfl (cSi (pc := 6) h dX13_know_6 rfl (k5)))))
set_option maxRecDepth 20000 in
theorem lX13_know_0 (a1 : Int32) (m : qM) : tX13_know_0 (wX13_know_5 (fX13_know_5 (fX13_know_28 (fX13_know_48 fX13_know_117 FU) FU) FU)) [some (.ref 98), some (.int a1), none] [] m = fX13_know_0 a1 m := rfl
noncomputable def GX13_know : qG Unit := fun av m => match av with
  | [.ref 98, .int a1] => fX13_know a1 m
  | _ => none
theorem spX13_know : qSpV yX13_know (.code yX13_know cX13_know 3 none) 1 qfin 155 155 1 GX13_know := by
  intro av m m' hG
  unfold GX13_know at hG
  split at hG
  · rename_i a1
    rw [fX13_know_d] at hG
    exact ⟨qmeet (J := jV) (r := ((), m')) (av := [.ref 98, .int a1]) (by decide +kernel) (Nat.le_of_ble_eq_true rfl) (fun C w h hm hx hn => sX13_know_0 h hm hx (bX13_know_5 h hm hx (bX13_know_28 h hm hx (bX13_know_48 h hm hx (bX13_know_117 h hm hx) FU) FU) FU)) ((lX13_know_0 _ _).trans hG) (Nat.le_of_ble_eq_true rfl), Or.inl ⟨98, _, 13, _, _, rfl, by decide, rfl, qCk_13, rfl⟩⟩
  · cases hG
theorem dX13_isAway_0 : decode cX13_isAway 0 = .ok (.iconst 0, 1) := by decide +kernel
theorem dX13_isAway_1 : decode cX13_isAway 1 = .ok (.istore_n 3, 1) := by decide +kernel
theorem dX13_isAway_2 : decode cX13_isAway 2 = .ok (.iload_n 3, 1) := by decide +kernel
theorem dX13_isAway_3 : decode cX13_isAway 3 = .ok (.aload_n 0, 1) := by decide +kernel
theorem dX13_isAway_4 : decode cX13_isAway 4 = .ok (.getfield 452, 3) := by decide +kernel
theorem dX13_isAway_7 : decode cX13_isAway 7 = .ok (.if_icmp .ge 66, 3) := by decide +kernel
theorem dX13_isAway_10 : decode cX13_isAway 10 = .ok (.aload_n 0, 1) := by decide +kernel
theorem dX13_isAway_11 : decode cX13_isAway 11 = .ok (.getfield 247, 3) := by decide +kernel
theorem dX13_isAway_14 : decode cX13_isAway 14 = .ok (.iload_n 3, 1) := by decide +kernel
theorem dX13_isAway_15 : decode cX13_isAway 15 = .ok (.iaload, 1) := by decide +kernel
theorem dX13_isAway_16 : decode cX13_isAway 16 = .ok (.aload_n 0, 1) := by decide +kernel
theorem dX13_isAway_17 : decode cX13_isAway 17 = .ok (.getfield 465, 3) := by decide +kernel
theorem dX13_isAway_20 : decode cX13_isAway 20 = .ok (.if_icmp .gt 53, 3) := by decide +kernel
theorem dX13_isAway_23 : decode cX13_isAway 23 = .ok (.aload_n 0, 1) := by decide +kernel
theorem dX13_isAway_24 : decode cX13_isAway 24 = .ok (.getfield 250, 3) := by decide +kernel
theorem dX13_isAway_27 : decode cX13_isAway 27 = .ok (.iload_n 3, 1) := by decide +kernel
theorem dX13_isAway_28 : decode cX13_isAway 28 = .ok (.iaload, 1) := by decide +kernel
theorem dX13_isAway_29 : decode cX13_isAway 29 = .ok (.iconst 3, 1) := by decide +kernel
theorem dX13_isAway_30 : decode cX13_isAway 30 = .ok (.if_icmp .ne 37, 3) := by decide +kernel
theorem dX13_isAway_33 : decode cX13_isAway 33 = .ok (.aload_n 0, 1) := by decide +kernel
theorem dX13_isAway_34 : decode cX13_isAway 34 = .ok (.getfield 253, 3) := by decide +kernel
theorem dX13_isAway_37 : decode cX13_isAway 37 = .ok (.iload_n 3, 1) := by decide +kernel
theorem dX13_isAway_38 : decode cX13_isAway 38 = .ok (.iaload, 1) := by decide +kernel
theorem dX13_isAway_39 : decode cX13_isAway 39 = .ok (.iload_n 1, 1) := by decide +kernel
theorem dX13_isAway_40 : decode cX13_isAway 40 = .ok (.if_icmp .ne 27, 3) := by decide +kernel
theorem dX13_isAway_43 : decode cX13_isAway 43 = .ok (.iload_n 2, 1) := by decide +kernel
theorem dX13_isAway_44 : decode cX13_isAway 44 = .ok (.i2l, 1) := by decide +kernel
theorem dX13_isAway_45 : decode cX13_isAway 45 = .ok (.aload_n 0, 1) := by decide +kernel
theorem dX13_isAway_46 : decode cX13_isAway 46 = .ok (.getfield 256, 3) := by decide +kernel
theorem dX13_isAway_49 : decode cX13_isAway 49 = .ok (.iload_n 3, 1) := by decide +kernel
theorem dX13_isAway_50 : decode cX13_isAway 50 = .ok (.iaload, 1) := by decide +kernel
theorem dX13_isAway_51 : decode cX13_isAway 51 = .ok (.i2l, 1) := by decide +kernel
theorem dX13_isAway_52 : decode cX13_isAway 52 = .ok (.aload_n 0, 1) := by decide +kernel
theorem dX13_isAway_53 : decode cX13_isAway 53 = .ok (.getfield 259, 3) := by decide +kernel
theorem dX13_isAway_56 : decode cX13_isAway 56 = .ok (.iload_n 3, 1) := by decide +kernel
theorem dX13_isAway_57 : decode cX13_isAway 57 = .ok (.iaload, 1) := by decide +kernel
theorem dX13_isAway_58 : decode cX13_isAway 58 = .ok (.i2l, 1) := by decide +kernel
theorem dX13_isAway_59 : decode cX13_isAway 59 = .ok (.invokestatic 66, 3) := by decide +kernel
theorem dX13_isAway_62 : decode cX13_isAway 62 = .ok (.ifCond .eq 5, 3) := by decide +kernel
theorem dX13_isAway_65 : decode cX13_isAway 65 = .ok (.iconst 1, 1) := by decide +kernel
theorem dX13_isAway_66 : decode cX13_isAway 66 = .ok (.ireturn, 1) := by decide +kernel
theorem dX13_isAway_67 : decode cX13_isAway 67 = .ok (.iinc 3 1, 3) := by decide +kernel
theorem dX13_isAway_70 : decode cX13_isAway 70 = .ok (.goto (-68), 3) := by decide +kernel
theorem dX13_isAway_73 : decode cX13_isAway 73 = .ok (.iconst 0, 1) := by decide +kernel
theorem dX13_isAway_74 : decode cX13_isAway 74 = .ok (.ireturn, 1) := by decide +kernel
noncomputable def tX13_isAway_41 (j2 : qT (Int32 × qM)) : qT (Int32 × qM) :=
  oInc 3 (1 : Int32) (j2)
noncomputable def wX13_isAway_41 (k : Int32 → Int32 → Int32 → qM → Option (Int32 × qM)) : qT (Int32 × qM) := fun lo st m => match lo, st with
  | [some (.ref 98), some (.int a1), some (.int a2), some (.int a3)], [] => k a1 a2 a3 m
  | _, _ => none
noncomputable def wX13_isAway_2 (k : Int32 → Int32 → Int32 → qM → Option (Int32 × qM)) : qT (Int32 × qM) := fun lo st m => match lo, st with
  | [some (.ref 98), some (.int a1), some (.int a2), some (.int a3)], [] => k a1 a2 a3 m
  | _, _ => none
set_option maxRecDepth 20000 in
theorem sX13_isAway_41 {C : qCx} {w : qWp} (h : qOk C w RX13 cX13_isAway 4 1 155 155) (hm : qMt C (some .boolean)) (hx : qNx C) {j2 : qT (Int32 × qM)} (k2 : qSnd C w 4 155 (qQf C w 155 155 jI) qfin 155 2 j2) : qSnd C w 4 155 (qQf C w 155 155 jI) qfin 155 67 (tX13_isAway_41 j2) :=
  cInc (pc := 67) h dX13_isAway_67 rfl (jGo (pc := 70) h dX13_isAway_70 rfl (k2))
set_option maxRecDepth 20000 in
theorem lX13_isAway_41 (k2 : Int32 → Int32 → Int32 → qM → Option (Int32 × qM)) (a1 : Int32) (a2 : Int32) (a3 : Int32) (m : qM) : tX13_isAway_41 (wX13_isAway_2 k2) [some (.ref 98), some (.int a1), some (.int a2), some (.int a3)] [] m = fX13_isAway_41 k2 a1 a2 a3 m := rfl
theorem bX13_isAway_41 {C : qCx} {w : qWp} (h : qOk C w RX13 cX13_isAway 4 1 155 155) (hm : qMt C (some .boolean)) (hx : qNx C) {k2 : Int32 → Int32 → Int32 → qM → Option (Int32 × qM)} (h2 : qSnd C w 4 155 (qQf C w 155 155 jI) qfin 155 2 (wX13_isAway_2 k2)) : qSnd C w 4 155 (qQf C w 155 155 jI) qfin 155 67 (wX13_isAway_41 (fX13_isAway_41 k2)) :=
  qSnd_of (fun lo st m x hr0 => by
    unfold wX13_isAway_41 at hr0
    split at hr0
    · exact ⟨_, (qsub_e (qsub_e (qsub_e (qsub_e qsub_nil)))), (lX13_isAway_41 _ _ _ _ _).trans hr0⟩
    · cases hr0) (sX13_isAway_41 h hm hx h2)
noncomputable def tX13_isAway_2 (j43 : qT (Int32 × qM)) (j41 : qT (Int32 × qM)) : qT (Int32 × qM) :=
  oLi 3 (oLa 0 (oGi 98 52 (oCGe (j43) (oLa 0 (oGf 98 53 134 (oLi 3 (oAi 134 80 (oLa 0 (oGi 98 70 (oCGt (j43) (oLa 0 (oGf 98 54 135 (oLi 3 (oAi 135 80 (oC (.int (3 : Int32)) (oCEq (oLa 0 (oGf 98 55 136 (oLi 3 (oAi 136 80 (oLi 1 (oCEq (oLi 2 (oI2l (oLa 0 (oGf 98 56 137 (oLi 3 (oAi 137 80 (oI2l (oLa 0 (oGf 98 57 138 (oLi 3 (oAi 138 80 (oI2l (oCi GX13_in 3 (oEq (j41) (oC (.int (1 : Int32)) (eZ)))))))))))))))) (j41))))))) (j41)))))))))))))))))
noncomputable def wX13_isAway_43 (k : qM → Option (Int32 × qM)) : qT (Int32 × qM) := fun lo st m => match lo, st with
  | [_, _, _, _], [] => k m
  | _, _ => none
set_option maxRecDepth 20000 in
theorem sX13_isAway_2 {C : qCx} {w : qWp} (h : qOk C w RX13 cX13_isAway 4 1 155 155) (hm : qMt C (some .boolean)) (hx : qNx C) {j43 : qT (Int32 × qM)} {j41 : qT (Int32 × qM)} (k43 : qSnd C w 4 155 (qQf C w 155 155 jI) qfin 155 73 j43) (k41 : qSnd C w 4 155 (qQf C w 155 155 jI) qfin 155 67 j41) : qSnd C w 4 155 (qQf C w 155 155 jI) qfin 155 2 (tX13_isAway_2 j43 j41) :=
  cLi (pc := 2) h dX13_isAway_2 rfl (cLa (pc := 3) h dX13_isAway_3 rfl (gGi (pc := 4) h dX13_isAway_4 ff_X13_452_98 (Nat.le_of_ble_eq_true rfl) (Nat.le_of_ble_eq_true rfl) (jCGe (pc := 7) h dX13_isAway_7 rfl (k43) (cLa (pc := 10) h dX13_isAway_10 rfl (gGf (pc := 11) h dX13_isAway_11 ff_X13_247_98 (Nat.le_of_ble_eq_true rfl) (Nat.le_of_ble_eq_true rfl) rfl (cLi (pc := 14) h dX13_isAway_14 rfl (rAi (pc := 15) h dX13_isAway_15 rfl (Nat.le_of_ble_eq_true rfl) (Nat.le_of_ble_eq_true rfl) (cLa (pc := 16) h dX13_isAway_16 rfl (gGi (pc := 17) h dX13_isAway_17 ff_X13_465_98 (Nat.le_of_ble_eq_true rfl) (Nat.le_of_ble_eq_true rfl) (jCGt (pc := 20) h dX13_isAway_20 rfl (k43) (cLa (pc := 23) h dX13_isAway_23 rfl (gGf (pc := 24) h dX13_isAway_24 ff_X13_250_98 (Nat.le_of_ble_eq_true rfl) (Nat.le_of_ble_eq_true rfl) rfl (cLi (pc := 27) h dX13_isAway_27 rfl (rAi (pc := 28) h dX13_isAway_28 rfl (Nat.le_of_ble_eq_true rfl) (Nat.le_of_ble_eq_true rfl) (cC (pc := 29) h dX13_isAway_29 rfl (jCNe (pc := 30) h dX13_isAway_30 rfl (k41) (cLa (pc := 33) h dX13_isAway_33 rfl (gGf (pc := 34) h dX13_isAway_34 ff_X13_253_98 (Nat.le_of_ble_eq_true rfl) (Nat.le_of_ble_eq_true rfl) rfl (cLi (pc := 37) h dX13_isAway_37 rfl (rAi (pc := 38) h dX13_isAway_38 rfl (Nat.le_of_ble_eq_true rfl) (Nat.le_of_ble_eq_true rfl) (cLi (pc := 39) h dX13_isAway_39 rfl (jCNe (pc := 40) h dX13_isAway_40 rfl (k41) (cLi (pc := 43) h dX13_isAway_43 rfl (aI2l (pc := 44) h dX13_isAway_44 (cLa (pc := 45) h dX13_isAway_45 rfl (gGf (pc := 46) h dX13_isAway_46 ff_X13_256_98 (Nat.le_of_ble_eq_true rfl) (Nat.le_of_ble_eq_true rfl) rfl (cLi (pc := 49) h dX13_isAway_49 rfl (rAi (pc := 50) h dX13_isAway_50 rfl (Nat.le_of_ble_eq_true rfl) (Nat.le_of_ble_eq_true rfl) (aI2l (pc := 51) h dX13_isAway_51 (cLa (pc := 52) h dX13_isAway_52 rfl (gGf (pc := 53) h dX13_isAway_53 ff_X13_259_98 (Nat.le_of_ble_eq_true rfl) (Nat.le_of_ble_eq_true rfl) rfl (cLi (pc := 56) h dX13_isAway_56 rfl (rAi (pc := 57) h dX13_isAway_57 rfl (Nat.le_of_ble_eq_true rfl) (Nat.le_of_ble_eq_true rfl) (aI2l (pc := 58) h dX13_isAway_58 (kCi (pc := 59) h (kd_X13_66 h dX13_isAway_59) spX13_in (by decide) (by decide) (by decide) (by decide) (jEq (pc := 62) h dX13_isAway_62 rfl (k41) (cC (pc := 65) h dX13_isAway_65 rfl (zZ (pc := 66) h hm (Nat.le_refl _) dX13_isAway_66))))))))))))))))))))))))))))))))))))))
set_option maxRecDepth 20000 in
theorem lX13_isAway_2 (k43 : qM → Option (Int32 × qM)) (n : Nat) (a1 : Int32) (a2 : Int32) (a3 : Int32) (m : qM) : tX13_isAway_2 (wX13_isAway_43 k43) (wX13_isAway_41 (fX13_isAway_41 (fX13_isAway_2 k43 n))) [some (.ref 98), some (.int a1), some (.int a2), some (.int a3)] [] m = fX13_isAway_2 k43 (n + 1) a1 a2 a3 m := rfl
theorem bX13_isAway_2 {C : qCx} {w : qWp} (h : qOk C w RX13 cX13_isAway 4 1 155 155) (hm : qMt C (some .boolean)) (hx : qNx C) {k43 : qM → Option (Int32 × qM)} (h43 : qSnd C w 4 155 (qQf C w 155 155 jI) qfin 155 73 (wX13_isAway_43 k43)) : ∀ n : Nat, qSnd C w 4 155 (qQf C w 155 155 jI) qfin 155 2 (wX13_isAway_2 (fX13_isAway_2 k43 n))
  | 0 => qSnd_of0 (fun lo st m x hr0 => by
    unfold wX13_isAway_2 at hr0
    split at hr0
    · cases hr0
    · cases hr0)
  | n + 1 => by
    have ih := bX13_isAway_2 h hm hx h43 n
    exact qSnd_of (fun lo st m x hr0 => by
    unfold wX13_isAway_2 at hr0
    split at hr0
    · exact ⟨_, (qsub_e (qsub_e (qsub_e (qsub_e qsub_nil)))), (lX13_isAway_2 _ n _ _ _ _).trans hr0⟩
    · cases hr0) (sX13_isAway_2 h hm hx h43 (bX13_isAway_41 h hm hx ih))
noncomputable def tX13_isAway_43 : qT (Int32 × qM) :=
  oC (.int (0 : Int32)) (eZ)
set_option maxRecDepth 20000 in
theorem sX13_isAway_43 {C : qCx} {w : qWp} (h : qOk C w RX13 cX13_isAway 4 1 155 155) (hm : qMt C (some .boolean)) (hx : qNx C) : qSnd C w 4 155 (qQf C w 155 155 jI) qfin 155 73 (tX13_isAway_43) :=
  cC (pc := 73) h dX13_isAway_73 rfl (zZ (pc := 74) h hm (Nat.le_refl _) dX13_isAway_74)
set_option maxRecDepth 20000 in
theorem lX13_isAway_43 (m : qM) : tX13_isAway_43 [none, none, none, none] [] m = fX13_isAway_43 m := rfl
theorem bX13_isAway_43 {C : qCx} {w : qWp} (h : qOk C w RX13 cX13_isAway 4 1 155 155) (hm : qMt C (some .boolean)) (hx : qNx C) : qSnd C w 4 155 (qQf C w 155 155 jI) qfin 155 73 (wX13_isAway_43 fX13_isAway_43) :=
  qSnd_of (fun lo st m x hr0 => by
    unfold wX13_isAway_43 at hr0
    split at hr0
    · exact ⟨_, (qsub_n (qsub_n (qsub_n (qsub_n qsub_nil)))), (lX13_isAway_43 _).trans hr0⟩
    · cases hr0) (sX13_isAway_43 h hm hx)
noncomputable def tX13_isAway_0 (j2 : qT (Int32 × qM)) : qT (Int32 × qM) :=
  oC (.int (0 : Int32)) (oSi 3 (j2))
set_option maxRecDepth 20000 in
theorem sX13_isAway_0 {C : qCx} {w : qWp} (h : qOk C w RX13 cX13_isAway 4 1 155 155) (hm : qMt C (some .boolean)) (hx : qNx C) {j2 : qT (Int32 × qM)} (k2 : qSnd C w 4 155 (qQf C w 155 155 jI) qfin 155 2 j2) : qSnd C w 4 155 (qQf C w 155 155 jI) qfin 155 0 (tX13_isAway_0 j2) :=
  cC (pc := 0) h dX13_isAway_0 rfl (cSi (pc := 1) h dX13_isAway_1 rfl (k2))
set_option maxRecDepth 20000 in
theorem lX13_isAway_0 (a1 : Int32) (a2 : Int32) (m : qM) : tX13_isAway_0 (wX13_isAway_2 (fX13_isAway_2 fX13_isAway_43 FU)) [some (.ref 98), some (.int a1), some (.int a2), none] [] m = fX13_isAway_0 a1 a2 m := rfl
noncomputable def GX13_isAway : qG Int32 := fun av m => match av with
  | [.ref 98, .int a1, .int a2] => fX13_isAway a1 a2 m
  | _ => none
theorem spX13_isAway : qSpI yX13_isAway (.code yX13_isAway cX13_isAway 4 (some .boolean)) 1 qfin 155 155 1 GX13_isAway := by
  intro av m x m' hG
  unfold GX13_isAway at hG
  split at hG
  · rename_i a1 a2
    rw [fX13_isAway_d] at hG
    exact ⟨qmeet (J := jI) (r := (x, m')) (av := [.ref 98, .int a1, .int a2]) (by decide +kernel) (Nat.le_of_ble_eq_true rfl) (fun C w h hm hx hn => sX13_isAway_0 h hm hx (bX13_isAway_2 h hm hx (bX13_isAway_43 h hm hx) FU)) ((lX13_isAway_0 _ _ _).trans hG) (Nat.le_of_ble_eq_true rfl), Or.inl ⟨98, _, 13, _, _, rfl, by decide, rfl, qCk_13, rfl⟩⟩
  · cases hG
theorem mf_X13_268 : Jvm.Cond.fieldLink RX13 268 (qTb 13 60).1 (qTb 13 60).2.1 (qTb 13 60).2.2.1 ∈ qTw := qm7 (List.mem_of_getElem? (i := 38) (by decide +kernel)) (by decide +kernel)
theorem ff_X13_268_98 : qFd RX13 268 98 13 60 3 := ⟨mf_X13_268, rfl, by decide, rfl⟩
theorem mf_X13_292 : Jvm.Cond.fieldLink RX13 292 (qTb 13 68).1 (qTb 13 68).2.1 (qTb 13 68).2.2.1 ∈ qTw := qm7 (List.mem_of_getElem? (i := 46) (by decide +kernel)) (by decide +kernel)
theorem ff_X13_292_98 : qFd RX13 292 98 13 68 3 := ⟨mf_X13_292, rfl, by decide, rfl⟩
theorem dX13_isOpen_0 : decode cX13_isOpen 0 = .ok (.aload_n 0, 1) := by decide +kernel
theorem dX13_isOpen_1 : decode cX13_isOpen 1 = .ok (.getfield 221, 3) := by decide +kernel
theorem dX13_isOpen_4 : decode cX13_isOpen 4 = .ok (.iload_n 1, 1) := by decide +kernel
theorem dX13_isOpen_5 : decode cX13_isOpen 5 = .ok (.iaload, 1) := by decide +kernel
theorem dX13_isOpen_6 : decode cX13_isOpen 6 = .ok (.iconst (-1), 1) := by decide +kernel
theorem dX13_isOpen_7 : decode cX13_isOpen 7 = .ok (.if_icmp .eq 26, 3) := by decide +kernel
theorem dX13_isOpen_10 : decode cX13_isOpen 10 = .ok (.aload_n 0, 1) := by decide +kernel
theorem dX13_isOpen_11 : decode cX13_isOpen 11 = .ok (.getfield 268, 3) := by decide +kernel
theorem dX13_isOpen_14 : decode cX13_isOpen 14 = .ok (.iload_n 1, 1) := by decide +kernel
theorem dX13_isOpen_15 : decode cX13_isOpen 15 = .ok (.iaload, 1) := by decide +kernel
theorem dX13_isOpen_16 : decode cX13_isOpen 16 = .ok (.iconst (-1), 1) := by decide +kernel
theorem dX13_isOpen_17 : decode cX13_isOpen 17 = .ok (.if_icmp .ne 16, 3) := by decide +kernel
theorem dX13_isOpen_20 : decode cX13_isOpen 20 = .ok (.aload_n 0, 1) := by decide +kernel
theorem dX13_isOpen_21 : decode cX13_isOpen 21 = .ok (.getfield 292, 3) := by decide +kernel
theorem dX13_isOpen_24 : decode cX13_isOpen 24 = .ok (.iload_n 1, 1) := by decide +kernel
theorem dX13_isOpen_25 : decode cX13_isOpen 25 = .ok (.baload, 1) := by decide +kernel
theorem dX13_isOpen_26 : decode cX13_isOpen 26 = .ok (.ifCond .ne 7, 3) := by decide +kernel
theorem dX13_isOpen_29 : decode cX13_isOpen 29 = .ok (.iconst 1, 1) := by decide +kernel
theorem dX13_isOpen_30 : decode cX13_isOpen 30 = .ok (.goto 4, 3) := by decide +kernel
theorem dX13_isOpen_33 : decode cX13_isOpen 33 = .ok (.iconst 0, 1) := by decide +kernel
theorem dX13_isOpen_34 : decode cX13_isOpen 34 = .ok (.ireturn, 1) := by decide +kernel
noncomputable def tX13_isOpen_20 : qT (Int32 × qM) :=
  eZ
noncomputable def wX13_isOpen_20 (k : Int32 → qM → Option (Int32 × qM)) : qT (Int32 × qM) := fun lo st m => match lo, st with
  | [_, _], [.int s0] => k s0 m
  | _, _ => none
set_option maxRecDepth 20000 in
theorem sX13_isOpen_20 {C : qCx} {w : qWp} (h : qOk C w RX13 cX13_isOpen 2 0 155 155) (hm : qMt C (some .boolean)) (hx : qNx C) : qSnd C w 2 155 (qQf C w 155 155 jI) qfin 155 34 (tX13_isOpen_20) :=
  zZ (pc := 34) h hm (Nat.le_refl _) dX13_isOpen_34
set_option maxRecDepth 20000 in
theorem lX13_isOpen_20 (s0 : Int32) (m : qM) : tX13_isOpen_20 [none, none] [(.int s0)] m = fX13_isOpen_20 s0 m := rfl
theorem bX13_isOpen_20 {C : qCx} {w : qWp} (h : qOk C w RX13 cX13_isOpen 2 0 155 155) (hm : qMt C (some .boolean)) (hx : qNx C) : qSnd C w 2 155 (qQf C w 155 155 jI) qfin 155 34 (wX13_isOpen_20 fX13_isOpen_20) :=
  qSnd_of (fun lo st m x hr0 => by
    unfold wX13_isOpen_20 at hr0
    split at hr0
    · exact ⟨_, (qsub_n (qsub_n qsub_nil)), (lX13_isOpen_20 _ _).trans hr0⟩
    · cases hr0) (sX13_isOpen_20 h hm hx)
noncomputable def tX13_isOpen_19 (j20 : qT (Int32 × qM)) : qT (Int32 × qM) :=
  oC (.int (0 : Int32)) (j20)
noncomputable def wX13_isOpen_19 (k : qM → Option (Int32 × qM)) : qT (Int32 × qM) := fun lo st m => match lo, st with
  | [_, _], [] => k m
  | _, _ => none
set_option maxRecDepth 20000 in
theorem sX13_isOpen_19 {C : qCx} {w : qWp} (h : qOk C w RX13 cX13_isOpen 2 0 155 155) (hm : qMt C (some .boolean)) (hx : qNx C) {j20 : qT (Int32 × qM)} (k20 : qSnd C w 2 155 (qQf C w 155 155 jI) qfin 155 34 j20) : qSnd C w 2 155 (qQf C w 155 155 jI) qfin 155 33 (tX13_isOpen_19 j20) :=
  cC (pc := 33) h dX13_isOpen_33 rfl (k20)
set_option maxRecDepth 20000 in
theorem lX13_isOpen_19 (m : qM) : tX13_isOpen_19 (wX13_isOpen_20 fX13_isOpen_20) [none, none] [] m = fX13_isOpen_19 m := rfl
theorem bX13_isOpen_19 {C : qCx} {w : qWp} (h : qOk C w RX13 cX13_isOpen 2 0 155 155) (hm : qMt C (some .boolean)) (hx : qNx C) : qSnd C w 2 155 (qQf C w 155 155 jI) qfin 155 33 (wX13_isOpen_19 fX13_isOpen_19) :=
  qSnd_of (fun lo st m x hr0 => by
    unfold wX13_isOpen_19 at hr0
    split at hr0
    · exact ⟨_, (qsub_n (qsub_n qsub_nil)), (lX13_isOpen_19 _).trans hr0⟩
    · cases hr0) (sX13_isOpen_19 h hm hx (bX13_isOpen_20 h hm hx))
noncomputable def tX13_isOpen_0 (j19 : qT (Int32 × qM)) (j20 : qT (Int32 × qM)) : qT (Int32 × qM) :=
  oLa 0 (oGf 98 36 125 (oLi 1 (oAi 125 40 (oC (.int (-1 : Int32)) (oCEq (j19) (oLa 0 (oGf 98 60 141 (oLi 1 (oAi 141 40 (oC (.int (-1 : Int32)) (oCEq (oLa 0 (oGf 98 68 149 (oLi 1 (oAi 149 40 (oEq (oC (.int (1 : Int32)) (j20)) (j19)))))) (j19))))))))))))
set_option maxRecDepth 20000 in
theorem sX13_isOpen_0 {C : qCx} {w : qWp} (h : qOk C w RX13 cX13_isOpen 2 0 155 155) (hm : qMt C (some .boolean)) (hx : qNx C) {j19 : qT (Int32 × qM)} {j20 : qT (Int32 × qM)} (k19 : qSnd C w 2 155 (qQf C w 155 155 jI) qfin 155 33 j19) (k20 : qSnd C w 2 155 (qQf C w 155 155 jI) qfin 155 34 j20) : qSnd C w 2 155 (qQf C w 155 155 jI) qfin 155 0 (tX13_isOpen_0 j19 j20) :=
  cLa (pc := 0) h dX13_isOpen_0 rfl (gGf (pc := 1) h dX13_isOpen_1 ff_X13_221_98 (Nat.le_of_ble_eq_true rfl) (Nat.le_of_ble_eq_true rfl) rfl (cLi (pc := 4) h dX13_isOpen_4 rfl (rAi (pc := 5) h dX13_isOpen_5 rfl (Nat.le_of_ble_eq_true rfl) (Nat.le_of_ble_eq_true rfl) (cC (pc := 6) h dX13_isOpen_6 rfl (jCEq (pc := 7) h dX13_isOpen_7 rfl (k19) (cLa (pc := 10) h dX13_isOpen_10 rfl (gGf (pc := 11) h dX13_isOpen_11 ff_X13_268_98 (Nat.le_of_ble_eq_true rfl) (Nat.le_of_ble_eq_true rfl) rfl (cLi (pc := 14) h dX13_isOpen_14 rfl (rAi (pc := 15) h dX13_isOpen_15 rfl (Nat.le_of_ble_eq_true rfl) (Nat.le_of_ble_eq_true rfl) (cC (pc := 16) h dX13_isOpen_16 rfl (jCNe (pc := 17) h dX13_isOpen_17 rfl (k19) (cLa (pc := 20) h dX13_isOpen_20 rfl (gGf (pc := 21) h dX13_isOpen_21 ff_X13_292_98 (Nat.le_of_ble_eq_true rfl) (Nat.le_of_ble_eq_true rfl) rfl (cLi (pc := 24) h dX13_isOpen_24 rfl (rAz (pc := 25) h dX13_isOpen_25 rfl (Nat.le_of_ble_eq_true rfl) (Nat.le_of_ble_eq_true rfl) (jNe (pc := 26) h dX13_isOpen_26 rfl (k19) (cC (pc := 29) h dX13_isOpen_29 rfl (jGo (pc := 30) h dX13_isOpen_30 rfl (k20)))))))))))))))))))
set_option maxRecDepth 20000 in
theorem lX13_isOpen_0 (a1 : Int32) (m : qM) : tX13_isOpen_0 (wX13_isOpen_19 fX13_isOpen_19) (wX13_isOpen_20 fX13_isOpen_20) [some (.ref 98), some (.int a1)] [] m = fX13_isOpen_0 a1 m := rfl
noncomputable def GX13_isOpen : qG Int32 := fun av m => match av with
  | [.ref 98, .int a1] => fX13_isOpen a1 m
  | _ => none
theorem spX13_isOpen : qSpI yX13_isOpen (.code yX13_isOpen cX13_isOpen 2 (some .boolean)) 0 qfin 155 155 1 GX13_isOpen := by
  intro av m x m' hG
  unfold GX13_isOpen at hG
  split at hG
  · rename_i a1
    rw [fX13_isOpen_d] at hG
    exact ⟨qmeet (J := jI) (r := (x, m')) (av := [.ref 98, .int a1]) (by decide +kernel) (Nat.le_of_ble_eq_true rfl) (fun C w h hm hx hn => sX13_isOpen_0 h hm hx (bX13_isOpen_19 h hm hx) (bX13_isOpen_20 h hm hx)) ((lX13_isOpen_0 _ _).trans hG) (Nat.le_of_ble_eq_true rfl), Or.inl ⟨98, _, 13, _, _, rfl, by decide, rfl, qCk_13, rfl⟩⟩
  · cases hG
theorem im_X13_isOpen : Jvm.Cond.instanceMethod yX13_isOpen ∈ qTw := qm9 (List.mem_of_getElem? (i := 76) (by decide +kernel)) (by decide +kernel)
theorem se_X13_isOpen : Jvm.Cond.selects yX13_isOpen.cls yX13_isOpen yX13_isOpen ∈ qTw := List.mem_filter.mpr ⟨List.mem_append_left _ (List.mem_of_getElem? (i := 77) (by decide +kernel)), rfl⟩
theorem co_X13_isOpen : Jvm.Cond.code yX13_isOpen cX13_isOpen 2 (some .boolean) ∈ qTw := qm9 (List.mem_of_getElem? (i := 77) (by decide +kernel)) (by decide +kernel)
theorem yk_X13_isOpen : qYk yX13_isOpen 1 := ⟨⟨by decide +kernel, by decide +kernel⟩, by decide +kernel⟩
theorem ml_X13_478 : Jvm.Cond.methodLink RX13 478 yX13_isOpen ∈ qTw := qm9 (List.mem_of_getElem? (i := 74) (by decide +kernel)) (by decide +kernel)
theorem kd_X13_478 {C : qCx} {w : qWp} {cc : ByteArray} {nL dp n0 n1 pc : Nat} (h : qOk C w RX13 cc nL dp n0 n1) (d : decode cc pc = .ok (.invokevirtual 478, 3)) : qCallOk C w nL dp n0 n1 pc 2 1 yX13_isOpen (.code yX13_isOpen cX13_isOpen 2 (some .boolean)) := kindV h d ml_X13_478 im_X13_isOpen se_X13_isOpen in_ParentEveModel co_X13_isOpen yk_X13_isOpen (by decide)
theorem dX13_frontOf_0 : decode cX13_frontOf 0 = .ok (.iconst (-1), 1) := by decide +kernel
theorem dX13_frontOf_1 : decode cX13_frontOf 1 = .ok (.istore_n 3, 1) := by decide +kernel
theorem dX13_frontOf_2 : decode cX13_frontOf 2 = .ok (.iconst 0, 1) := by decide +kernel
theorem dX13_frontOf_3 : decode cX13_frontOf 3 = .ok (.istore 4, 2) := by decide +kernel
theorem dX13_frontOf_5 : decode cX13_frontOf 5 = .ok (.iload 4, 2) := by decide +kernel
theorem dX13_frontOf_7 : decode cX13_frontOf 7 = .ok (.aload_n 0, 1) := by decide +kernel
theorem dX13_frontOf_8 : decode cX13_frontOf 8 = .ok (.getfield 313, 3) := by decide +kernel
theorem dX13_frontOf_11 : decode cX13_frontOf 11 = .ok (.if_icmp .ge 64, 3) := by decide +kernel
theorem dX13_frontOf_14 : decode cX13_frontOf 14 = .ok (.aload_n 0, 1) := by decide +kernel
theorem dX13_frontOf_15 : decode cX13_frontOf 15 = .ok (.getfield 218, 3) := by decide +kernel
theorem dX13_frontOf_18 : decode cX13_frontOf 18 = .ok (.iload 4, 2) := by decide +kernel
theorem dX13_frontOf_20 : decode cX13_frontOf 20 = .ok (.iaload, 1) := by decide +kernel
theorem dX13_frontOf_21 : decode cX13_frontOf 21 = .ok (.iload_n 1, 1) := by decide +kernel
theorem dX13_frontOf_22 : decode cX13_frontOf 22 = .ok (.if_icmp .ne 47, 3) := by decide +kernel
theorem dX13_frontOf_25 : decode cX13_frontOf 25 = .ok (.aload_n 0, 1) := by decide +kernel
theorem dX13_frontOf_26 : decode cX13_frontOf 26 = .ok (.iload 4, 2) := by decide +kernel
theorem dX13_frontOf_28 : decode cX13_frontOf 28 = .ok (.invokevirtual 478, 3) := by decide +kernel
theorem dX13_frontOf_31 : decode cX13_frontOf 31 = .ok (.ifCond .eq 38, 3) := by decide +kernel
theorem dX13_frontOf_34 : decode cX13_frontOf 34 = .ok (.aload_n 0, 1) := by decide +kernel
theorem dX13_frontOf_35 : decode cX13_frontOf 35 = .ok (.getfield 221, 3) := by decide +kernel
theorem dX13_frontOf_38 : decode cX13_frontOf 38 = .ok (.iload 4, 2) := by decide +kernel
theorem dX13_frontOf_40 : decode cX13_frontOf 40 = .ok (.iaload, 1) := by decide +kernel
theorem dX13_frontOf_41 : decode cX13_frontOf 41 = .ok (.iload_n 2, 1) := by decide +kernel
theorem dX13_frontOf_42 : decode cX13_frontOf 42 = .ok (.if_icmp .le 27, 3) := by decide +kernel
theorem dX13_frontOf_45 : decode cX13_frontOf 45 = .ok (.iload_n 3, 1) := by decide +kernel
theorem dX13_frontOf_46 : decode cX13_frontOf 46 = .ok (.iconst (-1), 1) := by decide +kernel
theorem dX13_frontOf_47 : decode cX13_frontOf 47 = .ok (.if_icmp .eq 19, 3) := by decide +kernel
theorem dX13_frontOf_50 : decode cX13_frontOf 50 = .ok (.aload_n 0, 1) := by decide +kernel
theorem dX13_frontOf_51 : decode cX13_frontOf 51 = .ok (.getfield 221, 3) := by decide +kernel
theorem dX13_frontOf_54 : decode cX13_frontOf 54 = .ok (.iload 4, 2) := by decide +kernel
theorem dX13_frontOf_56 : decode cX13_frontOf 56 = .ok (.iaload, 1) := by decide +kernel
theorem dX13_frontOf_57 : decode cX13_frontOf 57 = .ok (.aload_n 0, 1) := by decide +kernel
theorem dX13_frontOf_58 : decode cX13_frontOf 58 = .ok (.getfield 221, 3) := by decide +kernel
theorem dX13_frontOf_61 : decode cX13_frontOf 61 = .ok (.iload_n 3, 1) := by decide +kernel
theorem dX13_frontOf_62 : decode cX13_frontOf 62 = .ok (.iaload, 1) := by decide +kernel
theorem dX13_frontOf_63 : decode cX13_frontOf 63 = .ok (.if_icmp .ge 6, 3) := by decide +kernel
theorem dX13_frontOf_66 : decode cX13_frontOf 66 = .ok (.iload 4, 2) := by decide +kernel
theorem dX13_frontOf_68 : decode cX13_frontOf 68 = .ok (.istore_n 3, 1) := by decide +kernel
theorem dX13_frontOf_69 : decode cX13_frontOf 69 = .ok (.iinc 4 1, 3) := by decide +kernel
theorem dX13_frontOf_72 : decode cX13_frontOf 72 = .ok (.goto (-67), 3) := by decide +kernel
theorem dX13_frontOf_75 : decode cX13_frontOf 75 = .ok (.iload_n 3, 1) := by decide +kernel
theorem dX13_frontOf_76 : decode cX13_frontOf 76 = .ok (.ireturn, 1) := by decide +kernel
noncomputable def tX13_frontOf_38 (j4 : qT (Int32 × qM)) : qT (Int32 × qM) :=
  oInc 4 (1 : Int32) (j4)
noncomputable def wX13_frontOf_38 (k : Int32 → Int32 → Int32 → Int32 → qM → Option (Int32 × qM)) : qT (Int32 × qM) := fun lo st m => match lo, st with
  | [some (.ref 98), some (.int a1), some (.int a2), some (.int a3), some (.int a4)], [] => k a1 a2 a3 a4 m
  | _, _ => none
noncomputable def wX13_frontOf_4 (k : Int32 → Int32 → Int32 → Int32 → qM → Option (Int32 × qM)) : qT (Int32 × qM) := fun lo st m => match lo, st with
  | [some (.ref 98), some (.int a1), some (.int a2), some (.int a3), some (.int a4)], [] => k a1 a2 a3 a4 m
  | _, _ => none
set_option maxRecDepth 20000 in
theorem sX13_frontOf_38 {C : qCx} {w : qWp} (h : qOk C w RX13 cX13_frontOf 5 1 155 155) (hm : qMt C (some .int)) (hx : qNx C) {j4 : qT (Int32 × qM)} (k4 : qSnd C w 5 155 (qQf C w 155 155 jI) qfin 155 5 j4) : qSnd C w 5 155 (qQf C w 155 155 jI) qfin 155 69 (tX13_frontOf_38 j4) :=
  cInc (pc := 69) h dX13_frontOf_69 rfl (jGo (pc := 72) h dX13_frontOf_72 rfl (k4))
set_option maxRecDepth 20000 in
theorem lX13_frontOf_38 (k4 : Int32 → Int32 → Int32 → Int32 → qM → Option (Int32 × qM)) (a1 : Int32) (a2 : Int32) (a3 : Int32) (a4 : Int32) (m : qM) : tX13_frontOf_38 (wX13_frontOf_4 k4) [some (.ref 98), some (.int a1), some (.int a2), some (.int a3), some (.int a4)] [] m = fX13_frontOf_38 k4 a1 a2 a3 a4 m := rfl
theorem bX13_frontOf_38 {C : qCx} {w : qWp} (h : qOk C w RX13 cX13_frontOf 5 1 155 155) (hm : qMt C (some .int)) (hx : qNx C) {k4 : Int32 → Int32 → Int32 → Int32 → qM → Option (Int32 × qM)} (h4 : qSnd C w 5 155 (qQf C w 155 155 jI) qfin 155 5 (wX13_frontOf_4 k4)) : qSnd C w 5 155 (qQf C w 155 155 jI) qfin 155 69 (wX13_frontOf_38 (fX13_frontOf_38 k4)) :=
  qSnd_of (fun lo st m x hr0 => by
    unfold wX13_frontOf_38 at hr0
    split at hr0
    · exact ⟨_, (qsub_e (qsub_e (qsub_e (qsub_e (qsub_e qsub_nil))))), (lX13_frontOf_38 _ _ _ _ _ _).trans hr0⟩
    · cases hr0) (sX13_frontOf_38 h hm hx h4)
noncomputable def tX13_frontOf_36 (j38 : qT (Int32 × qM)) : qT (Int32 × qM) :=
  oLi 4 (oSi 3 (j38))
noncomputable def wX13_frontOf_36 (k : Int32 → Int32 → Int32 → qM → Option (Int32 × qM)) : qT (Int32 × qM) := fun lo st m => match lo, st with
  | [some (.ref 98), some (.int a1), some (.int a2), _, some (.int a4)], [] => k a1 a2 a4 m
  | _, _ => none
set_option maxRecDepth 20000 in
theorem sX13_frontOf_36 {C : qCx} {w : qWp} (h : qOk C w RX13 cX13_frontOf 5 1 155 155) (hm : qMt C (some .int)) (hx : qNx C) {j38 : qT (Int32 × qM)} (k38 : qSnd C w 5 155 (qQf C w 155 155 jI) qfin 155 69 j38) : qSnd C w 5 155 (qQf C w 155 155 jI) qfin 155 66 (tX13_frontOf_36 j38) :=
  cLI (pc := 66) h dX13_frontOf_66 (cSi (pc := 68) h dX13_frontOf_68 rfl (k38))
set_option maxRecDepth 20000 in
theorem lX13_frontOf_36 (k4 : Int32 → Int32 → Int32 → Int32 → qM → Option (Int32 × qM)) (a1 : Int32) (a2 : Int32) (a4 : Int32) (m : qM) : tX13_frontOf_36 (wX13_frontOf_38 (fX13_frontOf_38 k4)) [some (.ref 98), some (.int a1), some (.int a2), none, some (.int a4)] [] m = fX13_frontOf_36 k4 a1 a2 a4 m := rfl
theorem bX13_frontOf_36 {C : qCx} {w : qWp} (h : qOk C w RX13 cX13_frontOf 5 1 155 155) (hm : qMt C (some .int)) (hx : qNx C) {k4 : Int32 → Int32 → Int32 → Int32 → qM → Option (Int32 × qM)} (h4 : qSnd C w 5 155 (qQf C w 155 155 jI) qfin 155 5 (wX13_frontOf_4 k4)) : qSnd C w 5 155 (qQf C w 155 155 jI) qfin 155 66 (wX13_frontOf_36 (fX13_frontOf_36 k4)) :=
  qSnd_of (fun lo st m x hr0 => by
    unfold wX13_frontOf_36 at hr0
    split at hr0
    · exact ⟨_, (qsub_e (qsub_e (qsub_e (qsub_n (qsub_e qsub_nil))))), (lX13_frontOf_36 _ _ _ _ _).trans hr0⟩
    · cases hr0) (sX13_frontOf_36 h hm hx (bX13_frontOf_38 h hm hx h4))
noncomputable def tX13_frontOf_4 (j38 : qT (Int32 × qM)) (j36 : qT (Int32 × qM)) : qT (Int32 × qM) :=
  oLi 4 (oLa 0 (oGi 98 32 (oCGe (oLi 3 (eI)) (oLa 0 (oGf 98 35 124 (oLi 4 (oAi 124 40 (oLi 1 (oCEq (oLa 0 (oLi 4 (oCi GX13_isOpen 2 (oEq (j38) (oLa 0 (oGf 98 36 125 (oLi 4 (oAi 125 40 (oLi 2 (oCLe (j38) (oLi 3 (oC (.int (-1 : Int32)) (oCEq (j36) (oLa 0 (oGf 98 36 125 (oLi 4 (oAi 125 40 (oLa 0 (oGf 98 36 125 (oLi 3 (oAi 125 40 (oCGe (j38) (j36))))))))))))))))))))))) (j38))))))))))
set_option maxRecDepth 20000 in
theorem sX13_frontOf_4 {C : qCx} {w : qWp} (h : qOk C w RX13 cX13_frontOf 5 1 155 155) (hm : qMt C (some .int)) (hx : qNx C) {j38 : qT (Int32 × qM)} {j36 : qT (Int32 × qM)} (k38 : qSnd C w 5 155 (qQf C w 155 155 jI) qfin 155 69 j38) (k36 : qSnd C w 5 155 (qQf C w 155 155 jI) qfin 155 66 j36) : qSnd C w 5 155 (qQf C w 155 155 jI) qfin 155 5 (tX13_frontOf_4 j38 j36) :=
  cLI (pc := 5) h dX13_frontOf_5 (cLa (pc := 7) h dX13_frontOf_7 rfl (gGi (pc := 8) h dX13_frontOf_8 ff_X13_313_98 (Nat.le_of_ble_eq_true rfl) (Nat.le_of_ble_eq_true rfl) (jCGe (pc := 11) h dX13_frontOf_11 rfl (cLi (pc := 75) h dX13_frontOf_75 rfl (zI (pc := 76) h hm (Nat.le_refl _) dX13_frontOf_76)) (cLa (pc := 14) h dX13_frontOf_14 rfl (gGf (pc := 15) h dX13_frontOf_15 ff_X13_218_98 (Nat.le_of_ble_eq_true rfl) (Nat.le_of_ble_eq_true rfl) rfl (cLI (pc := 18) h dX13_frontOf_18 (rAi (pc := 20) h dX13_frontOf_20 rfl (Nat.le_of_ble_eq_true rfl) (Nat.le_of_ble_eq_true rfl) (cLi (pc := 21) h dX13_frontOf_21 rfl (jCNe (pc := 22) h dX13_frontOf_22 rfl (k38) (cLa (pc := 25) h dX13_frontOf_25 rfl (cLI (pc := 26) h dX13_frontOf_26 (kCi (pc := 28) h (kd_X13_478 h dX13_frontOf_28) spX13_isOpen (by decide) (by decide) (by decide) (by decide) (jEq (pc := 31) h dX13_frontOf_31 rfl (k38) (cLa (pc := 34) h dX13_frontOf_34 rfl (gGf (pc := 35) h dX13_frontOf_35 ff_X13_221_98 (Nat.le_of_ble_eq_true rfl) (Nat.le_of_ble_eq_true rfl) rfl (cLI (pc := 38) h dX13_frontOf_38 (rAi (pc := 40) h dX13_frontOf_40 rfl (Nat.le_of_ble_eq_true rfl) (Nat.le_of_ble_eq_true rfl) (cLi (pc := 41) h dX13_frontOf_41 rfl (jCLe (pc := 42) h dX13_frontOf_42 rfl (k38) (cLi (pc := 45) h dX13_frontOf_45 rfl (cC (pc := 46) h dX13_frontOf_46 rfl (jCEq (pc := 47) h dX13_frontOf_47 rfl (k36) (cLa (pc := 50) h dX13_frontOf_50 rfl (gGf (pc := 51) h dX13_frontOf_51 ff_X13_221_98 (Nat.le_of_ble_eq_true rfl) (Nat.le_of_ble_eq_true rfl) rfl (cLI (pc := 54) h dX13_frontOf_54 (rAi (pc := 56) h dX13_frontOf_56 rfl (Nat.le_of_ble_eq_true rfl) (Nat.le_of_ble_eq_true rfl) (cLa (pc := 57) h dX13_frontOf_57 rfl (gGf (pc := 58) h dX13_frontOf_58 ff_X13_221_98 (Nat.le_of_ble_eq_true rfl) (Nat.le_of_ble_eq_true rfl) rfl (cLi (pc := 61) h dX13_frontOf_61 rfl (rAi (pc := 62) h dX13_frontOf_62 rfl (Nat.le_of_ble_eq_true rfl) (Nat.le_of_ble_eq_true rfl) (jCGe (pc := 63) h dX13_frontOf_63 rfl (k38) (k36))))))))))))))))))))))))))))))))
set_option maxRecDepth 20000 in
theorem lX13_frontOf_4 (n : Nat) (a1 : Int32) (a2 : Int32) (a3 : Int32) (a4 : Int32) (m : qM) : tX13_frontOf_4 (wX13_frontOf_38 (fX13_frontOf_38 (fX13_frontOf_4 n))) (wX13_frontOf_36 (fX13_frontOf_36 (fX13_frontOf_4 n))) [some (.ref 98), some (.int a1), some (.int a2), some (.int a3), some (.int a4)] [] m = fX13_frontOf_4 (n + 1) a1 a2 a3 a4 m := rfl
theorem bX13_frontOf_4 {C : qCx} {w : qWp} (h : qOk C w RX13 cX13_frontOf 5 1 155 155) (hm : qMt C (some .int)) (hx : qNx C) : ∀ n : Nat, qSnd C w 5 155 (qQf C w 155 155 jI) qfin 155 5 (wX13_frontOf_4 (fX13_frontOf_4 n))
  | 0 => qSnd_of0 (fun lo st m x hr0 => by
    unfold wX13_frontOf_4 at hr0
    split at hr0
    · cases hr0
    · cases hr0)
  | n + 1 => by
    have ih := bX13_frontOf_4 h hm hx n
    exact qSnd_of (fun lo st m x hr0 => by
    unfold wX13_frontOf_4 at hr0
    split at hr0
    · exact ⟨_, (qsub_e (qsub_e (qsub_e (qsub_e (qsub_e qsub_nil))))), (lX13_frontOf_4 n _ _ _ _ _).trans hr0⟩
    · cases hr0) (sX13_frontOf_4 h hm hx (bX13_frontOf_38 h hm hx ih) (bX13_frontOf_36 h hm hx ih))
noncomputable def tX13_frontOf_0 (j4 : qT (Int32 × qM)) : qT (Int32 × qM) :=
  oC (.int (-1 : Int32)) (oSi 3 (oC (.int (0 : Int32)) (oSi 4 (j4))))
set_option maxRecDepth 20000 in
theorem sX13_frontOf_0 {C : qCx} {w : qWp} (h : qOk C w RX13 cX13_frontOf 5 1 155 155) (hm : qMt C (some .int)) (hx : qNx C) {j4 : qT (Int32 × qM)} (k4 : qSnd C w 5 155 (qQf C w 155 155 jI) qfin 155 5 j4) : qSnd C w 5 155 (qQf C w 155 155 jI) qfin 155 0 (tX13_frontOf_0 j4) :=
  cC (pc := 0) h dX13_frontOf_0 rfl (cSi (pc := 1) h dX13_frontOf_1 rfl (cC (pc := 2) h dX13_frontOf_2 rfl (cSI (pc := 3) h dX13_frontOf_3 (k4))))
set_option maxRecDepth 20000 in
theorem lX13_frontOf_0 (a1 : Int32) (a2 : Int32) (m : qM) : tX13_frontOf_0 (wX13_frontOf_4 (fX13_frontOf_4 FU)) [some (.ref 98), some (.int a1), some (.int a2), none, none] [] m = fX13_frontOf_0 a1 a2 m := rfl
noncomputable def GX13_frontOf : qG Int32 := fun av m => match av with
  | [.ref 98, .int a1, .int a2] => fX13_frontOf a1 a2 m
  | _ => none
theorem spX13_frontOf : qSpI yX13_frontOf (.code yX13_frontOf cX13_frontOf 5 (some .int)) 1 qfin 155 155 1 GX13_frontOf := by
  intro av m x m' hG
  unfold GX13_frontOf at hG
  split at hG
  · rename_i a1 a2
    rw [fX13_frontOf_d] at hG
    exact ⟨qmeet (J := jI) (r := (x, m')) (av := [.ref 98, .int a1, .int a2]) (by decide +kernel) (Nat.le_of_ble_eq_true rfl) (fun C w h hm hx hn => sX13_frontOf_0 h hm hx (bX13_frontOf_4 h hm hx FU)) ((lX13_frontOf_0 _ _ _).trans hG) (Nat.le_of_ble_eq_true rfl), Or.inl ⟨98, _, 13, _, _, rfl, by decide, rfl, qCk_13, rfl⟩⟩
  · cases hG
theorem dX13_minuteOf_0 : decode cX13_minuteOf 0 = .ok (.aload_n 0, 1) := by decide +kernel
theorem dX13_minuteOf_1 : decode cX13_minuteOf 1 = .ok (.getfield 174, 3) := by decide +kernel
theorem dX13_minuteOf_4 : decode cX13_minuteOf 4 = .ok (.iconst 0, 1) := by decide +kernel
theorem dX13_minuteOf_5 : decode cX13_minuteOf 5 = .ok (.iaload, 1) := by decide +kernel
theorem dX13_minuteOf_6 : decode cX13_minuteOf 6 = .ok (.aload_n 0, 1) := by decide +kernel
theorem dX13_minuteOf_7 : decode cX13_minuteOf 7 = .ok (.getfield 221, 3) := by decide +kernel
theorem dX13_minuteOf_10 : decode cX13_minuteOf 10 = .ok (.iload_n 1, 1) := by decide +kernel
theorem dX13_minuteOf_11 : decode cX13_minuteOf 11 = .ok (.iaload, 1) := by decide +kernel
theorem dX13_minuteOf_12 : decode cX13_minuteOf 12 = .ok (.imul, 1) := by decide +kernel
theorem dX13_minuteOf_13 : decode cX13_minuteOf 13 = .ok (.ireturn, 1) := by decide +kernel
noncomputable def tX13_minuteOf_0 : qT (Int32 × qM) :=
  oLa 0 (oGf 98 0 99 (oC (.int (0 : Int32)) (oAi 99 6 (oLa 0 (oGf 98 36 125 (oLi 1 (oAi 125 40 (o2 (· * ·) (eI)))))))))
set_option maxRecDepth 20000 in
theorem sX13_minuteOf_0 {C : qCx} {w : qWp} (h : qOk C w RX13 cX13_minuteOf 2 0 155 155) (hm : qMt C (some .int)) (hx : qNx C) : qSnd C w 2 155 (qQf C w 155 155 jI) qfin 155 0 (tX13_minuteOf_0) :=
  cLa (pc := 0) h dX13_minuteOf_0 rfl (gGf (pc := 1) h dX13_minuteOf_1 ff_X13_174_98 (Nat.le_of_ble_eq_true rfl) (Nat.le_of_ble_eq_true rfl) rfl (cC (pc := 4) h dX13_minuteOf_4 rfl (rAi (pc := 5) h dX13_minuteOf_5 rfl (Nat.le_of_ble_eq_true rfl) (Nat.le_of_ble_eq_true rfl) (cLa (pc := 6) h dX13_minuteOf_6 rfl (gGf (pc := 7) h dX13_minuteOf_7 ff_X13_221_98 (Nat.le_of_ble_eq_true rfl) (Nat.le_of_ble_eq_true rfl) rfl (cLi (pc := 10) h dX13_minuteOf_10 rfl (rAi (pc := 11) h dX13_minuteOf_11 rfl (Nat.le_of_ble_eq_true rfl) (Nat.le_of_ble_eq_true rfl) (aMul (pc := 12) h dX13_minuteOf_12 (zI (pc := 13) h hm (Nat.le_refl _) dX13_minuteOf_13)))))))))
set_option maxRecDepth 20000 in
theorem lX13_minuteOf_0 (a1 : Int32) (m : qM) : tX13_minuteOf_0 [some (.ref 98), some (.int a1)] [] m = fX13_minuteOf_0 a1 m := rfl
noncomputable def GX13_minuteOf : qG Int32 := fun av m => match av with
  | [.ref 98, .int a1] => fX13_minuteOf a1 m
  | _ => none
theorem spX13_minuteOf : qSpI yX13_minuteOf (.code yX13_minuteOf cX13_minuteOf 2 (some .int)) 0 qfin 155 155 1 GX13_minuteOf := by
  intro av m x m' hG
  unfold GX13_minuteOf at hG
  split at hG
  · rename_i a1
    rw [fX13_minuteOf_d] at hG
    exact ⟨qmeet (J := jI) (r := (x, m')) (av := [.ref 98, .int a1]) (by decide +kernel) (Nat.le_of_ble_eq_true rfl) (fun C w h hm hx hn => sX13_minuteOf_0 h hm hx) ((lX13_minuteOf_0 _ _).trans hG) (Nat.le_of_ble_eq_true rfl), Or.inl ⟨98, _, 13, _, _, rfl, by decide, rfl, qCk_13, rfl⟩⟩
  · cases hG
theorem mf_X13_280 : Jvm.Cond.fieldLink RX13 280 (qTb 13 64).1 (qTb 13 64).2.1 (qTb 13 64).2.2.1 ∈ qTw := qm7 (List.mem_of_getElem? (i := 42) (by decide +kernel)) (by decide +kernel)
theorem ff_X13_280_98 : qFd RX13 280 98 13 64 3 := ⟨mf_X13_280, rfl, by decide, rfl⟩
theorem mf_X13_283 : Jvm.Cond.fieldLink RX13 283 (qTb 13 65).1 (qTb 13 65).2.1 (qTb 13 65).2.2.1 ∈ qTw := qm7 (List.mem_of_getElem? (i := 43) (by decide +kernel)) (by decide +kernel)
theorem ff_X13_283_98 : qFd RX13 283 98 13 65 3 := ⟨mf_X13_283, rfl, by decide, rfl⟩
theorem mf_X13_286 : Jvm.Cond.fieldLink RX13 286 (qTb 13 66).1 (qTb 13 66).2.1 (qTb 13 66).2.2.1 ∈ qTw := qm7 (List.mem_of_getElem? (i := 44) (by decide +kernel)) (by decide +kernel)
theorem ff_X13_286_98 : qFd RX13 286 98 13 66 3 := ⟨mf_X13_286, rfl, by decide, rfl⟩
theorem dX13_isHere_0 : decode cX13_isHere 0 = .ok (.aload_n 0, 1) := by decide +kernel
theorem dX13_isHere_1 : decode cX13_isHere 1 = .ok (.getfield 215, 3) := by decide +kernel
theorem dX13_isHere_4 : decode cX13_isHere 4 = .ok (.iload_n 1, 1) := by decide +kernel
theorem dX13_isHere_5 : decode cX13_isHere 5 = .ok (.iaload, 1) := by decide +kernel
theorem dX13_isHere_6 : decode cX13_isHere 6 = .ok (.istore_n 3, 1) := by decide +kernel
theorem dX13_isHere_7 : decode cX13_isHere 7 = .ok (.aload_n 0, 1) := by decide +kernel
theorem dX13_isHere_8 : decode cX13_isHere 8 = .ok (.getfield 289, 3) := by decide +kernel
theorem dX13_isHere_11 : decode cX13_isHere 11 = .ok (.iload_n 1, 1) := by decide +kernel
theorem dX13_isHere_12 : decode cX13_isHere 12 = .ok (.baload, 1) := by decide +kernel
theorem dX13_isHere_13 : decode cX13_isHere 13 = .ok (.ifCond .ne 23, 3) := by decide +kernel
theorem dX13_isHere_16 : decode cX13_isHere 16 = .ok (.iload_n 2, 1) := by decide +kernel
theorem dX13_isHere_17 : decode cX13_isHere 17 = .ok (.aload_n 0, 1) := by decide +kernel
theorem dX13_isHere_18 : decode cX13_isHere 18 = .ok (.getfield 265, 3) := by decide +kernel
theorem dX13_isHere_21 : decode cX13_isHere 21 = .ok (.iload_n 3, 1) := by decide +kernel
theorem dX13_isHere_22 : decode cX13_isHere 22 = .ok (.iaload, 1) := by decide +kernel
theorem dX13_isHere_23 : decode cX13_isHere 23 = .ok (.if_icmp .lt 13, 3) := by decide +kernel
theorem dX13_isHere_26 : decode cX13_isHere 26 = .ok (.iload_n 2, 1) := by decide +kernel
theorem dX13_isHere_27 : decode cX13_isHere 27 = .ok (.aload_n 0, 1) := by decide +kernel
theorem dX13_isHere_28 : decode cX13_isHere 28 = .ok (.getfield 280, 3) := by decide +kernel
theorem dX13_isHere_31 : decode cX13_isHere 31 = .ok (.iload_n 3, 1) := by decide +kernel
theorem dX13_isHere_32 : decode cX13_isHere 32 = .ok (.iaload, 1) := by decide +kernel
theorem dX13_isHere_33 : decode cX13_isHere 33 = .ok (.if_icmp .ge 5, 3) := by decide +kernel
theorem dX13_isHere_36 : decode cX13_isHere 36 = .ok (.iconst 0, 1) := by decide +kernel
theorem dX13_isHere_37 : decode cX13_isHere 37 = .ok (.ireturn, 1) := by decide +kernel
theorem dX13_isHere_38 : decode cX13_isHere 38 = .ok (.aload_n 0, 1) := by decide +kernel
theorem dX13_isHere_39 : decode cX13_isHere 39 = .ok (.getfield 283, 3) := by decide +kernel
theorem dX13_isHere_42 : decode cX13_isHere 42 = .ok (.iload_n 3, 1) := by decide +kernel
theorem dX13_isHere_43 : decode cX13_isHere 43 = .ok (.iaload, 1) := by decide +kernel
theorem dX13_isHere_44 : decode cX13_isHere 44 = .ok (.iconst (-1), 1) := by decide +kernel
theorem dX13_isHere_45 : decode cX13_isHere 45 = .ok (.if_icmp .eq 32, 3) := by decide +kernel
theorem dX13_isHere_48 : decode cX13_isHere 48 = .ok (.iload_n 2, 1) := by decide +kernel
theorem dX13_isHere_49 : decode cX13_isHere 49 = .ok (.aload_n 0, 1) := by decide +kernel
theorem dX13_isHere_50 : decode cX13_isHere 50 = .ok (.getfield 280, 3) := by decide +kernel
theorem dX13_isHere_53 : decode cX13_isHere 53 = .ok (.iload_n 3, 1) := by decide +kernel
theorem dX13_isHere_54 : decode cX13_isHere 54 = .ok (.iaload, 1) := by decide +kernel
theorem dX13_isHere_55 : decode cX13_isHere 55 = .ok (.aload_n 0, 1) := by decide +kernel
theorem dX13_isHere_56 : decode cX13_isHere 56 = .ok (.aload_n 0, 1) := by decide +kernel
theorem dX13_isHere_57 : decode cX13_isHere 57 = .ok (.getfield 283, 3) := by decide +kernel
theorem dX13_isHere_60 : decode cX13_isHere 60 = .ok (.iload_n 3, 1) := by decide +kernel
theorem dX13_isHere_61 : decode cX13_isHere 61 = .ok (.iaload, 1) := by decide +kernel
theorem dX13_isHere_62 : decode cX13_isHere 62 = .ok (.aload_n 0, 1) := by decide +kernel
theorem dX13_isHere_63 : decode cX13_isHere 63 = .ok (.getfield 218, 3) := by decide +kernel
theorem dX13_isHere_66 : decode cX13_isHere 66 = .ok (.iload_n 1, 1) := by decide +kernel
theorem dX13_isHere_67 : decode cX13_isHere 67 = .ok (.iaload, 1) := by decide +kernel
theorem dX13_isHere_68 : decode cX13_isHere 68 = .ok (.invokevirtual 366, 3) := by decide +kernel
theorem dX13_isHere_71 : decode cX13_isHere 71 = .ok (.iadd, 1) := by decide +kernel
theorem dX13_isHere_72 : decode cX13_isHere 72 = .ok (.if_icmp .ge 5, 3) := by decide +kernel
theorem dX13_isHere_75 : decode cX13_isHere 75 = .ok (.iconst 0, 1) := by decide +kernel
theorem dX13_isHere_76 : decode cX13_isHere 76 = .ok (.ireturn, 1) := by decide +kernel
theorem dX13_isHere_77 : decode cX13_isHere 77 = .ok (.aload_n 0, 1) := by decide +kernel
theorem dX13_isHere_78 : decode cX13_isHere 78 = .ok (.getfield 200, 3) := by decide +kernel
theorem dX13_isHere_81 : decode cX13_isHere 81 = .ok (.iload_n 3, 1) := by decide +kernel
theorem dX13_isHere_82 : decode cX13_isHere 82 = .ok (.iaload, 1) := by decide +kernel
theorem dX13_isHere_83 : decode cX13_isHere 83 = .ok (.ifCond .eq 18, 3) := by decide +kernel
theorem dX13_isHere_86 : decode cX13_isHere 86 = .ok (.iload_n 2, 1) := by decide +kernel
theorem dX13_isHere_87 : decode cX13_isHere 87 = .ok (.aload_n 0, 1) := by decide +kernel
theorem dX13_isHere_88 : decode cX13_isHere 88 = .ok (.getfield 286, 3) := by decide +kernel
theorem dX13_isHere_91 : decode cX13_isHere 91 = .ok (.aload_n 0, 1) := by decide +kernel
theorem dX13_isHere_92 : decode cX13_isHere 92 = .ok (.getfield 200, 3) := by decide +kernel
theorem dX13_isHere_95 : decode cX13_isHere 95 = .ok (.iload_n 3, 1) := by decide +kernel
theorem dX13_isHere_96 : decode cX13_isHere 96 = .ok (.iaload, 1) := by decide +kernel
theorem dX13_isHere_97 : decode cX13_isHere 97 = .ok (.iaload, 1) := by decide +kernel
theorem dX13_isHere_98 : decode cX13_isHere 98 = .ok (.if_icmp .lt 7, 3) := by decide +kernel
theorem dX13_isHere_101 : decode cX13_isHere 101 = .ok (.iconst 1, 1) := by decide +kernel
theorem dX13_isHere_102 : decode cX13_isHere 102 = .ok (.goto 4, 3) := by decide +kernel
theorem dX13_isHere_105 : decode cX13_isHere 105 = .ok (.iconst 0, 1) := by decide +kernel
theorem dX13_isHere_106 : decode cX13_isHere 106 = .ok (.ireturn, 1) := by decide +kernel
noncomputable def tX13_isHere_22 : qT (Int32 × qM) :=
  oC (.int (0 : Int32)) (eZ)
noncomputable def wX13_isHere_22 (k : qM → Option (Int32 × qM)) : qT (Int32 × qM) := fun lo st m => match lo, st with
  | [_, _, _, _], [] => k m
  | _, _ => none
set_option maxRecDepth 20000 in
theorem sX13_isHere_22 {C : qCx} {w : qWp} (h : qOk C w RX13 cX13_isHere 4 2 155 155) (hm : qMt C (some .boolean)) (hx : qNx C) : qSnd C w 4 155 (qQf C w 155 155 jI) qfin 155 36 (tX13_isHere_22) :=
  cC (pc := 36) h dX13_isHere_36 rfl (zZ (pc := 37) h hm (Nat.le_refl _) dX13_isHere_37)
set_option maxRecDepth 20000 in
theorem lX13_isHere_22 (m : qM) : tX13_isHere_22 [none, none, none, none] [] m = fX13_isHere_22 m := rfl
theorem bX13_isHere_22 {C : qCx} {w : qWp} (h : qOk C w RX13 cX13_isHere 4 2 155 155) (hm : qMt C (some .boolean)) (hx : qNx C) : qSnd C w 4 155 (qQf C w 155 155 jI) qfin 155 36 (wX13_isHere_22 fX13_isHere_22) :=
  qSnd_of (fun lo st m x hr0 => by
    unfold wX13_isHere_22 at hr0
    split at hr0
    · exact ⟨_, (qsub_n (qsub_n (qsub_n (qsub_n qsub_nil)))), (lX13_isHere_22 _).trans hr0⟩
    · cases hr0) (sX13_isHere_22 h hm hx)
noncomputable def tX13_isHere_66 : qT (Int32 × qM) :=
  eZ
noncomputable def wX13_isHere_66 (k : Int32 → qM → Option (Int32 × qM)) : qT (Int32 × qM) := fun lo st m => match lo, st with
  | [_, _, _, _], [.int s0] => k s0 m
  | _, _ => none
set_option maxRecDepth 20000 in
theorem sX13_isHere_66 {C : qCx} {w : qWp} (h : qOk C w RX13 cX13_isHere 4 2 155 155) (hm : qMt C (some .boolean)) (hx : qNx C) : qSnd C w 4 155 (qQf C w 155 155 jI) qfin 155 106 (tX13_isHere_66) :=
  zZ (pc := 106) h hm (Nat.le_refl _) dX13_isHere_106
set_option maxRecDepth 20000 in
theorem lX13_isHere_66 (s0 : Int32) (m : qM) : tX13_isHere_66 [none, none, none, none] [(.int s0)] m = fX13_isHere_66 s0 m := rfl
theorem bX13_isHere_66 {C : qCx} {w : qWp} (h : qOk C w RX13 cX13_isHere 4 2 155 155) (hm : qMt C (some .boolean)) (hx : qNx C) : qSnd C w 4 155 (qQf C w 155 155 jI) qfin 155 106 (wX13_isHere_66 fX13_isHere_66) :=
  qSnd_of (fun lo st m x hr0 => by
    unfold wX13_isHere_66 at hr0
    split at hr0
    · exact ⟨_, (qsub_n (qsub_n (qsub_n (qsub_n qsub_nil)))), (lX13_isHere_66 _ _).trans hr0⟩
    · cases hr0) (sX13_isHere_66 h hm hx)
noncomputable def tX13_isHere_63 (j66 : qT (Int32 × qM)) : qT (Int32 × qM) :=
  oC (.int (1 : Int32)) (j66)
noncomputable def wX13_isHere_63 (k : qM → Option (Int32 × qM)) : qT (Int32 × qM) := fun lo st m => match lo, st with
  | [_, _, _, _], [] => k m
  | _, _ => none
set_option maxRecDepth 20000 in
theorem sX13_isHere_63 {C : qCx} {w : qWp} (h : qOk C w RX13 cX13_isHere 4 2 155 155) (hm : qMt C (some .boolean)) (hx : qNx C) {j66 : qT (Int32 × qM)} (k66 : qSnd C w 4 155 (qQf C w 155 155 jI) qfin 155 106 j66) : qSnd C w 4 155 (qQf C w 155 155 jI) qfin 155 101 (tX13_isHere_63 j66) :=
  cC (pc := 101) h dX13_isHere_101 rfl (jGo (pc := 102) h dX13_isHere_102 rfl (k66))
set_option maxRecDepth 20000 in
theorem lX13_isHere_63 (m : qM) : tX13_isHere_63 (wX13_isHere_66 fX13_isHere_66) [none, none, none, none] [] m = fX13_isHere_63 m := rfl
theorem bX13_isHere_63 {C : qCx} {w : qWp} (h : qOk C w RX13 cX13_isHere 4 2 155 155) (hm : qMt C (some .boolean)) (hx : qNx C) : qSnd C w 4 155 (qQf C w 155 155 jI) qfin 155 101 (wX13_isHere_63 fX13_isHere_63) :=
  qSnd_of (fun lo st m x hr0 => by
    unfold wX13_isHere_63 at hr0
    split at hr0
    · exact ⟨_, (qsub_n (qsub_n (qsub_n (qsub_n qsub_nil)))), (lX13_isHere_63 _).trans hr0⟩
    · cases hr0) (sX13_isHere_63 h hm hx (bX13_isHere_66 h hm hx))
noncomputable def tX13_isHere_49 (j63 : qT (Int32 × qM)) (j66 : qT (Int32 × qM)) : qT (Int32 × qM) :=
  oLa 0 (oGf 98 27 118 (oLi 3 (oAi 118 15 (oEq (j63) (oLi 2 (oLa 0 (oGf 98 66 147 (oLa 0 (oGf 98 27 118 (oLi 3 (oAi 118 15 (oAi 147 4 (oCLt (oC (.int (0 : Int32)) (j66)) (j63))))))))))))))
noncomputable def wX13_isHere_49 (k : Int32 → Int32 → qM → Option (Int32 × qM)) : qT (Int32 × qM) := fun lo st m => match lo, st with
  | [some (.ref 98), _, some (.int a2), some (.int a3)], [] => k a2 a3 m
  | _, _ => none
set_option maxRecDepth 20000 in
theorem sX13_isHere_49 {C : qCx} {w : qWp} (h : qOk C w RX13 cX13_isHere 4 2 155 155) (hm : qMt C (some .boolean)) (hx : qNx C) {j63 : qT (Int32 × qM)} {j66 : qT (Int32 × qM)} (k63 : qSnd C w 4 155 (qQf C w 155 155 jI) qfin 155 101 j63) (k66 : qSnd C w 4 155 (qQf C w 155 155 jI) qfin 155 106 j66) : qSnd C w 4 155 (qQf C w 155 155 jI) qfin 155 77 (tX13_isHere_49 j63 j66) :=
  cLa (pc := 77) h dX13_isHere_77 rfl (gGf (pc := 78) h dX13_isHere_78 ff_X13_200_98 (Nat.le_of_ble_eq_true rfl) (Nat.le_of_ble_eq_true rfl) rfl (cLi (pc := 81) h dX13_isHere_81 rfl (rAi (pc := 82) h dX13_isHere_82 rfl (Nat.le_of_ble_eq_true rfl) (Nat.le_of_ble_eq_true rfl) (jEq (pc := 83) h dX13_isHere_83 rfl (k63) (cLi (pc := 86) h dX13_isHere_86 rfl (cLa (pc := 87) h dX13_isHere_87 rfl (gGf (pc := 88) h dX13_isHere_88 ff_X13_286_98 (Nat.le_of_ble_eq_true rfl) (Nat.le_of_ble_eq_true rfl) rfl (cLa (pc := 91) h dX13_isHere_91 rfl (gGf (pc := 92) h dX13_isHere_92 ff_X13_200_98 (Nat.le_of_ble_eq_true rfl) (Nat.le_of_ble_eq_true rfl) rfl (cLi (pc := 95) h dX13_isHere_95 rfl (rAi (pc := 96) h dX13_isHere_96 rfl (Nat.le_of_ble_eq_true rfl) (Nat.le_of_ble_eq_true rfl) (rAi (pc := 97) h dX13_isHere_97 rfl (Nat.le_of_ble_eq_true rfl) (Nat.le_of_ble_eq_true rfl) (jCLt (pc := 98) h dX13_isHere_98 rfl (cC (pc := 105) h dX13_isHere_105 rfl (k66)) (k63))))))))))))))
set_option maxRecDepth 20000 in
theorem lX13_isHere_49 (a2 : Int32) (a3 : Int32) (m : qM) : tX13_isHere_49 (wX13_isHere_63 fX13_isHere_63) (wX13_isHere_66 fX13_isHere_66) [some (.ref 98), none, some (.int a2), some (.int a3)] [] m = fX13_isHere_49 a2 a3 m := rfl
theorem bX13_isHere_49 {C : qCx} {w : qWp} (h : qOk C w RX13 cX13_isHere 4 2 155 155) (hm : qMt C (some .boolean)) (hx : qNx C) : qSnd C w 4 155 (qQf C w 155 155 jI) qfin 155 77 (wX13_isHere_49 fX13_isHere_49) :=
  qSnd_of (fun lo st m x hr0 => by
    unfold wX13_isHere_49 at hr0
    split at hr0
    · exact ⟨_, (qsub_e (qsub_n (qsub_e (qsub_e qsub_nil)))), (lX13_isHere_49 _ _ _).trans hr0⟩
    · cases hr0) (sX13_isHere_49 h hm hx (bX13_isHere_63 h hm hx) (bX13_isHere_66 h hm hx))
noncomputable def tX13_isHere_0 (j22 : qT (Int32 × qM)) (j49 : qT (Int32 × qM)) : qT (Int32 × qM) :=
  oLa 0 (oGf 98 34 123 (oLi 1 (oAi 123 40 (oSi 3 (oLa 0 (oGf 98 67 148 (oLi 1 (oAi 148 40 (oEq (oLi 2 (oLa 0 (oGf 98 59 140 (oLi 3 (oAi 140 15 (oCLt (j22) (oLi 2 (oLa 0 (oGf 98 64 145 (oLi 3 (oAi 145 15 (oCGe (oLa 0 (oGf 98 65 146 (oLi 3 (oAi 146 15 (oC (.int (-1 : Int32)) (oCEq (j49) (oLi 2 (oLa 0 (oGf 98 64 145 (oLi 3 (oAi 145 15 (oLa 0 (oLa 0 (oGf 98 65 146 (oLi 3 (oAi 146 15 (oLa 0 (oGf 98 35 124 (oLi 1 (oAi 124 40 (oCi GX13_walkOf 3 (o2 (· + ·) (oCGe (j49) (oC (.int (0 : Int32)) (eZ))))))))))))))))))))))))) (j22))))))))))))) (j22))))))))))
set_option maxRecDepth 20000 in
theorem sX13_isHere_0 {C : qCx} {w : qWp} (h : qOk C w RX13 cX13_isHere 4 2 155 155) (hm : qMt C (some .boolean)) (hx : qNx C) {j22 : qT (Int32 × qM)} {j49 : qT (Int32 × qM)} (k22 : qSnd C w 4 155 (qQf C w 155 155 jI) qfin 155 36 j22) (k49 : qSnd C w 4 155 (qQf C w 155 155 jI) qfin 155 77 j49) : qSnd C w 4 155 (qQf C w 155 155 jI) qfin 155 0 (tX13_isHere_0 j22 j49) :=
  cLa (pc := 0) h dX13_isHere_0 rfl (gGf (pc := 1) h dX13_isHere_1 ff_X13_215_98 (Nat.le_of_ble_eq_true rfl) (Nat.le_of_ble_eq_true rfl) rfl (cLi (pc := 4) h dX13_isHere_4 rfl (rAi (pc := 5) h dX13_isHere_5 rfl (Nat.le_of_ble_eq_true rfl) (Nat.le_of_ble_eq_true rfl) (cSi (pc := 6) h dX13_isHere_6 rfl (cLa (pc := 7) h dX13_isHere_7 rfl (gGf (pc := 8) h dX13_isHere_8 ff_X13_289_98 (Nat.le_of_ble_eq_true rfl) (Nat.le_of_ble_eq_true rfl) rfl (cLi (pc := 11) h dX13_isHere_11 rfl (rAz (pc := 12) h dX13_isHere_12 rfl (Nat.le_of_ble_eq_true rfl) (Nat.le_of_ble_eq_true rfl) (jNe (pc := 13) h dX13_isHere_13 rfl (k22) (cLi (pc := 16) h dX13_isHere_16 rfl (cLa (pc := 17) h dX13_isHere_17 rfl (gGf (pc := 18) h dX13_isHere_18 ff_X13_265_98 (Nat.le_of_ble_eq_true rfl) (Nat.le_of_ble_eq_true rfl) rfl (cLi (pc := 21) h dX13_isHere_21 rfl (rAi (pc := 22) h dX13_isHere_22 rfl (Nat.le_of_ble_eq_true rfl) (Nat.le_of_ble_eq_true rfl) (jCLt (pc := 23) h dX13_isHere_23 rfl (k22) (cLi (pc := 26) h dX13_isHere_26 rfl (cLa (pc := 27) h dX13_isHere_27 rfl (gGf (pc := 28) h dX13_isHere_28 ff_X13_280_98 (Nat.le_of_ble_eq_true rfl) (Nat.le_of_ble_eq_true rfl) rfl (cLi (pc := 31) h dX13_isHere_31 rfl (rAi (pc := 32) h dX13_isHere_32 rfl (Nat.le_of_ble_eq_true rfl) (Nat.le_of_ble_eq_true rfl) (jCGe (pc := 33) h dX13_isHere_33 rfl (cLa (pc := 38) h dX13_isHere_38 rfl (gGf (pc := 39) h dX13_isHere_39 ff_X13_283_98 (Nat.le_of_ble_eq_true rfl) (Nat.le_of_ble_eq_true rfl) rfl (cLi (pc := 42) h dX13_isHere_42 rfl (rAi (pc := 43) h dX13_isHere_43 rfl (Nat.le_of_ble_eq_true rfl) (Nat.le_of_ble_eq_true rfl) (cC (pc := 44) h dX13_isHere_44 rfl (jCEq (pc := 45) h dX13_isHere_45 rfl (k49) (cLi (pc := 48) h dX13_isHere_48 rfl (cLa (pc := 49) h dX13_isHere_49 rfl (gGf (pc := 50) h dX13_isHere_50 ff_X13_280_98 (Nat.le_of_ble_eq_true rfl) (Nat.le_of_ble_eq_true rfl) rfl (cLi (pc := 53) h dX13_isHere_53 rfl (rAi (pc := 54) h dX13_isHere_54 rfl (Nat.le_of_ble_eq_true rfl) (Nat.le_of_ble_eq_true rfl) (cLa (pc := 55) h dX13_isHere_55 rfl (cLa (pc := 56) h dX13_isHere_56 rfl (gGf (pc := 57) h dX13_isHere_57 ff_X13_283_98 (Nat.le_of_ble_eq_true rfl) (Nat.le_of_ble_eq_true rfl) rfl (cLi (pc := 60) h dX13_isHere_60 rfl (rAi (pc := 61) h dX13_isHere_61 rfl (Nat.le_of_ble_eq_true rfl) (Nat.le_of_ble_eq_true rfl) (cLa (pc := 62) h dX13_isHere_62 rfl (gGf (pc := 63) h dX13_isHere_63 ff_X13_218_98 (Nat.le_of_ble_eq_true rfl) (Nat.le_of_ble_eq_true rfl) rfl (cLi (pc := 66) h dX13_isHere_66 rfl (rAi (pc := 67) h dX13_isHere_67 rfl (Nat.le_of_ble_eq_true rfl) (Nat.le_of_ble_eq_true rfl) (kCi (pc := 68) h (kd_X13_366 h dX13_isHere_68) spX13_walkOf (by decide) (by decide) (by decide) (by decide) (aAdd (pc := 71) h dX13_isHere_71 (jCGe (pc := 72) h dX13_isHere_72 rfl (k49) (cC (pc := 75) h dX13_isHere_75 rfl (zZ (pc := 76) h hm (Nat.le_refl _) dX13_isHere_76))))))))))))))))))))))))) (k22))))))))))))))))))))))
set_option maxRecDepth 20000 in
theorem lX13_isHere_0 (a1 : Int32) (a2 : Int32) (m : qM) : tX13_isHere_0 (wX13_isHere_22 fX13_isHere_22) (wX13_isHere_49 fX13_isHere_49) [some (.ref 98), some (.int a1), some (.int a2), none] [] m = fX13_isHere_0 a1 a2 m := rfl
noncomputable def GX13_isHere : qG Int32 := fun av m => match av with
  | [.ref 98, .int a1, .int a2] => fX13_isHere a1 a2 m
  | _ => none
theorem spX13_isHere : qSpI yX13_isHere (.code yX13_isHere cX13_isHere 4 (some .boolean)) 2 qfin 155 155 1 GX13_isHere := by
  intro av m x m' hG
  unfold GX13_isHere at hG
  split at hG
  · rename_i a1 a2
    rw [fX13_isHere_d] at hG
    exact ⟨qmeet (J := jI) (r := (x, m')) (av := [.ref 98, .int a1, .int a2]) (by decide +kernel) (Nat.le_of_ble_eq_true rfl) (fun C w h hm hx hn => sX13_isHere_0 h hm hx (bX13_isHere_22 h hm hx) (bX13_isHere_49 h hm hx)) ((lX13_isHere_0 _ _ _).trans hG) (Nat.le_of_ble_eq_true rfl), Or.inl ⟨98, _, 13, _, _, rfl, by decide, rfl, qCk_13, rfl⟩⟩
  · cases hG
theorem im_X13_minuteOf : Jvm.Cond.instanceMethod yX13_minuteOf ∈ qTw := qm9 (List.mem_of_getElem? (i := 80) (by decide +kernel)) (by decide +kernel)
theorem se_X13_minuteOf : Jvm.Cond.selects yX13_minuteOf.cls yX13_minuteOf yX13_minuteOf ∈ qTw := List.mem_filter.mpr ⟨List.mem_append_left _ (List.mem_of_getElem? (i := 78) (by decide +kernel)), rfl⟩
theorem co_X13_minuteOf : Jvm.Cond.code yX13_minuteOf cX13_minuteOf 2 (some .int) ∈ qTw := qm9 (List.mem_of_getElem? (i := 81) (by decide +kernel)) (by decide +kernel)
theorem yk_X13_minuteOf : qYk yX13_minuteOf 1 := ⟨⟨by decide +kernel, by decide +kernel⟩, by decide +kernel⟩
theorem ml_X13_481 : Jvm.Cond.methodLink RX13 481 yX13_minuteOf ∈ qTw := qm9 (List.mem_of_getElem? (i := 78) (by decide +kernel)) (by decide +kernel)
theorem kd_X13_481 {C : qCx} {w : qWp} {cc : ByteArray} {nL dp n0 n1 pc : Nat} (h : qOk C w RX13 cc nL dp n0 n1) (d : decode cc pc = .ok (.invokevirtual 481, 3)) : qCallOk C w nL dp n0 n1 pc 2 1 yX13_minuteOf (.code yX13_minuteOf cX13_minuteOf 2 (some .int)) := kindV h d ml_X13_481 im_X13_minuteOf se_X13_minuteOf in_ParentEveModel co_X13_minuteOf yk_X13_minuteOf (by decide)
theorem im_X13_isHere : Jvm.Cond.instanceMethod yX13_isHere ∈ qTw := qm9 (List.mem_of_getElem? (i := 92) (by decide +kernel)) (by decide +kernel)
theorem se_X13_isHere : Jvm.Cond.selects yX13_isHere.cls yX13_isHere yX13_isHere ∈ qTw := List.mem_filter.mpr ⟨List.mem_append_left _ (List.mem_of_getElem? (i := 81) (by decide +kernel)), rfl⟩
theorem co_X13_isHere : Jvm.Cond.code yX13_isHere cX13_isHere 4 (some .boolean) ∈ qTw := qm9 (List.mem_of_getElem? (i := 93) (by decide +kernel)) (by decide +kernel)
theorem yk_X13_isHere : qYk yX13_isHere 2 := ⟨⟨by decide +kernel, by decide +kernel⟩, by decide +kernel⟩
theorem ml_X13_484 : Jvm.Cond.methodLink RX13 484 yX13_isHere ∈ qTw := qm9 (List.mem_of_getElem? (i := 90) (by decide +kernel)) (by decide +kernel)
theorem kd_X13_484 {C : qCx} {w : qWp} {cc : ByteArray} {nL dp n0 n1 pc : Nat} (h : qOk C w RX13 cc nL dp n0 n1) (d : decode cc pc = .ok (.invokevirtual 484, 3)) : qCallOk C w nL dp n0 n1 pc 3 1 yX13_isHere (.code yX13_isHere cX13_isHere 4 (some .boolean)) := kindV h d ml_X13_484 im_X13_isHere se_X13_isHere in_ParentEveModel co_X13_isHere yk_X13_isHere (by decide)
theorem dX13_seen_0 : decode cX13_seen 0 = .ok (.iconst 0, 1) := by decide +kernel
theorem dX13_seen_1 : decode cX13_seen 1 = .ok (.istore 4, 2) := by decide +kernel
theorem dX13_seen_3 : decode cX13_seen 3 = .ok (.iload_n 1, 1) := by decide +kernel
theorem dX13_seen_4 : decode cX13_seen 4 = .ok (.tableswitch 206 0 4 #[36, 44, 120, 176, 191], 36) := by decide +kernel
theorem dX13_seen_40 : decode cX13_seen 40 = .ok (.iload_n 3, 1) := by decide +kernel
theorem dX13_seen_41 : decode cX13_seen 41 = .ok (.aload_n 0, 1) := by decide +kernel
theorem dX13_seen_42 : decode cX13_seen 42 = .ok (.iload_n 2, 1) := by decide +kernel
theorem dX13_seen_43 : decode cX13_seen 43 = .ok (.invokevirtual 481, 3) := by decide +kernel
theorem dX13_seen_46 : decode cX13_seen 46 = .ok (.isub, 1) := by decide +kernel
theorem dX13_seen_47 : decode cX13_seen 47 = .ok (.ireturn, 1) := by decide +kernel
theorem dX13_seen_48 : decode cX13_seen 48 = .ok (.iconst 0, 1) := by decide +kernel
theorem dX13_seen_49 : decode cX13_seen 49 = .ok (.istore 5, 2) := by decide +kernel
theorem dX13_seen_51 : decode cX13_seen 51 = .ok (.iload 5, 2) := by decide +kernel
theorem dX13_seen_53 : decode cX13_seen 53 = .ok (.aload_n 0, 1) := by decide +kernel
theorem dX13_seen_54 : decode cX13_seen 54 = .ok (.getfield 313, 3) := by decide +kernel
theorem dX13_seen_57 : decode cX13_seen 57 = .ok (.if_icmp .ge 64, 3) := by decide +kernel
theorem dX13_seen_60 : decode cX13_seen 60 = .ok (.iload 4, 2) := by decide +kernel
theorem dX13_seen_62 : decode cX13_seen 62 = .ok (.aload_n 0, 1) := by decide +kernel
theorem dX13_seen_63 : decode cX13_seen 63 = .ok (.getfield 218, 3) := by decide +kernel
theorem dX13_seen_66 : decode cX13_seen 66 = .ok (.iload 5, 2) := by decide +kernel
theorem dX13_seen_68 : decode cX13_seen 68 = .ok (.iaload, 1) := by decide +kernel
theorem dX13_seen_69 : decode cX13_seen 69 = .ok (.aload_n 0, 1) := by decide +kernel
theorem dX13_seen_70 : decode cX13_seen 70 = .ok (.getfield 218, 3) := by decide +kernel
theorem dX13_seen_73 : decode cX13_seen 73 = .ok (.iload_n 2, 1) := by decide +kernel
theorem dX13_seen_74 : decode cX13_seen 74 = .ok (.iaload, 1) := by decide +kernel
theorem dX13_seen_75 : decode cX13_seen 75 = .ok (.if_icmp .ne 36, 3) := by decide +kernel
theorem dX13_seen_78 : decode cX13_seen 78 = .ok (.aload_n 0, 1) := by decide +kernel
theorem dX13_seen_79 : decode cX13_seen 79 = .ok (.iload 5, 2) := by decide +kernel
theorem dX13_seen_81 : decode cX13_seen 81 = .ok (.invokevirtual 478, 3) := by decide +kernel
theorem dX13_seen_84 : decode cX13_seen 84 = .ok (.ifCond .eq 27, 3) := by decide +kernel
theorem dX13_seen_87 : decode cX13_seen 87 = .ok (.aload_n 0, 1) := by decide +kernel
theorem dX13_seen_88 : decode cX13_seen 88 = .ok (.iload 5, 2) := by decide +kernel
theorem dX13_seen_90 : decode cX13_seen 90 = .ok (.invokevirtual 481, 3) := by decide +kernel
theorem dX13_seen_93 : decode cX13_seen 93 = .ok (.iload_n 3, 1) := by decide +kernel
theorem dX13_seen_94 : decode cX13_seen 94 = .ok (.if_icmp .gt 17, 3) := by decide +kernel
theorem dX13_seen_97 : decode cX13_seen 97 = .ok (.aload_n 0, 1) := by decide +kernel
theorem dX13_seen_98 : decode cX13_seen 98 = .ok (.iload 5, 2) := by decide +kernel
theorem dX13_seen_100 : decode cX13_seen 100 = .ok (.iload_n 3, 1) := by decide +kernel
theorem dX13_seen_101 : decode cX13_seen 101 = .ok (.invokevirtual 484, 3) := by decide +kernel
theorem dX13_seen_104 : decode cX13_seen 104 = .ok (.ifCond .eq 7, 3) := by decide +kernel
theorem dX13_seen_107 : decode cX13_seen 107 = .ok (.iconst 1, 1) := by decide +kernel
theorem dX13_seen_108 : decode cX13_seen 108 = .ok (.goto 4, 3) := by decide +kernel
theorem dX13_seen_111 : decode cX13_seen 111 = .ok (.iconst 0, 1) := by decide +kernel
theorem dX13_seen_112 : decode cX13_seen 112 = .ok (.iadd, 1) := by decide +kernel
theorem dX13_seen_113 : decode cX13_seen 113 = .ok (.istore 4, 2) := by decide +kernel
theorem dX13_seen_115 : decode cX13_seen 115 = .ok (.iinc 5 1, 3) := by decide +kernel
theorem dX13_seen_118 : decode cX13_seen 118 = .ok (.goto (-67), 3) := by decide +kernel
theorem dX13_seen_121 : decode cX13_seen 121 = .ok (.iload 4, 2) := by decide +kernel
theorem dX13_seen_123 : decode cX13_seen 123 = .ok (.ireturn, 1) := by decide +kernel
theorem dX13_seen_124 : decode cX13_seen 124 = .ok (.iconst 0, 1) := by decide +kernel
theorem dX13_seen_125 : decode cX13_seen 125 = .ok (.istore 5, 2) := by decide +kernel
theorem dX13_seen_127 : decode cX13_seen 127 = .ok (.iload 5, 2) := by decide +kernel
theorem dX13_seen_129 : decode cX13_seen 129 = .ok (.aload_n 0, 1) := by decide +kernel
theorem dX13_seen_130 : decode cX13_seen 130 = .ok (.getfield 313, 3) := by decide +kernel
theorem dX13_seen_133 : decode cX13_seen 133 = .ok (.if_icmp .ge 44, 3) := by decide +kernel
theorem dX13_seen_136 : decode cX13_seen 136 = .ok (.iload 4, 2) := by decide +kernel
theorem dX13_seen_138 : decode cX13_seen 138 = .ok (.aload_n 0, 1) := by decide +kernel
theorem dX13_seen_139 : decode cX13_seen 139 = .ok (.getfield 218, 3) := by decide +kernel
theorem dX13_seen_142 : decode cX13_seen 142 = .ok (.iload 5, 2) := by decide +kernel
theorem dX13_seen_144 : decode cX13_seen 144 = .ok (.iaload, 1) := by decide +kernel
theorem dX13_seen_145 : decode cX13_seen 145 = .ok (.aload_n 0, 1) := by decide +kernel
theorem dX13_seen_146 : decode cX13_seen 146 = .ok (.getfield 218, 3) := by decide +kernel
theorem dX13_seen_149 : decode cX13_seen 149 = .ok (.iload_n 2, 1) := by decide +kernel
theorem dX13_seen_150 : decode cX13_seen 150 = .ok (.iaload, 1) := by decide +kernel
theorem dX13_seen_151 : decode cX13_seen 151 = .ok (.if_icmp .ne 16, 3) := by decide +kernel
theorem dX13_seen_154 : decode cX13_seen 154 = .ok (.aload_n 0, 1) := by decide +kernel
theorem dX13_seen_155 : decode cX13_seen 155 = .ok (.iload 5, 2) := by decide +kernel
theorem dX13_seen_157 : decode cX13_seen 157 = .ok (.invokevirtual 478, 3) := by decide +kernel
theorem dX13_seen_160 : decode cX13_seen 160 = .ok (.ifCond .eq 7, 3) := by decide +kernel
theorem dX13_seen_163 : decode cX13_seen 163 = .ok (.iconst 1, 1) := by decide +kernel
theorem dX13_seen_164 : decode cX13_seen 164 = .ok (.goto 4, 3) := by decide +kernel
theorem dX13_seen_167 : decode cX13_seen 167 = .ok (.iconst 0, 1) := by decide +kernel
theorem dX13_seen_168 : decode cX13_seen 168 = .ok (.iadd, 1) := by decide +kernel
theorem dX13_seen_169 : decode cX13_seen 169 = .ok (.istore 4, 2) := by decide +kernel
theorem dX13_seen_171 : decode cX13_seen 171 = .ok (.iinc 5 1, 3) := by decide +kernel
theorem dX13_seen_174 : decode cX13_seen 174 = .ok (.goto (-47), 3) := by decide +kernel
theorem dX13_seen_177 : decode cX13_seen 177 = .ok (.iload 4, 2) := by decide +kernel
theorem dX13_seen_179 : decode cX13_seen 179 = .ok (.ireturn, 1) := by decide +kernel
theorem dX13_seen_180 : decode cX13_seen 180 = .ok (.aload_n 0, 1) := by decide +kernel
theorem dX13_seen_181 : decode cX13_seen 181 = .ok (.getfield 223, 3) := by decide +kernel
theorem dX13_seen_184 : decode cX13_seen 184 = .ok (.iload_n 2, 1) := by decide +kernel
theorem dX13_seen_185 : decode cX13_seen 185 = .ok (.baload, 1) := by decide +kernel
theorem dX13_seen_186 : decode cX13_seen 186 = .ok (.ifCond .eq 7, 3) := by decide +kernel
theorem dX13_seen_189 : decode cX13_seen 189 = .ok (.iconst 1, 1) := by decide +kernel
theorem dX13_seen_190 : decode cX13_seen 190 = .ok (.goto 4, 3) := by decide +kernel
theorem dX13_seen_193 : decode cX13_seen 193 = .ok (.iconst 0, 1) := by decide +kernel
theorem dX13_seen_194 : decode cX13_seen 194 = .ok (.ireturn, 1) := by decide +kernel
theorem dX13_seen_195 : decode cX13_seen 195 = .ok (.aload_n 0, 1) := by decide +kernel
theorem dX13_seen_196 : decode cX13_seen 196 = .ok (.iload_n 2, 1) := by decide +kernel
theorem dX13_seen_197 : decode cX13_seen 197 = .ok (.iload_n 3, 1) := by decide +kernel
theorem dX13_seen_198 : decode cX13_seen 198 = .ok (.invokevirtual 484, 3) := by decide +kernel
theorem dX13_seen_201 : decode cX13_seen 201 = .ok (.ifCond .eq 7, 3) := by decide +kernel
theorem dX13_seen_204 : decode cX13_seen 204 = .ok (.iconst 1, 1) := by decide +kernel
theorem dX13_seen_205 : decode cX13_seen 205 = .ok (.goto 4, 3) := by decide +kernel
theorem dX13_seen_208 : decode cX13_seen 208 = .ok (.iconst 0, 1) := by decide +kernel
theorem dX13_seen_209 : decode cX13_seen 209 = .ok (.ireturn, 1) := by decide +kernel
theorem dX13_seen_210 : decode cX13_seen 210 = .ok (.aload_n 0, 1) := by decide +kernel
theorem dX13_seen_211 : decode cX13_seen 211 = .ok (.getfield 221, 3) := by decide +kernel
theorem dX13_seen_214 : decode cX13_seen 214 = .ok (.iload_n 2, 1) := by decide +kernel
theorem dX13_seen_215 : decode cX13_seen 215 = .ok (.iaload, 1) := by decide +kernel
theorem dX13_seen_216 : decode cX13_seen 216 = .ok (.ireturn, 1) := by decide +kernel
noncomputable def tX13_seen_43 (j12 : qT (Int32 × qM)) : qT (Int32 × qM) :=
  o2 (· + ·) (oSi 4 (oInc 5 (1 : Int32) (j12)))
noncomputable def wX13_seen_43 (k : Int32 → Int32 → Int32 → Int32 → Int32 → qM → Option (Int32 × qM)) : qT (Int32 × qM) := fun lo st m => match lo, st with
  | [some (.ref 98), _, some (.int a2), some (.int a3), _, some (.int a5)], [.int s0, .int s1] => k a2 a3 a5 s0 s1 m
  | _, _ => none
noncomputable def wX13_seen_12 (k : Int32 → Int32 → Int32 → Int32 → qM → Option (Int32 × qM)) : qT (Int32 × qM) := fun lo st m => match lo, st with
  | [some (.ref 98), _, some (.int a2), some (.int a3), some (.int a4), some (.int a5)], [] => k a2 a3 a4 a5 m
  | _, _ => none
set_option maxRecDepth 20000 in
theorem sX13_seen_43 {C : qCx} {w : qWp} (h : qOk C w RX13 cX13_seen 6 3 155 155) (hm : qMt C (some .int)) (hx : qNx C) {j12 : qT (Int32 × qM)} (k12 : qSnd C w 6 155 (qQf C w 155 155 jI) qfin 155 51 j12) : qSnd C w 6 155 (qQf C w 155 155 jI) qfin 155 112 (tX13_seen_43 j12) :=
  aAdd (pc := 112) h dX13_seen_112 (cSI (pc := 113) h dX13_seen_113 (cInc (pc := 115) h dX13_seen_115 rfl (jGo (pc := 118) h dX13_seen_118 rfl (k12))))
set_option maxRecDepth 20000 in
theorem lX13_seen_43 (k12 : Int32 → Int32 → Int32 → Int32 → qM → Option (Int32 × qM)) (a2 : Int32) (a3 : Int32) (a5 : Int32) (s0 : Int32) (s1 : Int32) (m : qM) : tX13_seen_43 (wX13_seen_12 k12) [some (.ref 98), none, some (.int a2), some (.int a3), none, some (.int a5)] [(.int s0), (.int s1)] m = fX13_seen_43 k12 a2 a3 a5 s0 s1 m := rfl
theorem bX13_seen_43 {C : qCx} {w : qWp} (h : qOk C w RX13 cX13_seen 6 3 155 155) (hm : qMt C (some .int)) (hx : qNx C) {k12 : Int32 → Int32 → Int32 → Int32 → qM → Option (Int32 × qM)} (h12 : qSnd C w 6 155 (qQf C w 155 155 jI) qfin 155 51 (wX13_seen_12 k12)) : qSnd C w 6 155 (qQf C w 155 155 jI) qfin 155 112 (wX13_seen_43 (fX13_seen_43 k12)) :=
  qSnd_of (fun lo st m x hr0 => by
    unfold wX13_seen_43 at hr0
    split at hr0
    · exact ⟨_, (qsub_e (qsub_n (qsub_e (qsub_e (qsub_n (qsub_e qsub_nil)))))), (lX13_seen_43 _ _ _ _ _ _ _).trans hr0⟩
    · cases hr0) (sX13_seen_43 h hm hx h12)
noncomputable def tX13_seen_42 (j43 : qT (Int32 × qM)) : qT (Int32 × qM) :=
  oC (.int (0 : Int32)) (j43)
noncomputable def wX13_seen_42 (k : Int32 → Int32 → Int32 → Int32 → qM → Option (Int32 × qM)) : qT (Int32 × qM) := fun lo st m => match lo, st with
  | [some (.ref 98), _, some (.int a2), some (.int a3), _, some (.int a5)], [.int s0] => k a2 a3 a5 s0 m
  | _, _ => none
set_option maxRecDepth 20000 in
theorem sX13_seen_42 {C : qCx} {w : qWp} (h : qOk C w RX13 cX13_seen 6 3 155 155) (hm : qMt C (some .int)) (hx : qNx C) {j43 : qT (Int32 × qM)} (k43 : qSnd C w 6 155 (qQf C w 155 155 jI) qfin 155 112 j43) : qSnd C w 6 155 (qQf C w 155 155 jI) qfin 155 111 (tX13_seen_42 j43) :=
  cC (pc := 111) h dX13_seen_111 rfl (k43)
set_option maxRecDepth 20000 in
theorem lX13_seen_42 (k12 : Int32 → Int32 → Int32 → Int32 → qM → Option (Int32 × qM)) (a2 : Int32) (a3 : Int32) (a5 : Int32) (s0 : Int32) (m : qM) : tX13_seen_42 (wX13_seen_43 (fX13_seen_43 k12)) [some (.ref 98), none, some (.int a2), some (.int a3), none, some (.int a5)] [(.int s0)] m = fX13_seen_42 k12 a2 a3 a5 s0 m := rfl
theorem bX13_seen_42 {C : qCx} {w : qWp} (h : qOk C w RX13 cX13_seen 6 3 155 155) (hm : qMt C (some .int)) (hx : qNx C) {k12 : Int32 → Int32 → Int32 → Int32 → qM → Option (Int32 × qM)} (h12 : qSnd C w 6 155 (qQf C w 155 155 jI) qfin 155 51 (wX13_seen_12 k12)) : qSnd C w 6 155 (qQf C w 155 155 jI) qfin 155 111 (wX13_seen_42 (fX13_seen_42 k12)) :=
  qSnd_of (fun lo st m x hr0 => by
    unfold wX13_seen_42 at hr0
    split at hr0
    · exact ⟨_, (qsub_e (qsub_n (qsub_e (qsub_e (qsub_n (qsub_e qsub_nil)))))), (lX13_seen_42 _ _ _ _ _ _).trans hr0⟩
    · cases hr0) (sX13_seen_42 h hm hx (bX13_seen_43 h hm hx h12))
noncomputable def tX13_seen_12 (j42 : qT (Int32 × qM)) (j43 : qT (Int32 × qM)) : qT (Int32 × qM) :=
  oLi 5 (oLa 0 (oGi 98 32 (oCGe (oLi 4 (eI)) (oLi 4 (oLa 0 (oGf 98 35 124 (oLi 5 (oAi 124 40 (oLa 0 (oGf 98 35 124 (oLi 2 (oAi 124 40 (oCEq (oLa 0 (oLi 5 (oCi GX13_isOpen 2 (oEq (j42) (oLa 0 (oLi 5 (oCi GX13_minuteOf 2 (oLi 3 (oCGt (j42) (oLa 0 (oLi 5 (oLi 3 (oCi GX13_isHere 3 (oEq (j42) (oC (.int (1 : Int32)) (j43)))))))))))))))) (j42))))))))))))))
set_option maxRecDepth 20000 in
theorem sX13_seen_12 {C : qCx} {w : qWp} (h : qOk C w RX13 cX13_seen 6 3 155 155) (hm : qMt C (some .int)) (hx : qNx C) {j42 : qT (Int32 × qM)} {j43 : qT (Int32 × qM)} (k42 : qSnd C w 6 155 (qQf C w 155 155 jI) qfin 155 111 j42) (k43 : qSnd C w 6 155 (qQf C w 155 155 jI) qfin 155 112 j43) : qSnd C w 6 155 (qQf C w 155 155 jI) qfin 155 51 (tX13_seen_12 j42 j43) :=
  cLI (pc := 51) h dX13_seen_51 (cLa (pc := 53) h dX13_seen_53 rfl (gGi (pc := 54) h dX13_seen_54 ff_X13_313_98 (Nat.le_of_ble_eq_true rfl) (Nat.le_of_ble_eq_true rfl) (jCGe (pc := 57) h dX13_seen_57 rfl (cLI (pc := 121) h dX13_seen_121 (zI (pc := 123) h hm (Nat.le_refl _) dX13_seen_123)) (cLI (pc := 60) h dX13_seen_60 (cLa (pc := 62) h dX13_seen_62 rfl (gGf (pc := 63) h dX13_seen_63 ff_X13_218_98 (Nat.le_of_ble_eq_true rfl) (Nat.le_of_ble_eq_true rfl) rfl (cLI (pc := 66) h dX13_seen_66 (rAi (pc := 68) h dX13_seen_68 rfl (Nat.le_of_ble_eq_true rfl) (Nat.le_of_ble_eq_true rfl) (cLa (pc := 69) h dX13_seen_69 rfl (gGf (pc := 70) h dX13_seen_70 ff_X13_218_98 (Nat.le_of_ble_eq_true rfl) (Nat.le_of_ble_eq_true rfl) rfl (cLi (pc := 73) h dX13_seen_73 rfl (rAi (pc := 74) h dX13_seen_74 rfl (Nat.le_of_ble_eq_true rfl) (Nat.le_of_ble_eq_true rfl) (jCNe (pc := 75) h dX13_seen_75 rfl (k42) (cLa (pc := 78) h dX13_seen_78 rfl (cLI (pc := 79) h dX13_seen_79 (kCi (pc := 81) h (kd_X13_478 h dX13_seen_81) spX13_isOpen (by decide) (by decide) (by decide) (by decide) (jEq (pc := 84) h dX13_seen_84 rfl (k42) (cLa (pc := 87) h dX13_seen_87 rfl (cLI (pc := 88) h dX13_seen_88 (kCi (pc := 90) h (kd_X13_481 h dX13_seen_90) spX13_minuteOf (by decide) (by decide) (by decide) (by decide) (cLi (pc := 93) h dX13_seen_93 rfl (jCGt (pc := 94) h dX13_seen_94 rfl (k42) (cLa (pc := 97) h dX13_seen_97 rfl (cLI (pc := 98) h dX13_seen_98 (cLi (pc := 100) h dX13_seen_100 rfl (kCi (pc := 101) h (kd_X13_484 h dX13_seen_101) spX13_isHere (by decide) (by decide) (by decide) (by decide) (jEq (pc := 104) h dX13_seen_104 rfl (k42) (cC (pc := 107) h dX13_seen_107 rfl (jGo (pc := 108) h dX13_seen_108 rfl (k43))))))))))))))))))))))))))))))
set_option maxRecDepth 20000 in
theorem lX13_seen_12 (n : Nat) (a2 : Int32) (a3 : Int32) (a4 : Int32) (a5 : Int32) (m : qM) : tX13_seen_12 (wX13_seen_42 (fX13_seen_42 (fX13_seen_12 n))) (wX13_seen_43 (fX13_seen_43 (fX13_seen_12 n))) [some (.ref 98), none, some (.int a2), some (.int a3), some (.int a4), some (.int a5)] [] m = fX13_seen_12 (n + 1) a2 a3 a4 a5 m := rfl
theorem bX13_seen_12 {C : qCx} {w : qWp} (h : qOk C w RX13 cX13_seen 6 3 155 155) (hm : qMt C (some .int)) (hx : qNx C) : ∀ n : Nat, qSnd C w 6 155 (qQf C w 155 155 jI) qfin 155 51 (wX13_seen_12 (fX13_seen_12 n))
  | 0 => qSnd_of0 (fun lo st m x hr0 => by
    unfold wX13_seen_12 at hr0
    split at hr0
    · cases hr0
    · cases hr0)
  | n + 1 => by
    have ih := bX13_seen_12 h hm hx n
    exact qSnd_of (fun lo st m x hr0 => by
    unfold wX13_seen_12 at hr0
    split at hr0
    · exact ⟨_, (qsub_e (qsub_n (qsub_e (qsub_e (qsub_e (qsub_e qsub_nil)))))), (lX13_seen_12 n _ _ _ _ _).trans hr0⟩
    · cases hr0) (sX13_seen_12 h hm hx (bX13_seen_42 h hm hx ih) (bX13_seen_43 h hm hx ih))
noncomputable def tX13_seen_72 (j51 : qT (Int32 × qM)) : qT (Int32 × qM) :=
  o2 (· + ·) (oSi 4 (oInc 5 (1 : Int32) (j51)))
noncomputable def wX13_seen_72 (k : Int32 → Int32 → Int32 → Int32 → qM → Option (Int32 × qM)) : qT (Int32 × qM) := fun lo st m => match lo, st with
  | [some (.ref 98), _, some (.int a2), _, _, some (.int a5)], [.int s0, .int s1] => k a2 a5 s0 s1 m
  | _, _ => none
noncomputable def wX13_seen_51 (k : Int32 → Int32 → Int32 → qM → Option (Int32 × qM)) : qT (Int32 × qM) := fun lo st m => match lo, st with
  | [some (.ref 98), _, some (.int a2), _, some (.int a4), some (.int a5)], [] => k a2 a4 a5 m
  | _, _ => none
set_option maxRecDepth 20000 in
theorem sX13_seen_72 {C : qCx} {w : qWp} (h : qOk C w RX13 cX13_seen 6 3 155 155) (hm : qMt C (some .int)) (hx : qNx C) {j51 : qT (Int32 × qM)} (k51 : qSnd C w 6 155 (qQf C w 155 155 jI) qfin 155 127 j51) : qSnd C w 6 155 (qQf C w 155 155 jI) qfin 155 168 (tX13_seen_72 j51) :=
  aAdd (pc := 168) h dX13_seen_168 (cSI (pc := 169) h dX13_seen_169 (cInc (pc := 171) h dX13_seen_171 rfl (jGo (pc := 174) h dX13_seen_174 rfl (k51))))
set_option maxRecDepth 20000 in
theorem lX13_seen_72 (k51 : Int32 → Int32 → Int32 → qM → Option (Int32 × qM)) (a2 : Int32) (a5 : Int32) (s0 : Int32) (s1 : Int32) (m : qM) : tX13_seen_72 (wX13_seen_51 k51) [some (.ref 98), none, some (.int a2), none, none, some (.int a5)] [(.int s0), (.int s1)] m = fX13_seen_72 k51 a2 a5 s0 s1 m := rfl
theorem bX13_seen_72 {C : qCx} {w : qWp} (h : qOk C w RX13 cX13_seen 6 3 155 155) (hm : qMt C (some .int)) (hx : qNx C) {k51 : Int32 → Int32 → Int32 → qM → Option (Int32 × qM)} (h51 : qSnd C w 6 155 (qQf C w 155 155 jI) qfin 155 127 (wX13_seen_51 k51)) : qSnd C w 6 155 (qQf C w 155 155 jI) qfin 155 168 (wX13_seen_72 (fX13_seen_72 k51)) :=
  qSnd_of (fun lo st m x hr0 => by
    unfold wX13_seen_72 at hr0
    split at hr0
    · exact ⟨_, (qsub_e (qsub_n (qsub_e (qsub_n (qsub_n (qsub_e qsub_nil)))))), (lX13_seen_72 _ _ _ _ _ _).trans hr0⟩
    · cases hr0) (sX13_seen_72 h hm hx h51)
noncomputable def tX13_seen_71 (j72 : qT (Int32 × qM)) : qT (Int32 × qM) :=
  oC (.int (0 : Int32)) (j72)
noncomputable def wX13_seen_71 (k : Int32 → Int32 → Int32 → qM → Option (Int32 × qM)) : qT (Int32 × qM) := fun lo st m => match lo, st with
  | [some (.ref 98), _, some (.int a2), _, _, some (.int a5)], [.int s0] => k a2 a5 s0 m
  | _, _ => none
set_option maxRecDepth 20000 in
theorem sX13_seen_71 {C : qCx} {w : qWp} (h : qOk C w RX13 cX13_seen 6 3 155 155) (hm : qMt C (some .int)) (hx : qNx C) {j72 : qT (Int32 × qM)} (k72 : qSnd C w 6 155 (qQf C w 155 155 jI) qfin 155 168 j72) : qSnd C w 6 155 (qQf C w 155 155 jI) qfin 155 167 (tX13_seen_71 j72) :=
  cC (pc := 167) h dX13_seen_167 rfl (k72)
set_option maxRecDepth 20000 in
theorem lX13_seen_71 (k51 : Int32 → Int32 → Int32 → qM → Option (Int32 × qM)) (a2 : Int32) (a5 : Int32) (s0 : Int32) (m : qM) : tX13_seen_71 (wX13_seen_72 (fX13_seen_72 k51)) [some (.ref 98), none, some (.int a2), none, none, some (.int a5)] [(.int s0)] m = fX13_seen_71 k51 a2 a5 s0 m := rfl
theorem bX13_seen_71 {C : qCx} {w : qWp} (h : qOk C w RX13 cX13_seen 6 3 155 155) (hm : qMt C (some .int)) (hx : qNx C) {k51 : Int32 → Int32 → Int32 → qM → Option (Int32 × qM)} (h51 : qSnd C w 6 155 (qQf C w 155 155 jI) qfin 155 127 (wX13_seen_51 k51)) : qSnd C w 6 155 (qQf C w 155 155 jI) qfin 155 167 (wX13_seen_71 (fX13_seen_71 k51)) :=
  qSnd_of (fun lo st m x hr0 => by
    unfold wX13_seen_71 at hr0
    split at hr0
    · exact ⟨_, (qsub_e (qsub_n (qsub_e (qsub_n (qsub_n (qsub_e qsub_nil)))))), (lX13_seen_71 _ _ _ _ _).trans hr0⟩
    · cases hr0) (sX13_seen_71 h hm hx (bX13_seen_72 h hm hx h51))
noncomputable def tX13_seen_51 (j71 : qT (Int32 × qM)) (j72 : qT (Int32 × qM)) : qT (Int32 × qM) :=
  oLi 5 (oLa 0 (oGi 98 32 (oCGe (oLi 4 (eI)) (oLi 4 (oLa 0 (oGf 98 35 124 (oLi 5 (oAi 124 40 (oLa 0 (oGf 98 35 124 (oLi 2 (oAi 124 40 (oCEq (oLa 0 (oLi 5 (oCi GX13_isOpen 2 (oEq (j71) (oC (.int (1 : Int32)) (j72)))))) (j71))))))))))))))
set_option maxRecDepth 20000 in
theorem sX13_seen_51 {C : qCx} {w : qWp} (h : qOk C w RX13 cX13_seen 6 3 155 155) (hm : qMt C (some .int)) (hx : qNx C) {j71 : qT (Int32 × qM)} {j72 : qT (Int32 × qM)} (k71 : qSnd C w 6 155 (qQf C w 155 155 jI) qfin 155 167 j71) (k72 : qSnd C w 6 155 (qQf C w 155 155 jI) qfin 155 168 j72) : qSnd C w 6 155 (qQf C w 155 155 jI) qfin 155 127 (tX13_seen_51 j71 j72) :=
  cLI (pc := 127) h dX13_seen_127 (cLa (pc := 129) h dX13_seen_129 rfl (gGi (pc := 130) h dX13_seen_130 ff_X13_313_98 (Nat.le_of_ble_eq_true rfl) (Nat.le_of_ble_eq_true rfl) (jCGe (pc := 133) h dX13_seen_133 rfl (cLI (pc := 177) h dX13_seen_177 (zI (pc := 179) h hm (Nat.le_refl _) dX13_seen_179)) (cLI (pc := 136) h dX13_seen_136 (cLa (pc := 138) h dX13_seen_138 rfl (gGf (pc := 139) h dX13_seen_139 ff_X13_218_98 (Nat.le_of_ble_eq_true rfl) (Nat.le_of_ble_eq_true rfl) rfl (cLI (pc := 142) h dX13_seen_142 (rAi (pc := 144) h dX13_seen_144 rfl (Nat.le_of_ble_eq_true rfl) (Nat.le_of_ble_eq_true rfl) (cLa (pc := 145) h dX13_seen_145 rfl (gGf (pc := 146) h dX13_seen_146 ff_X13_218_98 (Nat.le_of_ble_eq_true rfl) (Nat.le_of_ble_eq_true rfl) rfl (cLi (pc := 149) h dX13_seen_149 rfl (rAi (pc := 150) h dX13_seen_150 rfl (Nat.le_of_ble_eq_true rfl) (Nat.le_of_ble_eq_true rfl) (jCNe (pc := 151) h dX13_seen_151 rfl (k71) (cLa (pc := 154) h dX13_seen_154 rfl (cLI (pc := 155) h dX13_seen_155 (kCi (pc := 157) h (kd_X13_478 h dX13_seen_157) spX13_isOpen (by decide) (by decide) (by decide) (by decide) (jEq (pc := 160) h dX13_seen_160 rfl (k71) (cC (pc := 163) h dX13_seen_163 rfl (jGo (pc := 164) h dX13_seen_164 rfl (k72))))))))))))))))))))
set_option maxRecDepth 20000 in
theorem lX13_seen_51 (n : Nat) (a2 : Int32) (a4 : Int32) (a5 : Int32) (m : qM) : tX13_seen_51 (wX13_seen_71 (fX13_seen_71 (fX13_seen_51 n))) (wX13_seen_72 (fX13_seen_72 (fX13_seen_51 n))) [some (.ref 98), none, some (.int a2), none, some (.int a4), some (.int a5)] [] m = fX13_seen_51 (n + 1) a2 a4 a5 m := rfl
theorem bX13_seen_51 {C : qCx} {w : qWp} (h : qOk C w RX13 cX13_seen 6 3 155 155) (hm : qMt C (some .int)) (hx : qNx C) : ∀ n : Nat, qSnd C w 6 155 (qQf C w 155 155 jI) qfin 155 127 (wX13_seen_51 (fX13_seen_51 n))
  | 0 => qSnd_of0 (fun lo st m x hr0 => by
    unfold wX13_seen_51 at hr0
    split at hr0
    · cases hr0
    · cases hr0)
  | n + 1 => by
    have ih := bX13_seen_51 h hm hx n
    exact qSnd_of (fun lo st m x hr0 => by
    unfold wX13_seen_51 at hr0
    split at hr0
    · exact ⟨_, (qsub_e (qsub_n (qsub_e (qsub_n (qsub_e (qsub_e qsub_nil)))))), (lX13_seen_51 n _ _ _ _).trans hr0⟩
    · cases hr0) (sX13_seen_51 h hm hx (bX13_seen_71 h hm hx ih) (bX13_seen_72 h hm hx ih))
noncomputable def tX13_seen_86 : qT (Int32 × qM) :=
  eI
noncomputable def wX13_seen_86 (k : Int32 → qM → Option (Int32 × qM)) : qT (Int32 × qM) := fun lo st m => match lo, st with
  | [_, _, _, _, _, _], [.int s0] => k s0 m
  | _, _ => none
set_option maxRecDepth 20000 in
theorem sX13_seen_86 {C : qCx} {w : qWp} (h : qOk C w RX13 cX13_seen 6 3 155 155) (hm : qMt C (some .int)) (hx : qNx C) : qSnd C w 6 155 (qQf C w 155 155 jI) qfin 155 194 (tX13_seen_86) :=
  zI (pc := 194) h hm (Nat.le_refl _) dX13_seen_194
set_option maxRecDepth 20000 in
theorem lX13_seen_86 (s0 : Int32) (m : qM) : tX13_seen_86 [none, none, none, none, none, none] [(.int s0)] m = fX13_seen_86 s0 m := rfl
theorem bX13_seen_86 {C : qCx} {w : qWp} (h : qOk C w RX13 cX13_seen 6 3 155 155) (hm : qMt C (some .int)) (hx : qNx C) : qSnd C w 6 155 (qQf C w 155 155 jI) qfin 155 194 (wX13_seen_86 fX13_seen_86) :=
  qSnd_of (fun lo st m x hr0 => by
    unfold wX13_seen_86 at hr0
    split at hr0
    · exact ⟨_, (qsub_n (qsub_n (qsub_n (qsub_n (qsub_n (qsub_n qsub_nil)))))), (lX13_seen_86 _ _).trans hr0⟩
    · cases hr0) (sX13_seen_86 h hm hx)
noncomputable def tX13_seen_95 : qT (Int32 × qM) :=
  eI
noncomputable def wX13_seen_95 (k : Int32 → qM → Option (Int32 × qM)) : qT (Int32 × qM) := fun lo st m => match lo, st with
  | [_, _, _, _, _, _], [.int s0] => k s0 m
  | _, _ => none
set_option maxRecDepth 20000 in
theorem sX13_seen_95 {C : qCx} {w : qWp} (h : qOk C w RX13 cX13_seen 6 3 155 155) (hm : qMt C (some .int)) (hx : qNx C) : qSnd C w 6 155 (qQf C w 155 155 jI) qfin 155 209 (tX13_seen_95) :=
  zI (pc := 209) h hm (Nat.le_refl _) dX13_seen_209
set_option maxRecDepth 20000 in
theorem lX13_seen_95 (s0 : Int32) (m : qM) : tX13_seen_95 [none, none, none, none, none, none] [(.int s0)] m = fX13_seen_95 s0 m := rfl
theorem bX13_seen_95 {C : qCx} {w : qWp} (h : qOk C w RX13 cX13_seen 6 3 155 155) (hm : qMt C (some .int)) (hx : qNx C) : qSnd C w 6 155 (qQf C w 155 155 jI) qfin 155 209 (wX13_seen_95 fX13_seen_95) :=
  qSnd_of (fun lo st m x hr0 => by
    unfold wX13_seen_95 at hr0
    split at hr0
    · exact ⟨_, (qsub_n (qsub_n (qsub_n (qsub_n (qsub_n (qsub_n qsub_nil)))))), (lX13_seen_95 _ _).trans hr0⟩
    · cases hr0) (sX13_seen_95 h hm hx)
noncomputable def tX13_seen_0 (j12 : qT (Int32 × qM)) (j51 : qT (Int32 × qM)) (j86 : qT (Int32 × qM)) (j95 : qT (Int32 × qM)) : qT (Int32 × qM) :=
  oC (.int (0 : Int32)) (oSi 4 (oLi 1 (oSw (0 : Int32) (oLa 0 (oGf 98 36 125 (oLi 2 (oAi 125 40 (eI))))) [oLi 3 (oLa 0 (oLi 2 (oCi GX13_minuteOf 2 (o2 (· - ·) (eI))))), oC (.int (0 : Int32)) (oSi 5 (j12)), oC (.int (0 : Int32)) (oSi 5 (j51)), oLa 0 (oGf 98 37 126 (oLi 2 (oAi 126 40 (oEq (oC (.int (0 : Int32)) (j86)) (oC (.int (1 : Int32)) (j86)))))), oLa 0 (oLi 2 (oLi 3 (oCi GX13_isHere 3 (oEq (oC (.int (0 : Int32)) (j95)) (oC (.int (1 : Int32)) (j95))))))])))
set_option maxRecDepth 20000 in
theorem sX13_seen_0 {C : qCx} {w : qWp} (h : qOk C w RX13 cX13_seen 6 3 155 155) (hm : qMt C (some .int)) (hx : qNx C) {j12 : qT (Int32 × qM)} {j51 : qT (Int32 × qM)} {j86 : qT (Int32 × qM)} {j95 : qT (Int32 × qM)} (k12 : qSnd C w 6 155 (qQf C w 155 155 jI) qfin 155 51 j12) (k51 : qSnd C w 6 155 (qQf C w 155 155 jI) qfin 155 127 j51) (k86 : qSnd C w 6 155 (qQf C w 155 155 jI) qfin 155 194 j86) (k95 : qSnd C w 6 155 (qQf C w 155 155 jI) qfin 155 209 j95) : qSnd C w 6 155 (qQf C w 155 155 jI) qfin 155 0 (tX13_seen_0 j12 j51 j86 j95) :=
  cC (pc := 0) h dX13_seen_0 rfl (cSI (pc := 1) h dX13_seen_1 (cLi (pc := 3) h dX13_seen_3 rfl (jSw (pc := 4) (a := 0) h dX13_seen_4 rfl rfl rfl (by decide) rfl (cLa (pc := 210) h dX13_seen_210 rfl (gGf (pc := 211) h dX13_seen_211 ff_X13_221_98 (Nat.le_of_ble_eq_true rfl) (Nat.le_of_ble_eq_true rfl) rfl (cLi (pc := 214) h dX13_seen_214 rfl (rAi (pc := 215) h dX13_seen_215 rfl (Nat.le_of_ble_eq_true rfl) (Nat.le_of_ble_eq_true rfl) (zI (pc := 216) h hm (Nat.le_refl _) dX13_seen_216))))) ⟨⟨_, rfl, cLi (pc := 40) h dX13_seen_40 rfl (cLa (pc := 41) h dX13_seen_41 rfl (cLi (pc := 42) h dX13_seen_42 rfl (kCi (pc := 43) h (kd_X13_481 h dX13_seen_43) spX13_minuteOf (by decide) (by decide) (by decide) (by decide) (aSub (pc := 46) h dX13_seen_46 (zI (pc := 47) h hm (Nat.le_refl _) dX13_seen_47)))))⟩, ⟨⟨_, rfl, cC (pc := 48) h dX13_seen_48 rfl (cSI (pc := 49) h dX13_seen_49 (k12))⟩, ⟨⟨_, rfl, cC (pc := 124) h dX13_seen_124 rfl (cSI (pc := 125) h dX13_seen_125 (k51))⟩, ⟨⟨_, rfl, cLa (pc := 180) h dX13_seen_180 rfl (gGf (pc := 181) h dX13_seen_181 ff_X13_223_98 (Nat.le_of_ble_eq_true rfl) (Nat.le_of_ble_eq_true rfl) rfl (cLi (pc := 184) h dX13_seen_184 rfl (rAz (pc := 185) h dX13_seen_185 rfl (Nat.le_of_ble_eq_true rfl) (Nat.le_of_ble_eq_true rfl) (jEq (pc := 186) h dX13_seen_186 rfl (cC (pc := 193) h dX13_seen_193 rfl (k86)) (cC (pc := 189) h dX13_seen_189 rfl (jGo (pc := 190) h dX13_seen_190 rfl (k86)))))))⟩, ⟨⟨_, rfl, cLa (pc := 195) h dX13_seen_195 rfl (cLi (pc := 196) h dX13_seen_196 rfl (cLi (pc := 197) h dX13_seen_197 rfl (kCi (pc := 198) h (kd_X13_484 h dX13_seen_198) spX13_isHere (by decide) (by decide) (by decide) (by decide) (jEq (pc := 201) h dX13_seen_201 rfl (cC (pc := 208) h dX13_seen_208 rfl (k95)) (cC (pc := 204) h dX13_seen_204 rfl (jGo (pc := 205) h dX13_seen_205 rfl (k95)))))))⟩, trivial⟩⟩⟩⟩⟩)))
set_option maxRecDepth 20000 in
theorem lX13_seen_0 (a1 : Int32) (a2 : Int32) (a3 : Int32) (m : qM) : tX13_seen_0 (wX13_seen_12 (fX13_seen_12 FU)) (wX13_seen_51 (fX13_seen_51 FU)) (wX13_seen_86 fX13_seen_86) (wX13_seen_95 fX13_seen_95) [some (.ref 98), some (.int a1), some (.int a2), some (.int a3), none, none] [] m = fX13_seen_0 a1 a2 a3 m := rfl
noncomputable def GX13_seen : qG Int32 := fun av m => match av with
  | [.ref 98, .int a1, .int a2, .int a3] => fX13_seen a1 a2 a3 m
  | _ => none
theorem spX13_seen : qSpI yX13_seen (.code yX13_seen cX13_seen 6 (some .int)) 3 qfin 155 155 1 GX13_seen := by
  intro av m x m' hG
  unfold GX13_seen at hG
  split at hG
  · rename_i a1 a2 a3
    rw [fX13_seen_d] at hG
    exact ⟨qmeet (J := jI) (r := (x, m')) (av := [.ref 98, .int a1, .int a2, .int a3]) (by decide +kernel) (Nat.le_of_ble_eq_true rfl) (fun C w h hm hx hn => sX13_seen_0 h hm hx (bX13_seen_12 h hm hx FU) (bX13_seen_51 h hm hx FU) (bX13_seen_86 h hm hx) (bX13_seen_95 h hm hx)) ((lX13_seen_0 _ _ _ _).trans hG) (Nat.le_of_ble_eq_true rfl), Or.inl ⟨98, _, 13, _, _, rfl, by decide, rfl, qCk_13, rfl⟩⟩
  · cases hG
theorem im_X13_seen : Jvm.Cond.instanceMethod yX13_seen ∈ qTw := qm9 (List.mem_of_getElem? (i := 88) (by decide +kernel)) (by decide +kernel)
theorem se_X13_seen : Jvm.Cond.selects yX13_seen.cls yX13_seen yX13_seen ∈ qTw := List.mem_filter.mpr ⟨List.mem_append_left _ (List.mem_of_getElem? (i := 80) (by decide +kernel)), rfl⟩
theorem co_X13_seen : Jvm.Cond.code yX13_seen cX13_seen 6 (some .int) ∈ qTw := qm9 (List.mem_of_getElem? (i := 89) (by decide +kernel)) (by decide +kernel)
theorem yk_X13_seen : qYk yX13_seen 3 := ⟨⟨by decide +kernel, by decide +kernel⟩, by decide +kernel⟩
theorem ml_X13_487 : Jvm.Cond.methodLink RX13 487 yX13_seen ∈ qTw := qm9 (List.mem_of_getElem? (i := 86) (by decide +kernel)) (by decide +kernel)
theorem kd_X13_487 {C : qCx} {w : qWp} {cc : ByteArray} {nL dp n0 n1 pc : Nat} (h : qOk C w RX13 cc nL dp n0 n1) (d : decode cc pc = .ok (.invokevirtual 487, 3)) : qCallOk C w nL dp n0 n1 pc 4 1 yX13_seen (.code yX13_seen cX13_seen 6 (some .int)) := kindV h d ml_X13_487 im_X13_seen se_X13_seen in_ParentEveModel co_X13_seen yk_X13_seen (by decide)
theorem dX13_holds_0 : decode cX13_holds 0 = .ok (.iconst 4, 1) := by decide +kernel
theorem dX13_holds_1 : decode cX13_holds 1 = .ok (.iload_n 1, 1) := by decide +kernel
theorem dX13_holds_2 : decode cX13_holds 2 = .ok (.imul, 1) := by decide +kernel
theorem dX13_holds_3 : decode cX13_holds 3 = .ok (.istore 4, 2) := by decide +kernel
theorem dX13_holds_5 : decode cX13_holds 5 = .ok (.iload 4, 2) := by decide +kernel
theorem dX13_holds_7 : decode cX13_holds 7 = .ok (.iconst 4, 1) := by decide +kernel
theorem dX13_holds_8 : decode cX13_holds 8 = .ok (.iload_n 1, 1) := by decide +kernel
theorem dX13_holds_9 : decode cX13_holds 9 = .ok (.imul, 1) := by decide +kernel
theorem dX13_holds_10 : decode cX13_holds 10 = .ok (.aload_n 0, 1) := by decide +kernel
theorem dX13_holds_11 : decode cX13_holds 11 = .ok (.getfield 111, 3) := by decide +kernel
theorem dX13_holds_14 : decode cX13_holds 14 = .ok (.iload_n 1, 1) := by decide +kernel
theorem dX13_holds_15 : decode cX13_holds 15 = .ok (.iaload, 1) := by decide +kernel
theorem dX13_holds_16 : decode cX13_holds 16 = .ok (.iadd, 1) := by decide +kernel
theorem dX13_holds_17 : decode cX13_holds 17 = .ok (.if_icmp .ge 110, 3) := by decide +kernel
theorem dX13_holds_20 : decode cX13_holds 20 = .ok (.aload_n 0, 1) := by decide +kernel
theorem dX13_holds_21 : decode cX13_holds 21 = .ok (.aload_n 0, 1) := by decide +kernel
theorem dX13_holds_22 : decode cX13_holds 22 = .ok (.getfield 142, 3) := by decide +kernel
theorem dX13_holds_25 : decode cX13_holds 25 = .ok (.iload 4, 2) := by decide +kernel
theorem dX13_holds_27 : decode cX13_holds 27 = .ok (.iaload, 1) := by decide +kernel
theorem dX13_holds_28 : decode cX13_holds 28 = .ok (.iload_n 2, 1) := by decide +kernel
theorem dX13_holds_29 : decode cX13_holds 29 = .ok (.iload_n 3, 1) := by decide +kernel
theorem dX13_holds_30 : decode cX13_holds 30 = .ok (.invokevirtual 487, 3) := by decide +kernel
theorem dX13_holds_33 : decode cX13_holds 33 = .ok (.istore 5, 2) := by decide +kernel
theorem dX13_holds_35 : decode cX13_holds 35 = .ok (.aload_n 0, 1) := by decide +kernel
theorem dX13_holds_36 : decode cX13_holds 36 = .ok (.getfield 145, 3) := by decide +kernel
theorem dX13_holds_39 : decode cX13_holds 39 = .ok (.iload 4, 2) := by decide +kernel
theorem dX13_holds_41 : decode cX13_holds 41 = .ok (.iaload, 1) := by decide +kernel
theorem dX13_holds_42 : decode cX13_holds 42 = .ok (.ifCond .le 23, 3) := by decide +kernel
theorem dX13_holds_45 : decode cX13_holds 45 = .ok (.iload 5, 2) := by decide +kernel
theorem dX13_holds_47 : decode cX13_holds 47 = .ok (.aload_n 0, 1) := by decide +kernel
theorem dX13_holds_48 : decode cX13_holds 48 = .ok (.getfield 148, 3) := by decide +kernel
theorem dX13_holds_51 : decode cX13_holds 51 = .ok (.iload 4, 2) := by decide +kernel
theorem dX13_holds_53 : decode cX13_holds 53 = .ok (.iaload, 1) := by decide +kernel
theorem dX13_holds_54 : decode cX13_holds 54 = .ok (.if_icmp .le 7, 3) := by decide +kernel
theorem dX13_holds_57 : decode cX13_holds 57 = .ok (.iconst 1, 1) := by decide +kernel
theorem dX13_holds_58 : decode cX13_holds 58 = .ok (.goto 54, 3) := by decide +kernel
theorem dX13_holds_61 : decode cX13_holds 61 = .ok (.iconst 0, 1) := by decide +kernel
theorem dX13_holds_62 : decode cX13_holds 62 = .ok (.goto 50, 3) := by decide +kernel
theorem dX13_holds_65 : decode cX13_holds 65 = .ok (.aload_n 0, 1) := by decide +kernel
theorem dX13_holds_66 : decode cX13_holds 66 = .ok (.getfield 145, 3) := by decide +kernel
theorem dX13_holds_69 : decode cX13_holds 69 = .ok (.iload 4, 2) := by decide +kernel
theorem dX13_holds_71 : decode cX13_holds 71 = .ok (.iaload, 1) := by decide +kernel
theorem dX13_holds_72 : decode cX13_holds 72 = .ok (.ifCond .ge 23, 3) := by decide +kernel
theorem dX13_holds_75 : decode cX13_holds 75 = .ok (.iload 5, 2) := by decide +kernel
theorem dX13_holds_77 : decode cX13_holds 77 = .ok (.aload_n 0, 1) := by decide +kernel
theorem dX13_holds_78 : decode cX13_holds 78 = .ok (.getfield 148, 3) := by decide +kernel
theorem dX13_holds_81 : decode cX13_holds 81 = .ok (.iload 4, 2) := by decide +kernel
theorem dX13_holds_83 : decode cX13_holds 83 = .ok (.iaload, 1) := by decide +kernel
theorem dX13_holds_84 : decode cX13_holds 84 = .ok (.if_icmp .ge 7, 3) := by decide +kernel
theorem dX13_holds_87 : decode cX13_holds 87 = .ok (.iconst 1, 1) := by decide +kernel
theorem dX13_holds_88 : decode cX13_holds 88 = .ok (.goto 24, 3) := by decide +kernel
theorem dX13_holds_91 : decode cX13_holds 91 = .ok (.iconst 0, 1) := by decide +kernel
theorem dX13_holds_92 : decode cX13_holds 92 = .ok (.goto 20, 3) := by decide +kernel
theorem dX13_holds_95 : decode cX13_holds 95 = .ok (.iload 5, 2) := by decide +kernel
theorem dX13_holds_97 : decode cX13_holds 97 = .ok (.aload_n 0, 1) := by decide +kernel
theorem dX13_holds_98 : decode cX13_holds 98 = .ok (.getfield 148, 3) := by decide +kernel
theorem dX13_holds_101 : decode cX13_holds 101 = .ok (.iload 4, 2) := by decide +kernel
theorem dX13_holds_103 : decode cX13_holds 103 = .ok (.iaload, 1) := by decide +kernel
theorem dX13_holds_104 : decode cX13_holds 104 = .ok (.if_icmp .ne 7, 3) := by decide +kernel
theorem dX13_holds_107 : decode cX13_holds 107 = .ok (.iconst 1, 1) := by decide +kernel
theorem dX13_holds_108 : decode cX13_holds 108 = .ok (.goto 4, 3) := by decide +kernel
theorem dX13_holds_111 : decode cX13_holds 111 = .ok (.iconst 0, 1) := by decide +kernel
theorem dX13_holds_112 : decode cX13_holds 112 = .ok (.istore 6, 2) := by decide +kernel
theorem dX13_holds_114 : decode cX13_holds 114 = .ok (.iload 6, 2) := by decide +kernel
theorem dX13_holds_116 : decode cX13_holds 116 = .ok (.ifCond .ne 5, 3) := by decide +kernel
theorem dX13_holds_119 : decode cX13_holds 119 = .ok (.iconst 0, 1) := by decide +kernel
theorem dX13_holds_120 : decode cX13_holds 120 = .ok (.ireturn, 1) := by decide +kernel
theorem dX13_holds_121 : decode cX13_holds 121 = .ok (.iinc 4 1, 3) := by decide +kernel
theorem dX13_holds_124 : decode cX13_holds 124 = .ok (.goto (-119), 3) := by decide +kernel
theorem dX13_holds_127 : decode cX13_holds 127 = .ok (.iconst 1, 1) := by decide +kernel
theorem dX13_holds_128 : decode cX13_holds 128 = .ok (.ireturn, 1) := by decide +kernel
noncomputable def tX13_holds_62 (j4 : qT (Int32 × qM)) : qT (Int32 × qM) :=
  oSi 6 (oLi 6 (oEq (oC (.int (0 : Int32)) (eZ)) (oInc 4 (1 : Int32) (j4))))
noncomputable def wX13_holds_62 (k : Int32 → Int32 → Int32 → Int32 → Int32 → qM → Option (Int32 × qM)) : qT (Int32 × qM) := fun lo st m => match lo, st with
  | [some (.ref 98), some (.int a1), some (.int a2), some (.int a3), some (.int a4), _, _], [.int s0] => k a1 a2 a3 a4 s0 m
  | _, _ => none
noncomputable def wX13_holds_4 (k : Int32 → Int32 → Int32 → Int32 → qM → Option (Int32 × qM)) : qT (Int32 × qM) := fun lo st m => match lo, st with
  | [some (.ref 98), some (.int a1), some (.int a2), some (.int a3), some (.int a4), _, _], [] => k a1 a2 a3 a4 m
  | _, _ => none
set_option maxRecDepth 20000 in
theorem sX13_holds_62 {C : qCx} {w : qWp} (h : qOk C w RX13 cX13_holds 7 4 155 155) (hm : qMt C (some .boolean)) (hx : qNx C) {j4 : qT (Int32 × qM)} (k4 : qSnd C w 7 155 (qQf C w 155 155 jI) qfin 155 5 j4) : qSnd C w 7 155 (qQf C w 155 155 jI) qfin 155 112 (tX13_holds_62 j4) :=
  cSI (pc := 112) h dX13_holds_112 (cLI (pc := 114) h dX13_holds_114 (jNe (pc := 116) h dX13_holds_116 rfl (cInc (pc := 121) h dX13_holds_121 rfl (jGo (pc := 124) h dX13_holds_124 rfl (k4))) (cC (pc := 119) h dX13_holds_119 rfl (zZ (pc := 120) h hm (Nat.le_refl _) dX13_holds_120))))
set_option maxRecDepth 20000 in
theorem lX13_holds_62 (k4 : Int32 → Int32 → Int32 → Int32 → qM → Option (Int32 × qM)) (a1 : Int32) (a2 : Int32) (a3 : Int32) (a4 : Int32) (s0 : Int32) (m : qM) : tX13_holds_62 (wX13_holds_4 k4) [some (.ref 98), some (.int a1), some (.int a2), some (.int a3), some (.int a4), none, none] [(.int s0)] m = fX13_holds_62 k4 a1 a2 a3 a4 s0 m := rfl
theorem bX13_holds_62 {C : qCx} {w : qWp} (h : qOk C w RX13 cX13_holds 7 4 155 155) (hm : qMt C (some .boolean)) (hx : qNx C) {k4 : Int32 → Int32 → Int32 → Int32 → qM → Option (Int32 × qM)} (h4 : qSnd C w 7 155 (qQf C w 155 155 jI) qfin 155 5 (wX13_holds_4 k4)) : qSnd C w 7 155 (qQf C w 155 155 jI) qfin 155 112 (wX13_holds_62 (fX13_holds_62 k4)) :=
  qSnd_of (fun lo st m x hr0 => by
    unfold wX13_holds_62 at hr0
    split at hr0
    · exact ⟨_, (qsub_e (qsub_e (qsub_e (qsub_e (qsub_e (qsub_n (qsub_n qsub_nil))))))), (lX13_holds_62 _ _ _ _ _ _ _).trans hr0⟩
    · cases hr0) (sX13_holds_62 h hm hx h4)
noncomputable def tX13_holds_4 (j62 : qT (Int32 × qM)) : qT (Int32 × qM) :=
  oLi 4 (oC (.int (4 : Int32)) (oLi 1 (o2 (· * ·) (oLa 0 (oGf 98 5 104 (oLi 1 (oAi 104 40 (o2 (· + ·) (oCGe (oC (.int (1 : Int32)) (eZ)) (oLa 0 (oLa 0 (oGf 98 6 105 (oLi 4 (oAi 105 160 (oLi 2 (oLi 3 (oCi GX13_seen 4 (oSi 5 (oLa 0 (oGf 98 7 106 (oLi 4 (oAi 106 160 (oLe (oLa 0 (oGf 98 7 106 (oLi 4 (oAi 106 160 (oGe (oLi 5 (oLa 0 (oGf 98 8 107 (oLi 4 (oAi 107 160 (oCEq (oC (.int (1 : Int32)) (j62)) (oC (.int (0 : Int32)) (j62)))))))) (oLi 5 (oLa 0 (oGf 98 8 107 (oLi 4 (oAi 107 160 (oCGe (oC (.int (0 : Int32)) (j62)) (oC (.int (1 : Int32)) (j62))))))))))))) (oLi 5 (oLa 0 (oGf 98 8 107 (oLi 4 (oAi 107 160 (oCLe (oC (.int (0 : Int32)) (j62)) (oC (.int (1 : Int32)) (j62)))))))))))))))))))))))))))))))
set_option maxRecDepth 20000 in
theorem sX13_holds_4 {C : qCx} {w : qWp} (h : qOk C w RX13 cX13_holds 7 4 155 155) (hm : qMt C (some .boolean)) (hx : qNx C) {j62 : qT (Int32 × qM)} (k62 : qSnd C w 7 155 (qQf C w 155 155 jI) qfin 155 112 j62) : qSnd C w 7 155 (qQf C w 155 155 jI) qfin 155 5 (tX13_holds_4 j62) :=
  cLI (pc := 5) h dX13_holds_5 (cC (pc := 7) h dX13_holds_7 rfl (cLi (pc := 8) h dX13_holds_8 rfl (aMul (pc := 9) h dX13_holds_9 (cLa (pc := 10) h dX13_holds_10 rfl (gGf (pc := 11) h dX13_holds_11 ff_X13_111_98 (Nat.le_of_ble_eq_true rfl) (Nat.le_of_ble_eq_true rfl) rfl (cLi (pc := 14) h dX13_holds_14 rfl (rAi (pc := 15) h dX13_holds_15 rfl (Nat.le_of_ble_eq_true rfl) (Nat.le_of_ble_eq_true rfl) (aAdd (pc := 16) h dX13_holds_16 (jCGe (pc := 17) h dX13_holds_17 rfl (cC (pc := 127) h dX13_holds_127 rfl (zZ (pc := 128) h hm (Nat.le_refl _) dX13_holds_128)) (cLa (pc := 20) h dX13_holds_20 rfl (cLa (pc := 21) h dX13_holds_21 rfl (gGf (pc := 22) h dX13_holds_22 ff_X13_142_98 (Nat.le_of_ble_eq_true rfl) (Nat.le_of_ble_eq_true rfl) rfl (cLI (pc := 25) h dX13_holds_25 (rAi (pc := 27) h dX13_holds_27 rfl (Nat.le_of_ble_eq_true rfl) (Nat.le_of_ble_eq_true rfl) (cLi (pc := 28) h dX13_holds_28 rfl (cLi (pc := 29) h dX13_holds_29 rfl (kCi (pc := 30) h (kd_X13_487 h dX13_holds_30) spX13_seen (by decide) (by decide) (by decide) (by decide) (cSI (pc := 33) h dX13_holds_33 (cLa (pc := 35) h dX13_holds_35 rfl (gGf (pc := 36) h dX13_holds_36 ff_X13_145_98 (Nat.le_of_ble_eq_true rfl) (Nat.le_of_ble_eq_true rfl) rfl (cLI (pc := 39) h dX13_holds_39 (rAi (pc := 41) h dX13_holds_41 rfl (Nat.le_of_ble_eq_true rfl) (Nat.le_of_ble_eq_true rfl) (jLe (pc := 42) h dX13_holds_42 rfl (cLa (pc := 65) h dX13_holds_65 rfl (gGf (pc := 66) h dX13_holds_66 ff_X13_145_98 (Nat.le_of_ble_eq_true rfl) (Nat.le_of_ble_eq_true rfl) rfl (cLI (pc := 69) h dX13_holds_69 (rAi (pc := 71) h dX13_holds_71 rfl (Nat.le_of_ble_eq_true rfl) (Nat.le_of_ble_eq_true rfl) (jGe (pc := 72) h dX13_holds_72 rfl (cLI (pc := 95) h dX13_holds_95 (cLa (pc := 97) h dX13_holds_97 rfl (gGf (pc := 98) h dX13_holds_98 ff_X13_148_98 (Nat.le_of_ble_eq_true rfl) (Nat.le_of_ble_eq_true rfl) rfl (cLI (pc := 101) h dX13_holds_101 (rAi (pc := 103) h dX13_holds_103 rfl (Nat.le_of_ble_eq_true rfl) (Nat.le_of_ble_eq_true rfl) (jCNe (pc := 104) h dX13_holds_104 rfl (cC (pc := 111) h dX13_holds_111 rfl (k62)) (cC (pc := 107) h dX13_holds_107 rfl (jGo (pc := 108) h dX13_holds_108 rfl (k62))))))))) (cLI (pc := 75) h dX13_holds_75 (cLa (pc := 77) h dX13_holds_77 rfl (gGf (pc := 78) h dX13_holds_78 ff_X13_148_98 (Nat.le_of_ble_eq_true rfl) (Nat.le_of_ble_eq_true rfl) rfl (cLI (pc := 81) h dX13_holds_81 (rAi (pc := 83) h dX13_holds_83 rfl (Nat.le_of_ble_eq_true rfl) (Nat.le_of_ble_eq_true rfl) (jCGe (pc := 84) h dX13_holds_84 rfl (cC (pc := 91) h dX13_holds_91 rfl (jGo (pc := 92) h dX13_holds_92 rfl (k62))) (cC (pc := 87) h dX13_holds_87 rfl (jGo (pc := 88) h dX13_holds_88 rfl (k62)))))))))))))) (cLI (pc := 45) h dX13_holds_45 (cLa (pc := 47) h dX13_holds_47 rfl (gGf (pc := 48) h dX13_holds_48 ff_X13_148_98 (Nat.le_of_ble_eq_true rfl) (Nat.le_of_ble_eq_true rfl) rfl (cLI (pc := 51) h dX13_holds_51 (rAi (pc := 53) h dX13_holds_53 rfl (Nat.le_of_ble_eq_true rfl) (Nat.le_of_ble_eq_true rfl) (jCLe (pc := 54) h dX13_holds_54 rfl (cC (pc := 61) h dX13_holds_61 rfl (jGo (pc := 62) h dX13_holds_62 rfl (k62))) (cC (pc := 57) h dX13_holds_57 rfl (jGo (pc := 58) h dX13_holds_58 rfl (k62))))))))))))))))))))))))))))))))
set_option maxRecDepth 20000 in
theorem lX13_holds_4 (n : Nat) (a1 : Int32) (a2 : Int32) (a3 : Int32) (a4 : Int32) (m : qM) : tX13_holds_4 (wX13_holds_62 (fX13_holds_62 (fX13_holds_4 n))) [some (.ref 98), some (.int a1), some (.int a2), some (.int a3), some (.int a4), none, none] [] m = fX13_holds_4 (n + 1) a1 a2 a3 a4 m := rfl
theorem bX13_holds_4 {C : qCx} {w : qWp} (h : qOk C w RX13 cX13_holds 7 4 155 155) (hm : qMt C (some .boolean)) (hx : qNx C) : ∀ n : Nat, qSnd C w 7 155 (qQf C w 155 155 jI) qfin 155 5 (wX13_holds_4 (fX13_holds_4 n))
  | 0 => qSnd_of0 (fun lo st m x hr0 => by
    unfold wX13_holds_4 at hr0
    split at hr0
    · cases hr0
    · cases hr0)
  | n + 1 => by
    have ih := bX13_holds_4 h hm hx n
    exact qSnd_of (fun lo st m x hr0 => by
    unfold wX13_holds_4 at hr0
    split at hr0
    · exact ⟨_, (qsub_e (qsub_e (qsub_e (qsub_e (qsub_e (qsub_n (qsub_n qsub_nil))))))), (lX13_holds_4 n _ _ _ _ _).trans hr0⟩
    · cases hr0) (sX13_holds_4 h hm hx (bX13_holds_62 h hm hx ih))
noncomputable def tX13_holds_0 (j4 : qT (Int32 × qM)) : qT (Int32 × qM) :=
  oC (.int (4 : Int32)) (oLi 1 (o2 (· * ·) (oSi 4 (j4))))
set_option maxRecDepth 20000 in
theorem sX13_holds_0 {C : qCx} {w : qWp} (h : qOk C w RX13 cX13_holds 7 4 155 155) (hm : qMt C (some .boolean)) (hx : qNx C) {j4 : qT (Int32 × qM)} (k4 : qSnd C w 7 155 (qQf C w 155 155 jI) qfin 155 5 j4) : qSnd C w 7 155 (qQf C w 155 155 jI) qfin 155 0 (tX13_holds_0 j4) :=
  cC (pc := 0) h dX13_holds_0 rfl (cLi (pc := 1) h dX13_holds_1 rfl (aMul (pc := 2) h dX13_holds_2 (cSI (pc := 3) h dX13_holds_3 (k4))))
set_option maxRecDepth 20000 in
theorem lX13_holds_0 (a1 : Int32) (a2 : Int32) (a3 : Int32) (m : qM) : tX13_holds_0 (wX13_holds_4 (fX13_holds_4 FU)) [some (.ref 98), some (.int a1), some (.int a2), some (.int a3), none, none, none] [] m = fX13_holds_0 a1 a2 a3 m := rfl
noncomputable def GX13_holds : qG Int32 := fun av m => match av with
  | [.ref 98, .int a1, .int a2, .int a3] => fX13_holds a1 a2 a3 m
  | _ => none
theorem spX13_holds : qSpI yX13_holds (.code yX13_holds cX13_holds 7 (some .boolean)) 4 qfin 155 155 1 GX13_holds := by
  intro av m x m' hG
  unfold GX13_holds at hG
  split at hG
  · rename_i a1 a2 a3
    rw [fX13_holds_d] at hG
    exact ⟨qmeet (J := jI) (r := (x, m')) (av := [.ref 98, .int a1, .int a2, .int a3]) (by decide +kernel) (Nat.le_of_ble_eq_true rfl) (fun C w h hm hx hn => sX13_holds_0 h hm hx (bX13_holds_4 h hm hx FU)) ((lX13_holds_0 _ _ _ _).trans hG) (Nat.le_of_ble_eq_true rfl), Or.inl ⟨98, _, 13, _, _, rfl, by decide, rfl, qCk_13, rfl⟩⟩
  · cases hG
theorem mf_X13_271 : Jvm.Cond.fieldLink RX13 271 (qTb 13 61).1 (qTb 13 61).2.1 (qTb 13 61).2.2.1 ∈ qTw := qm7 (List.mem_of_getElem? (i := 39) (by decide +kernel)) (by decide +kernel)
theorem ff_X13_271_98 : qFd RX13 271 98 13 61 3 := ⟨mf_X13_271, rfl, by decide, rfl⟩
theorem mf_X13_274 : Jvm.Cond.fieldLink RX13 274 (qTb 13 62).1 (qTb 13 62).2.1 (qTb 13 62).2.2.1 ∈ qTw := qm7 (List.mem_of_getElem? (i := 40) (by decide +kernel)) (by decide +kernel)
theorem ff_X13_274_98 : qFd RX13 274 98 13 62 3 := ⟨mf_X13_274, rfl, by decide, rfl⟩
theorem dX13_start_0 : decode cX13_start 0 = .ok (.aload_n 0, 1) := by decide +kernel
theorem dX13_start_1 : decode cX13_start 1 = .ok (.getfield 268, 3) := by decide +kernel
theorem dX13_start_4 : decode cX13_start 4 = .ok (.iload_n 1, 1) := by decide +kernel
theorem dX13_start_5 : decode cX13_start 5 = .ok (.iload_n 2, 1) := by decide +kernel
theorem dX13_start_6 : decode cX13_start 6 = .ok (.iastore, 1) := by decide +kernel
theorem dX13_start_7 : decode cX13_start 7 = .ok (.aload_n 0, 1) := by decide +kernel
theorem dX13_start_8 : decode cX13_start 8 = .ok (.getfield 271, 3) := by decide +kernel
theorem dX13_start_11 : decode cX13_start 11 = .ok (.iload_n 1, 1) := by decide +kernel
theorem dX13_start_12 : decode cX13_start 12 = .ok (.iload_n 3, 1) := by decide +kernel
theorem dX13_start_13 : decode cX13_start 13 = .ok (.iastore, 1) := by decide +kernel
theorem dX13_start_14 : decode cX13_start 14 = .ok (.aload_n 0, 1) := by decide +kernel
theorem dX13_start_15 : decode cX13_start 15 = .ok (.getfield 274, 3) := by decide +kernel
theorem dX13_start_18 : decode cX13_start 18 = .ok (.aload_n 0, 1) := by decide +kernel
theorem dX13_start_19 : decode cX13_start 19 = .ok (.getfield 218, 3) := by decide +kernel
theorem dX13_start_22 : decode cX13_start 22 = .ok (.iload_n 1, 1) := by decide +kernel
theorem dX13_start_23 : decode cX13_start 23 = .ok (.iaload, 1) := by decide +kernel
theorem dX13_start_24 : decode cX13_start 24 = .ok (.iload_n 2, 1) := by decide +kernel
theorem dX13_start_25 : decode cX13_start 25 = .ok (.iload_n 3, 1) := by decide +kernel
theorem dX13_start_26 : decode cX13_start 26 = .ok (.iadd, 1) := by decide +kernel
theorem dX13_start_27 : decode cX13_start 27 = .ok (.iastore, 1) := by decide +kernel
theorem dX13_start_28 : decode cX13_start 28 = .ok (.aload_n 0, 1) := by decide +kernel
theorem dX13_start_29 : decode cX13_start 29 = .ok (.getfield 280, 3) := by decide +kernel
theorem dX13_start_32 : decode cX13_start 32 = .ok (.aload_n 0, 1) := by decide +kernel
theorem dX13_start_33 : decode cX13_start 33 = .ok (.getfield 215, 3) := by decide +kernel
theorem dX13_start_36 : decode cX13_start 36 = .ok (.iload_n 1, 1) := by decide +kernel
theorem dX13_start_37 : decode cX13_start 37 = .ok (.iaload, 1) := by decide +kernel
theorem dX13_start_38 : decode cX13_start 38 = .ok (.iload_n 2, 1) := by decide +kernel
theorem dX13_start_39 : decode cX13_start 39 = .ok (.iload_n 3, 1) := by decide +kernel
theorem dX13_start_40 : decode cX13_start 40 = .ok (.iadd, 1) := by decide +kernel
theorem dX13_start_41 : decode cX13_start 41 = .ok (.iastore, 1) := by decide +kernel
theorem dX13_start_42 : decode cX13_start 42 = .ok (.aload_n 0, 1) := by decide +kernel
theorem dX13_start_43 : decode cX13_start 43 = .ok (.getfield 283, 3) := by decide +kernel
theorem dX13_start_46 : decode cX13_start 46 = .ok (.aload_n 0, 1) := by decide +kernel
theorem dX13_start_47 : decode cX13_start 47 = .ok (.getfield 215, 3) := by decide +kernel
theorem dX13_start_50 : decode cX13_start 50 = .ok (.iload_n 1, 1) := by decide +kernel
theorem dX13_start_51 : decode cX13_start 51 = .ok (.iaload, 1) := by decide +kernel
theorem dX13_start_52 : decode cX13_start 52 = .ok (.aload_n 0, 1) := by decide +kernel
theorem dX13_start_53 : decode cX13_start 53 = .ok (.getfield 218, 3) := by decide +kernel
theorem dX13_start_56 : decode cX13_start 56 = .ok (.iload_n 1, 1) := by decide +kernel
theorem dX13_start_57 : decode cX13_start 57 = .ok (.iaload, 1) := by decide +kernel
theorem dX13_start_58 : decode cX13_start 58 = .ok (.iastore, 1) := by decide +kernel
theorem dX13_start_59 : decode cX13_start 59 = .ok (.aload_n 0, 1) := by decide +kernel
theorem dX13_start_60 : decode cX13_start 60 = .ok (.getfield 200, 3) := by decide +kernel
theorem dX13_start_63 : decode cX13_start 63 = .ok (.aload_n 0, 1) := by decide +kernel
theorem dX13_start_64 : decode cX13_start 64 = .ok (.getfield 215, 3) := by decide +kernel
theorem dX13_start_67 : decode cX13_start 67 = .ok (.iload_n 1, 1) := by decide +kernel
theorem dX13_start_68 : decode cX13_start 68 = .ok (.iaload, 1) := by decide +kernel
theorem dX13_start_69 : decode cX13_start 69 = .ok (.iaload, 1) := by decide +kernel
theorem dX13_start_70 : decode cX13_start 70 = .ok (.ifCond .le 22, 3) := by decide +kernel
theorem dX13_start_73 : decode cX13_start 73 = .ok (.aload_n 0, 1) := by decide +kernel
theorem dX13_start_74 : decode cX13_start 74 = .ok (.getfield 286, 3) := by decide +kernel
theorem dX13_start_77 : decode cX13_start 77 = .ok (.aload_n 0, 1) := by decide +kernel
theorem dX13_start_78 : decode cX13_start 78 = .ok (.getfield 200, 3) := by decide +kernel
theorem dX13_start_81 : decode cX13_start 81 = .ok (.aload_n 0, 1) := by decide +kernel
theorem dX13_start_82 : decode cX13_start 82 = .ok (.getfield 215, 3) := by decide +kernel
theorem dX13_start_85 : decode cX13_start 85 = .ok (.iload_n 1, 1) := by decide +kernel
theorem dX13_start_86 : decode cX13_start 86 = .ok (.iaload, 1) := by decide +kernel
theorem dX13_start_87 : decode cX13_start 87 = .ok (.iaload, 1) := by decide +kernel
theorem dX13_start_88 : decode cX13_start 88 = .ok (.iload_n 2, 1) := by decide +kernel
theorem dX13_start_89 : decode cX13_start 89 = .ok (.iload_n 3, 1) := by decide +kernel
theorem dX13_start_90 : decode cX13_start 90 = .ok (.iadd, 1) := by decide +kernel
theorem dX13_start_91 : decode cX13_start 91 = .ok (.iastore, 1) := by decide +kernel
theorem dX13_start_92 : decode cX13_start 92 = .ok (.return_, 1) := by decide +kernel
noncomputable def tX13_start_62 : qT (Unit × qM) :=
  eV
noncomputable def wX13_start_62 (k : qM → Option (Unit × qM)) : qT (Unit × qM) := fun lo st m => match lo, st with
  | [_, _, _, _], [] => k m
  | _, _ => none
set_option maxRecDepth 20000 in
theorem sX13_start_62 {C : qCx} {w : qWp} (h : qOk C w RX13 cX13_start 4 0 155 155) (hm : qMt C none) (hx : qNx C) : qSnd C w 4 155 (qQf C w 155 155 jV) qfin 155 92 (tX13_start_62) :=
  zV (pc := 92) h hm (Nat.le_refl _) dX13_start_92
set_option maxRecDepth 20000 in
theorem lX13_start_62 (m : qM) : tX13_start_62 [none, none, none, none] [] m = fX13_start_62 m := rfl
theorem bX13_start_62 {C : qCx} {w : qWp} (h : qOk C w RX13 cX13_start 4 0 155 155) (hm : qMt C none) (hx : qNx C) : qSnd C w 4 155 (qQf C w 155 155 jV) qfin 155 92 (wX13_start_62 fX13_start_62) :=
  qSnd_of (fun lo st m x hr0 => by
    unfold wX13_start_62 at hr0
    split at hr0
    · exact ⟨_, (qsub_n (qsub_n (qsub_n (qsub_n qsub_nil)))), (lX13_start_62 _).trans hr0⟩
    · cases hr0) (sX13_start_62 h hm hx)
noncomputable def tX13_start_0 (j62 : qT (Unit × qM)) : qT (Unit × qM) :=
  oLa 0 (oGf 98 60 141 (oLi 1 (oLi 2 (oWi 141 40 (oLa 0 (oGf 98 61 142 (oLi 1 (oLi 3 (oWi 142 40 (oLa 0 (oGf 98 62 143 (oLa 0 (oGf 98 35 124 (oLi 1 (oAi 124 40 (oLi 2 (oLi 3 (o2 (· + ·) (oWi 143 10 (oLa 0 (oGf 98 64 145 (oLa 0 (oGf 98 34 123 (oLi 1 (oAi 123 40 (oLi 2 (oLi 3 (o2 (· + ·) (oWi 145 15 (oLa 0 (oGf 98 65 146 (oLa 0 (oGf 98 34 123 (oLi 1 (oAi 123 40 (oLa 0 (oGf 98 35 124 (oLi 1 (oAi 124 40 (oWi 146 15 (oLa 0 (oGf 98 27 118 (oLa 0 (oGf 98 34 123 (oLi 1 (oAi 123 40 (oAi 118 15 (oLe (j62) (oLa 0 (oGf 98 66 147 (oLa 0 (oGf 98 27 118 (oLa 0 (oGf 98 34 123 (oLi 1 (oAi 123 40 (oAi 118 15 (oLi 2 (oLi 3 (o2 (· + ·) (oWi 147 4 (j62))))))))))))))))))))))))))))))))))))))))))))))))))))))))))))))
set_option maxRecDepth 20000 in
theorem sX13_start_0 {C : qCx} {w : qWp} (h : qOk C w RX13 cX13_start 4 0 155 155) (hm : qMt C none) (hx : qNx C) {j62 : qT (Unit × qM)} (k62 : qSnd C w 4 155 (qQf C w 155 155 jV) qfin 155 92 j62) : qSnd C w 4 155 (qQf C w 155 155 jV) qfin 155 0 (tX13_start_0 j62) :=
  cLa (pc := 0) h dX13_start_0 rfl (gGf (pc := 1) h dX13_start_1 ff_X13_268_98 (Nat.le_of_ble_eq_true rfl) (Nat.le_of_ble_eq_true rfl) rfl (cLi (pc := 4) h dX13_start_4 rfl (cLi (pc := 5) h dX13_start_5 rfl (rWi (pc := 6) h dX13_start_6 rfl (Nat.le_of_ble_eq_true rfl) (Nat.le_of_ble_eq_true rfl) (cLa (pc := 7) h dX13_start_7 rfl (gGf (pc := 8) h dX13_start_8 ff_X13_271_98 (Nat.le_of_ble_eq_true rfl) (Nat.le_of_ble_eq_true rfl) rfl (cLi (pc := 11) h dX13_start_11 rfl (cLi (pc := 12) h dX13_start_12 rfl (rWi (pc := 13) h dX13_start_13 rfl (Nat.le_of_ble_eq_true rfl) (Nat.le_of_ble_eq_true rfl) (cLa (pc := 14) h dX13_start_14 rfl (gGf (pc := 15) h dX13_start_15 ff_X13_274_98 (Nat.le_of_ble_eq_true rfl) (Nat.le_of_ble_eq_true rfl) rfl (cLa (pc := 18) h dX13_start_18 rfl (gGf (pc := 19) h dX13_start_19 ff_X13_218_98 (Nat.le_of_ble_eq_true rfl) (Nat.le_of_ble_eq_true rfl) rfl (cLi (pc := 22) h dX13_start_22 rfl (rAi (pc := 23) h dX13_start_23 rfl (Nat.le_of_ble_eq_true rfl) (Nat.le_of_ble_eq_true rfl) (cLi (pc := 24) h dX13_start_24 rfl (cLi (pc := 25) h dX13_start_25 rfl (aAdd (pc := 26) h dX13_start_26 (rWi (pc := 27) h dX13_start_27 rfl (Nat.le_of_ble_eq_true rfl) (Nat.le_of_ble_eq_true rfl) (cLa (pc := 28) h dX13_start_28 rfl (gGf (pc := 29) h dX13_start_29 ff_X13_280_98 (Nat.le_of_ble_eq_true rfl) (Nat.le_of_ble_eq_true rfl) rfl (cLa (pc := 32) h dX13_start_32 rfl (gGf (pc := 33) h dX13_start_33 ff_X13_215_98 (Nat.le_of_ble_eq_true rfl) (Nat.le_of_ble_eq_true rfl) rfl (cLi (pc := 36) h dX13_start_36 rfl (rAi (pc := 37) h dX13_start_37 rfl (Nat.le_of_ble_eq_true rfl) (Nat.le_of_ble_eq_true rfl) (cLi (pc := 38) h dX13_start_38 rfl (cLi (pc := 39) h dX13_start_39 rfl (aAdd (pc := 40) h dX13_start_40 (rWi (pc := 41) h dX13_start_41 rfl (Nat.le_of_ble_eq_true rfl) (Nat.le_of_ble_eq_true rfl) (cLa (pc := 42) h dX13_start_42 rfl (gGf (pc := 43) h dX13_start_43 ff_X13_283_98 (Nat.le_of_ble_eq_true rfl) (Nat.le_of_ble_eq_true rfl) rfl (cLa (pc := 46) h dX13_start_46 rfl (gGf (pc := 47) h dX13_start_47 ff_X13_215_98 (Nat.le_of_ble_eq_true rfl) (Nat.le_of_ble_eq_true rfl) rfl (cLi (pc := 50) h dX13_start_50 rfl (rAi (pc := 51) h dX13_start_51 rfl (Nat.le_of_ble_eq_true rfl) (Nat.le_of_ble_eq_true rfl) (cLa (pc := 52) h dX13_start_52 rfl (gGf (pc := 53) h dX13_start_53 ff_X13_218_98 (Nat.le_of_ble_eq_true rfl) (Nat.le_of_ble_eq_true rfl) rfl (cLi (pc := 56) h dX13_start_56 rfl (rAi (pc := 57) h dX13_start_57 rfl (Nat.le_of_ble_eq_true rfl) (Nat.le_of_ble_eq_true rfl) (rWi (pc := 58) h dX13_start_58 rfl (Nat.le_of_ble_eq_true rfl) (Nat.le_of_ble_eq_true rfl) (cLa (pc := 59) h dX13_start_59 rfl (gGf (pc := 60) h dX13_start_60 ff_X13_200_98 (Nat.le_of_ble_eq_true rfl) (Nat.le_of_ble_eq_true rfl) rfl (cLa (pc := 63) h dX13_start_63 rfl (gGf (pc := 64) h dX13_start_64 ff_X13_215_98 (Nat.le_of_ble_eq_true rfl) (Nat.le_of_ble_eq_true rfl) rfl (cLi (pc := 67) h dX13_start_67 rfl (rAi (pc := 68) h dX13_start_68 rfl (Nat.le_of_ble_eq_true rfl) (Nat.le_of_ble_eq_true rfl) (rAi (pc := 69) h dX13_start_69 rfl (Nat.le_of_ble_eq_true rfl) (Nat.le_of_ble_eq_true rfl) (jLe (pc := 70) h dX13_start_70 rfl (k62) (cLa (pc := 73) h dX13_start_73 rfl (gGf (pc := 74) h dX13_start_74 ff_X13_286_98 (Nat.le_of_ble_eq_true rfl) (Nat.le_of_ble_eq_true rfl) rfl (cLa (pc := 77) h dX13_start_77 rfl (gGf (pc := 78) h dX13_start_78 ff_X13_200_98 (Nat.le_of_ble_eq_true rfl) (Nat.le_of_ble_eq_true rfl) rfl (cLa (pc := 81) h dX13_start_81 rfl (gGf (pc := 82) h dX13_start_82 ff_X13_215_98 (Nat.le_of_ble_eq_true rfl) (Nat.le_of_ble_eq_true rfl) rfl (cLi (pc := 85) h dX13_start_85 rfl (rAi (pc := 86) h dX13_start_86 rfl (Nat.le_of_ble_eq_true rfl) (Nat.le_of_ble_eq_true rfl) (rAi (pc := 87) h dX13_start_87 rfl (Nat.le_of_ble_eq_true rfl) (Nat.le_of_ble_eq_true rfl) (cLi (pc := 88) h dX13_start_88 rfl (cLi (pc := 89) h dX13_start_89 rfl (aAdd (pc := 90) h dX13_start_90 (rWi (pc := 91) h dX13_start_91 rfl (Nat.le_of_ble_eq_true rfl) (Nat.le_of_ble_eq_true rfl) (k62))))))))))))))))))))))))))))))))))))))))))))))))))))))))))))))
set_option maxRecDepth 20000 in
theorem lX13_start_0 (a1 : Int32) (a2 : Int32) (a3 : Int32) (m : qM) : tX13_start_0 (wX13_start_62 fX13_start_62) [some (.ref 98), some (.int a1), some (.int a2), some (.int a3)] [] m = fX13_start_0 a1 a2 a3 m := rfl
noncomputable def GX13_start : qG Unit := fun av m => match av with
  | [.ref 98, .int a1, .int a2, .int a3] => fX13_start a1 a2 a3 m
  | _ => none
theorem spX13_start : qSpV yX13_start (.code yX13_start cX13_start 4 none) 0 qfin 155 155 1 GX13_start := by
  intro av m m' hG
  unfold GX13_start at hG
  split at hG
  · rename_i a1 a2 a3
    rw [fX13_start_d] at hG
    exact ⟨qmeet (J := jV) (r := ((), m')) (av := [.ref 98, .int a1, .int a2, .int a3]) (by decide +kernel) (Nat.le_of_ble_eq_true rfl) (fun C w h hm hx hn => sX13_start_0 h hm hx (bX13_start_62 h hm hx)) ((lX13_start_0 _ _ _ _).trans hG) (Nat.le_of_ble_eq_true rfl), Or.inl ⟨98, _, 13, _, _, rfl, by decide, rfl, qCk_13, rfl⟩⟩
  · cases hG

