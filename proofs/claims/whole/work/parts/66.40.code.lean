/-! methods (by program): X13_does, X13_look, X13_goThrough, X13_meeting, X13_off, X13_nextOf -/
theorem im_X13_start : Jvm.Cond.instanceMethod yX13_start ∈ qTw := qm9 (List.mem_of_getElem? (i := 100) (by decide +kernel)) (by decide +kernel)
theorem se_X13_start : Jvm.Cond.selects yX13_start.cls yX13_start yX13_start ∈ qTw := List.mem_filter.mpr ⟨List.mem_append_left _ (List.mem_of_getElem? (i := 83) (by decide +kernel)), rfl⟩
theorem co_X13_start : Jvm.Cond.code yX13_start cX13_start 4 none ∈ qTw := qm9 (List.mem_of_getElem? (i := 101) (by decide +kernel)) (by decide +kernel)
theorem yk_X13_start : qYk yX13_start 3 := ⟨⟨by decide +kernel, by decide +kernel⟩, by decide +kernel⟩
theorem ml_X13_500 : Jvm.Cond.methodLink RX13 500 yX13_start ∈ qTw := qm9 (List.mem_of_getElem? (i := 98) (by decide +kernel)) (by decide +kernel)
theorem kd_X13_500 {C : qCx} {w : qWp} {cc : ByteArray} {nL dp n0 n1 pc : Nat} (h : qOk C w RX13 cc nL dp n0 n1) (d : decode cc pc = .ok (.invokevirtual 500, 3)) : qCallOk C w nL dp n0 n1 pc 4 1 yX13_start (.code yX13_start cX13_start 4 none) := kindV h d ml_X13_500 im_X13_start se_X13_start in_ParentEveModel co_X13_start yk_X13_start (by decide)
theorem im_X13_frontOf : Jvm.Cond.instanceMethod yX13_frontOf ∈ qTw := qm9 (List.mem_of_getElem? (i := 72) (by decide +kernel)) (by decide +kernel)
theorem se_X13_frontOf : Jvm.Cond.selects yX13_frontOf.cls yX13_frontOf yX13_frontOf ∈ qTw := List.mem_filter.mpr ⟨List.mem_append_left _ (List.mem_of_getElem? (i := 76) (by decide +kernel)), rfl⟩
theorem co_X13_frontOf : Jvm.Cond.code yX13_frontOf cX13_frontOf 5 (some .int) ∈ qTw := qm9 (List.mem_of_getElem? (i := 73) (by decide +kernel)) (by decide +kernel)
theorem yk_X13_frontOf : qYk yX13_frontOf 2 := ⟨⟨by decide +kernel, by decide +kernel⟩, by decide +kernel⟩
theorem ml_X13_490 : Jvm.Cond.methodLink RX13 490 yX13_frontOf ∈ qTw := qm9 (List.mem_of_getElem? (i := 70) (by decide +kernel)) (by decide +kernel)
theorem kd_X13_490 {C : qCx} {w : qWp} {cc : ByteArray} {nL dp n0 n1 pc : Nat} (h : qOk C w RX13 cc nL dp n0 n1) (d : decode cc pc = .ok (.invokevirtual 490, 3)) : qCallOk C w nL dp n0 n1 pc 3 1 yX13_frontOf (.code yX13_frontOf cX13_frontOf 5 (some .int)) := kindV h d ml_X13_490 im_X13_frontOf se_X13_frontOf in_ParentEveModel co_X13_frontOf yk_X13_frontOf (by decide)
theorem mf_X13_277 : Jvm.Cond.fieldLink RX13 277 (qTb 13 63).1 (qTb 13 63).2.1 (qTb 13 63).2.2.1 ∈ qTw := qm7 (List.mem_of_getElem? (i := 41) (by decide +kernel)) (by decide +kernel)
theorem ff_X13_277_98 : qFd RX13 277 98 13 63 3 := ⟨mf_X13_277, rfl, by decide, rfl⟩
theorem dX13_does_0 : decode cX13_does 0 = .ok (.aload_n 0, 1) := by decide +kernel
theorem dX13_does_1 : decode cX13_does 1 = .ok (.getfield 163, 3) := by decide +kernel
theorem dX13_does_4 : decode cX13_does 4 = .ok (.iload_n 1, 1) := by decide +kernel
theorem dX13_does_5 : decode cX13_does 5 = .ok (.iaload, 1) := by decide +kernel
theorem dX13_does_6 : decode cX13_does 6 = .ok (.tableswitch 220 0 5 #[38, 48, 220, 134, 79, 112], 38) := by decide +kernel
theorem dX13_does_44 : decode cX13_does 44 = .ok (.aload_n 0, 1) := by decide +kernel
theorem dX13_does_45 : decode cX13_does 45 = .ok (.getfield 292, 3) := by decide +kernel
theorem dX13_does_48 : decode cX13_does 48 = .ok (.iload_n 2, 1) := by decide +kernel
theorem dX13_does_49 : decode cX13_does 49 = .ok (.iconst 1, 1) := by decide +kernel
theorem dX13_does_50 : decode cX13_does 50 = .ok (.bastore, 1) := by decide +kernel
theorem dX13_does_51 : decode cX13_does 51 = .ok (.goto 175, 3) := by decide +kernel
theorem dX13_does_54 : decode cX13_does 54 = .ok (.aload_n 0, 1) := by decide +kernel
theorem dX13_does_55 : decode cX13_does 55 = .ok (.iload_n 2, 1) := by decide +kernel
theorem dX13_does_56 : decode cX13_does 56 = .ok (.iload_n 3, 1) := by decide +kernel
theorem dX13_does_57 : decode cX13_does 57 = .ok (.invokevirtual 484, 3) := by decide +kernel
theorem dX13_does_60 : decode cX13_does 60 = .ok (.ifCond .eq 166, 3) := by decide +kernel
theorem dX13_does_63 : decode cX13_does 63 = .ok (.aload_n 0, 1) := by decide +kernel
theorem dX13_does_64 : decode cX13_does 64 = .ok (.iload_n 2, 1) := by decide +kernel
theorem dX13_does_65 : decode cX13_does 65 = .ok (.iload_n 3, 1) := by decide +kernel
theorem dX13_does_66 : decode cX13_does 66 = .ok (.aload_n 0, 1) := by decide +kernel
theorem dX13_does_67 : decode cX13_does 67 = .ok (.getfield 174, 3) := by decide +kernel
theorem dX13_does_70 : decode cX13_does 70 = .ok (.iconst 0, 1) := by decide +kernel
theorem dX13_does_71 : decode cX13_does 71 = .ok (.iaload, 1) := by decide +kernel
theorem dX13_does_72 : decode cX13_does 72 = .ok (.aload_n 0, 1) := by decide +kernel
theorem dX13_does_73 : decode cX13_does 73 = .ok (.getfield 262, 3) := by decide +kernel
theorem dX13_does_76 : decode cX13_does 76 = .ok (.iload_n 2, 1) := by decide +kernel
theorem dX13_does_77 : decode cX13_does 77 = .ok (.iaload, 1) := by decide +kernel
theorem dX13_does_78 : decode cX13_does 78 = .ok (.iadd, 1) := by decide +kernel
theorem dX13_does_79 : decode cX13_does 79 = .ok (.invokevirtual 500, 3) := by decide +kernel
theorem dX13_does_82 : decode cX13_does 82 = .ok (.goto 144, 3) := by decide +kernel
theorem dX13_does_85 : decode cX13_does 85 = .ok (.aload_n 0, 1) := by decide +kernel
theorem dX13_does_86 : decode cX13_does 86 = .ok (.iload_n 2, 1) := by decide +kernel
theorem dX13_does_87 : decode cX13_does 87 = .ok (.iload_n 3, 1) := by decide +kernel
theorem dX13_does_88 : decode cX13_does 88 = .ok (.invokevirtual 484, 3) := by decide +kernel
theorem dX13_does_91 : decode cX13_does 91 = .ok (.ifCond .eq 135, 3) := by decide +kernel
theorem dX13_does_94 : decode cX13_does 94 = .ok (.aload_n 0, 1) := by decide +kernel
theorem dX13_does_95 : decode cX13_does 95 = .ok (.iload_n 2, 1) := by decide +kernel
theorem dX13_does_96 : decode cX13_does 96 = .ok (.iload_n 3, 1) := by decide +kernel
theorem dX13_does_97 : decode cX13_does 97 = .ok (.aload_n 0, 1) := by decide +kernel
theorem dX13_does_98 : decode cX13_does 98 = .ok (.getfield 174, 3) := by decide +kernel
theorem dX13_does_101 : decode cX13_does 101 = .ok (.iconst 0, 1) := by decide +kernel
theorem dX13_does_102 : decode cX13_does 102 = .ok (.iaload, 1) := by decide +kernel
theorem dX13_does_103 : decode cX13_does 103 = .ok (.aload_n 0, 1) := by decide +kernel
theorem dX13_does_104 : decode cX13_does 104 = .ok (.getfield 166, 3) := by decide +kernel
theorem dX13_does_107 : decode cX13_does 107 = .ok (.iload_n 1, 1) := by decide +kernel
theorem dX13_does_108 : decode cX13_does 108 = .ok (.iaload, 1) := by decide +kernel
theorem dX13_does_109 : decode cX13_does 109 = .ok (.invokestatic 382, 3) := by decide +kernel
theorem dX13_does_112 : decode cX13_does 112 = .ok (.invokevirtual 500, 3) := by decide +kernel
theorem dX13_does_115 : decode cX13_does 115 = .ok (.goto 111, 3) := by decide +kernel
theorem dX13_does_118 : decode cX13_does 118 = .ok (.aload_n 0, 1) := by decide +kernel
theorem dX13_does_119 : decode cX13_does 119 = .ok (.getfield 277, 3) := by decide +kernel
theorem dX13_does_122 : decode cX13_does 122 = .ok (.aload_n 0, 1) := by decide +kernel
theorem dX13_does_123 : decode cX13_does 123 = .ok (.getfield 218, 3) := by decide +kernel
theorem dX13_does_126 : decode cX13_does 126 = .ok (.iload_n 2, 1) := by decide +kernel
theorem dX13_does_127 : decode cX13_does 127 = .ok (.iaload, 1) := by decide +kernel
theorem dX13_does_128 : decode cX13_does 128 = .ok (.iload_n 3, 1) := by decide +kernel
theorem dX13_does_129 : decode cX13_does 129 = .ok (.aload_n 0, 1) := by decide +kernel
theorem dX13_does_130 : decode cX13_does 130 = .ok (.getfield 166, 3) := by decide +kernel
theorem dX13_does_133 : decode cX13_does 133 = .ok (.iload_n 1, 1) := by decide +kernel
theorem dX13_does_134 : decode cX13_does 134 = .ok (.iaload, 1) := by decide +kernel
theorem dX13_does_135 : decode cX13_does 135 = .ok (.iadd, 1) := by decide +kernel
theorem dX13_does_136 : decode cX13_does 136 = .ok (.iastore, 1) := by decide +kernel
theorem dX13_does_137 : decode cX13_does 137 = .ok (.goto 89, 3) := by decide +kernel
theorem dX13_does_140 : decode cX13_does 140 = .ok (.aload_n 0, 1) := by decide +kernel
theorem dX13_does_141 : decode cX13_does 141 = .ok (.aload_n 0, 1) := by decide +kernel
theorem dX13_does_142 : decode cX13_does 142 = .ok (.getfield 218, 3) := by decide +kernel
theorem dX13_does_145 : decode cX13_does 145 = .ok (.iload_n 2, 1) := by decide +kernel
theorem dX13_does_146 : decode cX13_does 146 = .ok (.iaload, 1) := by decide +kernel
theorem dX13_does_147 : decode cX13_does 147 = .ok (.aload_n 0, 1) := by decide +kernel
theorem dX13_does_148 : decode cX13_does 148 = .ok (.getfield 221, 3) := by decide +kernel
theorem dX13_does_151 : decode cX13_does 151 = .ok (.iload_n 2, 1) := by decide +kernel
theorem dX13_does_152 : decode cX13_does 152 = .ok (.iaload, 1) := by decide +kernel
theorem dX13_does_153 : decode cX13_does 153 = .ok (.invokevirtual 490, 3) := by decide +kernel
theorem dX13_does_156 : decode cX13_does 156 = .ok (.istore 4, 2) := by decide +kernel
theorem dX13_does_158 : decode cX13_does 158 = .ok (.iload 4, 2) := by decide +kernel
theorem dX13_does_160 : decode cX13_does 160 = .ok (.iconst (-1), 1) := by decide +kernel
theorem dX13_does_161 : decode cX13_does 161 = .ok (.if_icmp .eq 35, 3) := by decide +kernel
theorem dX13_does_164 : decode cX13_does 164 = .ok (.aload_n 0, 1) := by decide +kernel
theorem dX13_does_165 : decode cX13_does 165 = .ok (.iload 4, 2) := by decide +kernel
theorem dX13_does_167 : decode cX13_does 167 = .ok (.iload_n 3, 1) := by decide +kernel
theorem dX13_does_168 : decode cX13_does 168 = .ok (.invokevirtual 484, 3) := by decide +kernel
theorem dX13_does_171 : decode cX13_does 171 = .ok (.ifCond .ne 25, 3) := by decide +kernel
theorem dX13_does_174 : decode cX13_does 174 = .ok (.aload_n 0, 1) := by decide +kernel
theorem dX13_does_175 : decode cX13_does 175 = .ok (.aload_n 0, 1) := by decide +kernel
theorem dX13_does_176 : decode cX13_does 176 = .ok (.getfield 218, 3) := by decide +kernel
theorem dX13_does_179 : decode cX13_does 179 = .ok (.iload_n 2, 1) := by decide +kernel
theorem dX13_does_180 : decode cX13_does 180 = .ok (.iaload, 1) := by decide +kernel
theorem dX13_does_181 : decode cX13_does 181 = .ok (.aload_n 0, 1) := by decide +kernel
theorem dX13_does_182 : decode cX13_does 182 = .ok (.getfield 221, 3) := by decide +kernel
theorem dX13_does_185 : decode cX13_does 185 = .ok (.iload 4, 2) := by decide +kernel
theorem dX13_does_187 : decode cX13_does 187 = .ok (.iaload, 1) := by decide +kernel
theorem dX13_does_188 : decode cX13_does 188 = .ok (.invokevirtual 490, 3) := by decide +kernel
theorem dX13_does_191 : decode cX13_does 191 = .ok (.istore 4, 2) := by decide +kernel
theorem dX13_does_193 : decode cX13_does 193 = .ok (.goto (-35), 3) := by decide +kernel
theorem dX13_does_196 : decode cX13_does 196 = .ok (.iload 4, 2) := by decide +kernel
theorem dX13_does_198 : decode cX13_does 198 = .ok (.iconst (-1), 1) := by decide +kernel
theorem dX13_does_199 : decode cX13_does 199 = .ok (.if_icmp .eq 27, 3) := by decide +kernel
theorem dX13_does_202 : decode cX13_does 202 = .ok (.aload_n 0, 1) := by decide +kernel
theorem dX13_does_203 : decode cX13_does 203 = .ok (.iload 4, 2) := by decide +kernel
theorem dX13_does_205 : decode cX13_does 205 = .ok (.iload_n 3, 1) := by decide +kernel
theorem dX13_does_206 : decode cX13_does 206 = .ok (.aload_n 0, 1) := by decide +kernel
theorem dX13_does_207 : decode cX13_does 207 = .ok (.getfield 174, 3) := by decide +kernel
theorem dX13_does_210 : decode cX13_does 210 = .ok (.iconst 0, 1) := by decide +kernel
theorem dX13_does_211 : decode cX13_does 211 = .ok (.iaload, 1) := by decide +kernel
theorem dX13_does_212 : decode cX13_does 212 = .ok (.aload_n 0, 1) := by decide +kernel
theorem dX13_does_213 : decode cX13_does 213 = .ok (.getfield 262, 3) := by decide +kernel
theorem dX13_does_216 : decode cX13_does 216 = .ok (.iload 4, 2) := by decide +kernel
theorem dX13_does_218 : decode cX13_does 218 = .ok (.iaload, 1) := by decide +kernel
theorem dX13_does_219 : decode cX13_does 219 = .ok (.iadd, 1) := by decide +kernel
theorem dX13_does_220 : decode cX13_does 220 = .ok (.invokevirtual 500, 3) := by decide +kernel
theorem dX13_does_223 : decode cX13_does 223 = .ok (.goto 3, 3) := by decide +kernel
theorem dX13_does_226 : decode cX13_does 226 = .ok (.return_, 1) := by decide +kernel
noncomputable def tX13_does_111 : qT (Unit × qM) :=
  eV
noncomputable def wX13_does_111 (k : qM → Option (Unit × qM)) : qT (Unit × qM) := fun lo st m => match lo, st with
  | [_, _, _, _, _], [] => k m
  | _, _ => none
set_option maxRecDepth 20000 in
theorem sX13_does_111 {C : qCx} {w : qWp} (h : qOk C w RX13 cX13_does 5 3 155 155) (hm : qMt C none) (hx : qNx C) : qSnd C w 5 155 (qQf C w 155 155 jV) qfin 155 226 (tX13_does_111) :=
  zV (pc := 226) h hm (Nat.le_refl _) dX13_does_226
set_option maxRecDepth 20000 in
theorem lX13_does_111 (m : qM) : tX13_does_111 [none, none, none, none, none] [] m = fX13_does_111 m := rfl
theorem bX13_does_111 {C : qCx} {w : qWp} (h : qOk C w RX13 cX13_does 5 3 155 155) (hm : qMt C none) (hx : qNx C) : qSnd C w 5 155 (qQf C w 155 155 jV) qfin 155 226 (wX13_does_111 fX13_does_111) :=
  qSnd_of (fun lo st m x hr0 => by
    unfold wX13_does_111 at hr0
    split at hr0
    · exact ⟨_, (qsub_n (qsub_n (qsub_n (qsub_n (qsub_n qsub_nil))))), (lX13_does_111 _).trans hr0⟩
    · cases hr0) (sX13_does_111 h hm hx)
noncomputable def tX13_does_74 (j94 : qT (Unit × qM)) (j74 : qT (Unit × qM)) : qT (Unit × qM) :=
  oLi 4 (oC (.int (-1 : Int32)) (oCEq (j94) (oLa 0 (oLi 4 (oLi 3 (oCi GX13_isHere 3 (oEq (oLa 0 (oLa 0 (oGf 98 35 124 (oLi 2 (oAi 124 40 (oLa 0 (oGf 98 36 125 (oLi 4 (oAi 125 40 (oCi GX13_frontOf 3 (oSi 4 (j74)))))))))))) (j94))))))))
noncomputable def wX13_does_74 (k : Int32 → Int32 → Int32 → qM → Option (Unit × qM)) : qT (Unit × qM) := fun lo st m => match lo, st with
  | [some (.ref 98), _, some (.int a2), some (.int a3), some (.int a4)], [] => k a2 a3 a4 m
  | _, _ => none
noncomputable def wX13_does_94 (k : Int32 → Int32 → qM → Option (Unit × qM)) : qT (Unit × qM) := fun lo st m => match lo, st with
  | [some (.ref 98), _, _, some (.int a3), some (.int a4)], [] => k a3 a4 m
  | _, _ => none
set_option maxRecDepth 20000 in
theorem sX13_does_74 {C : qCx} {w : qWp} (h : qOk C w RX13 cX13_does 5 3 155 155) (hm : qMt C none) (hx : qNx C) {j94 : qT (Unit × qM)} {j74 : qT (Unit × qM)} (k94 : qSnd C w 5 155 (qQf C w 155 155 jV) qfin 155 196 j94) (k74 : qSnd C w 5 155 (qQf C w 155 155 jV) qfin 155 158 j74) : qSnd C w 5 155 (qQf C w 155 155 jV) qfin 155 158 (tX13_does_74 j94 j74) :=
  cLI (pc := 158) h dX13_does_158 (cC (pc := 160) h dX13_does_160 rfl (jCEq (pc := 161) h dX13_does_161 rfl (k94) (cLa (pc := 164) h dX13_does_164 rfl (cLI (pc := 165) h dX13_does_165 (cLi (pc := 167) h dX13_does_167 rfl (kCi (pc := 168) h (kd_X13_484 h dX13_does_168) spX13_isHere (by decide) (by decide) (by decide) (by decide) (jNe (pc := 171) h dX13_does_171 rfl (k94) (cLa (pc := 174) h dX13_does_174 rfl (cLa (pc := 175) h dX13_does_175 rfl (gGf (pc := 176) h dX13_does_176 ff_X13_218_98 (Nat.le_of_ble_eq_true rfl) (Nat.le_of_ble_eq_true rfl) rfl (cLi (pc := 179) h dX13_does_179 rfl (rAi (pc := 180) h dX13_does_180 rfl (Nat.le_of_ble_eq_true rfl) (Nat.le_of_ble_eq_true rfl) (cLa (pc := 181) h dX13_does_181 rfl (gGf (pc := 182) h dX13_does_182 ff_X13_221_98 (Nat.le_of_ble_eq_true rfl) (Nat.le_of_ble_eq_true rfl) rfl (cLI (pc := 185) h dX13_does_185 (rAi (pc := 187) h dX13_does_187 rfl (Nat.le_of_ble_eq_true rfl) (Nat.le_of_ble_eq_true rfl) (kCi (pc := 188) h (kd_X13_490 h dX13_does_188) spX13_frontOf (by decide) (by decide) (by decide) (by decide) (cSI (pc := 191) h dX13_does_191 (jGo (pc := 193) h dX13_does_193 rfl (k74))))))))))))))))))))
set_option maxRecDepth 20000 in
theorem lX13_does_74 (k94 : Int32 → Int32 → qM → Option (Unit × qM)) (n : Nat) (a2 : Int32) (a3 : Int32) (a4 : Int32) (m : qM) : tX13_does_74 (wX13_does_94 k94) (wX13_does_74 ((fX13_does_74 k94 n))) [some (.ref 98), none, some (.int a2), some (.int a3), some (.int a4)] [] m = fX13_does_74 k94 (n + 1) a2 a3 a4 m := rfl
theorem bX13_does_74 {C : qCx} {w : qWp} (h : qOk C w RX13 cX13_does 5 3 155 155) (hm : qMt C none) (hx : qNx C) {k94 : Int32 → Int32 → qM → Option (Unit × qM)} (h94 : qSnd C w 5 155 (qQf C w 155 155 jV) qfin 155 196 (wX13_does_94 k94)) : ∀ n : Nat, qSnd C w 5 155 (qQf C w 155 155 jV) qfin 155 158 (wX13_does_74 (fX13_does_74 k94 n))
  | 0 => qSnd_of0 (fun lo st m x hr0 => by
    unfold wX13_does_74 at hr0
    split at hr0
    · cases hr0
    · cases hr0)
  | n + 1 => by
    have ih := bX13_does_74 h hm hx h94 n
    exact qSnd_of (fun lo st m x hr0 => by
    unfold wX13_does_74 at hr0
    split at hr0
    · exact ⟨_, (qsub_e (qsub_n (qsub_e (qsub_e (qsub_e qsub_nil))))), (lX13_does_74 _ n _ _ _ _).trans hr0⟩
    · cases hr0) (sX13_does_74 h hm hx h94 ih)
noncomputable def tX13_does_94 (j111 : qT (Unit × qM)) : qT (Unit × qM) :=
  oLi 4 (oC (.int (-1 : Int32)) (oCEq (j111) (oLa 0 (oLi 4 (oLi 3 (oLa 0 (oGf 98 0 99 (oC (.int (0 : Int32)) (oAi 99 6 (oLa 0 (oGf 98 58 139 (oLi 4 (oAi 139 40 (o2 (· + ·) (oCv GX13_start 4 (j111))))))))))))))))
set_option maxRecDepth 20000 in
theorem sX13_does_94 {C : qCx} {w : qWp} (h : qOk C w RX13 cX13_does 5 3 155 155) (hm : qMt C none) (hx : qNx C) {j111 : qT (Unit × qM)} (k111 : qSnd C w 5 155 (qQf C w 155 155 jV) qfin 155 226 j111) : qSnd C w 5 155 (qQf C w 155 155 jV) qfin 155 196 (tX13_does_94 j111) :=
  cLI (pc := 196) h dX13_does_196 (cC (pc := 198) h dX13_does_198 rfl (jCEq (pc := 199) h dX13_does_199 rfl (k111) (cLa (pc := 202) h dX13_does_202 rfl (cLI (pc := 203) h dX13_does_203 (cLi (pc := 205) h dX13_does_205 rfl (cLa (pc := 206) h dX13_does_206 rfl (gGf (pc := 207) h dX13_does_207 ff_X13_174_98 (Nat.le_of_ble_eq_true rfl) (Nat.le_of_ble_eq_true rfl) rfl (cC (pc := 210) h dX13_does_210 rfl (rAi (pc := 211) h dX13_does_211 rfl (Nat.le_of_ble_eq_true rfl) (Nat.le_of_ble_eq_true rfl) (cLa (pc := 212) h dX13_does_212 rfl (gGf (pc := 213) h dX13_does_213 ff_X13_262_98 (Nat.le_of_ble_eq_true rfl) (Nat.le_of_ble_eq_true rfl) rfl (cLI (pc := 216) h dX13_does_216 (rAi (pc := 218) h dX13_does_218 rfl (Nat.le_of_ble_eq_true rfl) (Nat.le_of_ble_eq_true rfl) (aAdd (pc := 219) h dX13_does_219 (kCv (pc := 220) h (kd_X13_500 h dX13_does_220) spX13_start (by decide) (by decide) (by decide) (by decide) (jGo (pc := 223) h dX13_does_223 rfl (k111)))))))))))))))))
set_option maxRecDepth 20000 in
theorem lX13_does_94 (a3 : Int32) (a4 : Int32) (m : qM) : tX13_does_94 (wX13_does_111 fX13_does_111) [some (.ref 98), none, none, some (.int a3), some (.int a4)] [] m = fX13_does_94 a3 a4 m := rfl
theorem bX13_does_94 {C : qCx} {w : qWp} (h : qOk C w RX13 cX13_does 5 3 155 155) (hm : qMt C none) (hx : qNx C) : qSnd C w 5 155 (qQf C w 155 155 jV) qfin 155 196 (wX13_does_94 fX13_does_94) :=
  qSnd_of (fun lo st m x hr0 => by
    unfold wX13_does_94 at hr0
    split at hr0
    · exact ⟨_, (qsub_e (qsub_n (qsub_n (qsub_e (qsub_e qsub_nil))))), (lX13_does_94 _ _ _).trans hr0⟩
    · cases hr0) (sX13_does_94 h hm hx (bX13_does_111 h hm hx))
noncomputable def tX13_does_0 (j111 : qT (Unit × qM)) (j74 : qT (Unit × qM)) : qT (Unit × qM) :=
  oLa 0 (oGf 98 3 102 (oLi 1 (oAi 102 40 (oSw (0 : Int32) (j111) [oLa 0 (oGf 98 68 149 (oLi 2 (oC (.int (1 : Int32)) (oWz 149 40 (j111))))), oLa 0 (oLi 2 (oLi 3 (oCi GX13_isHere 3 (oEq (j111) (oLa 0 (oLi 2 (oLi 3 (oLa 0 (oGf 98 0 99 (oC (.int (0 : Int32)) (oAi 99 6 (oLa 0 (oGf 98 58 139 (oLi 2 (oAi 139 40 (o2 (· + ·) (oCv GX13_start 4 (j111)))))))))))))))))), j111, oLa 0 (oLa 0 (oGf 98 35 124 (oLi 2 (oAi 124 40 (oLa 0 (oGf 98 36 125 (oLi 2 (oAi 125 40 (oCi GX13_frontOf 3 (oSi 4 (j74))))))))))), oLa 0 (oLi 2 (oLi 3 (oCi GX13_isHere 3 (oEq (j111) (oLa 0 (oLi 2 (oLi 3 (oLa 0 (oGf 98 0 99 (oC (.int (0 : Int32)) (oAi 99 6 (oLa 0 (oGf 98 4 103 (oLi 1 (oAi 103 40 (oCi GJ9_min_7cf53 2 (oCv GX13_start 4 (j111)))))))))))))))))), oLa 0 (oGf 98 63 144 (oLa 0 (oGf 98 35 124 (oLi 2 (oAi 124 40 (oLi 3 (oLa 0 (oGf 98 4 103 (oLi 1 (oAi 103 40 (o2 (· + ·) (oWi 144 10 (j111)))))))))))))]))))
set_option maxRecDepth 20000 in
theorem sX13_does_0 {C : qCx} {w : qWp} (h : qOk C w RX13 cX13_does 5 3 155 155) (hm : qMt C none) (hx : qNx C) {j111 : qT (Unit × qM)} {j74 : qT (Unit × qM)} (k111 : qSnd C w 5 155 (qQf C w 155 155 jV) qfin 155 226 j111) (k74 : qSnd C w 5 155 (qQf C w 155 155 jV) qfin 155 158 j74) : qSnd C w 5 155 (qQf C w 155 155 jV) qfin 155 0 (tX13_does_0 j111 j74) :=
  cLa (pc := 0) h dX13_does_0 rfl (gGf (pc := 1) h dX13_does_1 ff_X13_163_98 (Nat.le_of_ble_eq_true rfl) (Nat.le_of_ble_eq_true rfl) rfl (cLi (pc := 4) h dX13_does_4 rfl (rAi (pc := 5) h dX13_does_5 rfl (Nat.le_of_ble_eq_true rfl) (Nat.le_of_ble_eq_true rfl) (jSw (pc := 6) (a := 0) h dX13_does_6 rfl rfl rfl (by decide) rfl (k111) ⟨⟨_, rfl, cLa (pc := 44) h dX13_does_44 rfl (gGf (pc := 45) h dX13_does_45 ff_X13_292_98 (Nat.le_of_ble_eq_true rfl) (Nat.le_of_ble_eq_true rfl) rfl (cLi (pc := 48) h dX13_does_48 rfl (cC (pc := 49) h dX13_does_49 rfl (rWz (pc := 50) h dX13_does_50 rfl (Nat.le_of_ble_eq_true rfl) (Nat.le_of_ble_eq_true rfl) (jGo (pc := 51) h dX13_does_51 rfl (k111))))))⟩, ⟨⟨_, rfl, cLa (pc := 54) h dX13_does_54 rfl (cLi (pc := 55) h dX13_does_55 rfl (cLi (pc := 56) h dX13_does_56 rfl (kCi (pc := 57) h (kd_X13_484 h dX13_does_57) spX13_isHere (by decide) (by decide) (by decide) (by decide) (jEq (pc := 60) h dX13_does_60 rfl (k111) (cLa (pc := 63) h dX13_does_63 rfl (cLi (pc := 64) h dX13_does_64 rfl (cLi (pc := 65) h dX13_does_65 rfl (cLa (pc := 66) h dX13_does_66 rfl (gGf (pc := 67) h dX13_does_67 ff_X13_174_98 (Nat.le_of_ble_eq_true rfl) (Nat.le_of_ble_eq_true rfl) rfl (cC (pc := 70) h dX13_does_70 rfl (rAi (pc := 71) h dX13_does_71 rfl (Nat.le_of_ble_eq_true rfl) (Nat.le_of_ble_eq_true rfl) (cLa (pc := 72) h dX13_does_72 rfl (gGf (pc := 73) h dX13_does_73 ff_X13_262_98 (Nat.le_of_ble_eq_true rfl) (Nat.le_of_ble_eq_true rfl) rfl (cLi (pc := 76) h dX13_does_76 rfl (rAi (pc := 77) h dX13_does_77 rfl (Nat.le_of_ble_eq_true rfl) (Nat.le_of_ble_eq_true rfl) (aAdd (pc := 78) h dX13_does_78 (kCv (pc := 79) h (kd_X13_500 h dX13_does_79) spX13_start (by decide) (by decide) (by decide) (by decide) (jGo (pc := 82) h dX13_does_82 rfl (k111)))))))))))))))))))⟩, ⟨⟨_, rfl, k111⟩, ⟨⟨_, rfl, cLa (pc := 140) h dX13_does_140 rfl (cLa (pc := 141) h dX13_does_141 rfl (gGf (pc := 142) h dX13_does_142 ff_X13_218_98 (Nat.le_of_ble_eq_true rfl) (Nat.le_of_ble_eq_true rfl) rfl (cLi (pc := 145) h dX13_does_145 rfl (rAi (pc := 146) h dX13_does_146 rfl (Nat.le_of_ble_eq_true rfl) (Nat.le_of_ble_eq_true rfl) (cLa (pc := 147) h dX13_does_147 rfl (gGf (pc := 148) h dX13_does_148 ff_X13_221_98 (Nat.le_of_ble_eq_true rfl) (Nat.le_of_ble_eq_true rfl) rfl (cLi (pc := 151) h dX13_does_151 rfl (rAi (pc := 152) h dX13_does_152 rfl (Nat.le_of_ble_eq_true rfl) (Nat.le_of_ble_eq_true rfl) (kCi (pc := 153) h (kd_X13_490 h dX13_does_153) spX13_frontOf (by decide) (by decide) (by decide) (by decide) (cSI (pc := 156) h dX13_does_156 (k74)))))))))))⟩, ⟨⟨_, rfl, cLa (pc := 85) h dX13_does_85 rfl (cLi (pc := 86) h dX13_does_86 rfl (cLi (pc := 87) h dX13_does_87 rfl (kCi (pc := 88) h (kd_X13_484 h dX13_does_88) spX13_isHere (by decide) (by decide) (by decide) (by decide) (jEq (pc := 91) h dX13_does_91 rfl (k111) (cLa (pc := 94) h dX13_does_94 rfl (cLi (pc := 95) h dX13_does_95 rfl (cLi (pc := 96) h dX13_does_96 rfl (cLa (pc := 97) h dX13_does_97 rfl (gGf (pc := 98) h dX13_does_98 ff_X13_174_98 (Nat.le_of_ble_eq_true rfl) (Nat.le_of_ble_eq_true rfl) rfl (cC (pc := 101) h dX13_does_101 rfl (rAi (pc := 102) h dX13_does_102 rfl (Nat.le_of_ble_eq_true rfl) (Nat.le_of_ble_eq_true rfl) (cLa (pc := 103) h dX13_does_103 rfl (gGf (pc := 104) h dX13_does_104 ff_X13_166_98 (Nat.le_of_ble_eq_true rfl) (Nat.le_of_ble_eq_true rfl) rfl (cLi (pc := 107) h dX13_does_107 rfl (rAi (pc := 108) h dX13_does_108 rfl (Nat.le_of_ble_eq_true rfl) (Nat.le_of_ble_eq_true rfl) (kCi (pc := 109) h (kd_X13_382 h dX13_does_109) spJ9_min_7cf53 (by decide) (by decide) (by decide) (by decide) (kCv (pc := 112) h (kd_X13_500 h dX13_does_112) spX13_start (by decide) (by decide) (by decide) (by decide) (jGo (pc := 115) h dX13_does_115 rfl (k111)))))))))))))))))))⟩, ⟨⟨_, rfl, cLa (pc := 118) h dX13_does_118 rfl (gGf (pc := 119) h dX13_does_119 ff_X13_277_98 (Nat.le_of_ble_eq_true rfl) (Nat.le_of_ble_eq_true rfl) rfl (cLa (pc := 122) h dX13_does_122 rfl (gGf (pc := 123) h dX13_does_123 ff_X13_218_98 (Nat.le_of_ble_eq_true rfl) (Nat.le_of_ble_eq_true rfl) rfl (cLi (pc := 126) h dX13_does_126 rfl (rAi (pc := 127) h dX13_does_127 rfl (Nat.le_of_ble_eq_true rfl) (Nat.le_of_ble_eq_true rfl) (cLi (pc := 128) h dX13_does_128 rfl (cLa (pc := 129) h dX13_does_129 rfl (gGf (pc := 130) h dX13_does_130 ff_X13_166_98 (Nat.le_of_ble_eq_true rfl) (Nat.le_of_ble_eq_true rfl) rfl (cLi (pc := 133) h dX13_does_133 rfl (rAi (pc := 134) h dX13_does_134 rfl (Nat.le_of_ble_eq_true rfl) (Nat.le_of_ble_eq_true rfl) (aAdd (pc := 135) h dX13_does_135 (rWi (pc := 136) h dX13_does_136 rfl (Nat.le_of_ble_eq_true rfl) (Nat.le_of_ble_eq_true rfl) (jGo (pc := 137) h dX13_does_137 rfl (k111))))))))))))))⟩, trivial⟩⟩⟩⟩⟩⟩))))
set_option maxRecDepth 20000 in
theorem lX13_does_0 (a1 : Int32) (a2 : Int32) (a3 : Int32) (m : qM) : tX13_does_0 (wX13_does_111 fX13_does_111) (wX13_does_74 (fX13_does_74 fX13_does_94 FU)) [some (.ref 98), some (.int a1), some (.int a2), some (.int a3), none] [] m = fX13_does_0 a1 a2 a3 m := rfl
noncomputable def GX13_does : qG Unit := fun av m => match av with
  | [.ref 98, .int a1, .int a2, .int a3] => fX13_does a1 a2 a3 m
  | _ => none
theorem spX13_does : qSpV yX13_does (.code yX13_does cX13_does 5 none) 3 qfin 155 155 1 GX13_does := by
  intro av m m' hG
  unfold GX13_does at hG
  split at hG
  · rename_i a1 a2 a3
    rw [fX13_does_d] at hG
    exact ⟨qmeet (J := jV) (r := ((), m')) (av := [.ref 98, .int a1, .int a2, .int a3]) (by decide +kernel) (Nat.le_of_ble_eq_true rfl) (fun C w h hm hx hn => sX13_does_0 h hm hx (bX13_does_111 h hm hx) (bX13_does_74 h hm hx (bX13_does_94 h hm hx) FU)) ((lX13_does_0 _ _ _ _).trans hG) (Nat.le_of_ble_eq_true rfl), Or.inl ⟨98, _, 13, _, _, rfl, by decide, rfl, qCk_13, rfl⟩⟩
  · cases hG
theorem im_X13_holds : Jvm.Cond.instanceMethod yX13_holds ∈ qTw := qm9 (List.mem_of_getElem? (i := 84) (by decide +kernel)) (by decide +kernel)
theorem se_X13_holds : Jvm.Cond.selects yX13_holds.cls yX13_holds yX13_holds ∈ qTw := List.mem_filter.mpr ⟨List.mem_append_left _ (List.mem_of_getElem? (i := 79) (by decide +kernel)), rfl⟩
theorem co_X13_holds : Jvm.Cond.code yX13_holds cX13_holds 7 (some .boolean) ∈ qTw := qm9 (List.mem_of_getElem? (i := 85) (by decide +kernel)) (by decide +kernel)
theorem yk_X13_holds : qYk yX13_holds 3 := ⟨⟨by decide +kernel, by decide +kernel⟩, by decide +kernel⟩
theorem ml_X13_493 : Jvm.Cond.methodLink RX13 493 yX13_holds ∈ qTw := qm9 (List.mem_of_getElem? (i := 82) (by decide +kernel)) (by decide +kernel)
theorem kd_X13_493 {C : qCx} {w : qWp} {cc : ByteArray} {nL dp n0 n1 pc : Nat} (h : qOk C w RX13 cc nL dp n0 n1) (d : decode cc pc = .ok (.invokevirtual 493, 3)) : qCallOk C w nL dp n0 n1 pc 4 1 yX13_holds (.code yX13_holds cX13_holds 7 (some .boolean)) := kindV h d ml_X13_493 im_X13_holds se_X13_holds in_ParentEveModel co_X13_holds yk_X13_holds (by decide)
theorem im_X13_does : Jvm.Cond.instanceMethod yX13_does ∈ qTw := qm9 (List.mem_of_getElem? (i := 96) (by decide +kernel)) (by decide +kernel)
theorem se_X13_does : Jvm.Cond.selects yX13_does.cls yX13_does yX13_does ∈ qTw := List.mem_filter.mpr ⟨List.mem_append_left _ (List.mem_of_getElem? (i := 82) (by decide +kernel)), rfl⟩
theorem co_X13_does : Jvm.Cond.code yX13_does cX13_does 5 none ∈ qTw := qm9 (List.mem_of_getElem? (i := 97) (by decide +kernel)) (by decide +kernel)
theorem yk_X13_does : qYk yX13_does 3 := ⟨⟨by decide +kernel, by decide +kernel⟩, by decide +kernel⟩
theorem ml_X13_497 : Jvm.Cond.methodLink RX13 497 yX13_does ∈ qTw := qm9 (List.mem_of_getElem? (i := 94) (by decide +kernel)) (by decide +kernel)
theorem kd_X13_497 {C : qCx} {w : qWp} {cc : ByteArray} {nL dp n0 n1 pc : Nat} (h : qOk C w RX13 cc nL dp n0 n1) (d : decode cc pc = .ok (.invokevirtual 497, 3)) : qCallOk C w nL dp n0 n1 pc 4 1 yX13_does (.code yX13_does cX13_does 5 none) := kindV h d ml_X13_497 im_X13_does se_X13_does in_ParentEveModel co_X13_does yk_X13_does (by decide)
theorem dX13_look_0 : decode cX13_look 0 = .ok (.aload_n 0, 1) := by decide +kernel
theorem dX13_look_1 : decode cX13_look 1 = .ok (.iload_n 1, 1) := by decide +kernel
theorem dX13_look_2 : decode cX13_look 2 = .ok (.iconst (-1), 1) := by decide +kernel
theorem dX13_look_3 : decode cX13_look 3 = .ok (.invokevirtual 490, 3) := by decide +kernel
theorem dX13_look_6 : decode cX13_look 6 = .ok (.istore_n 3, 1) := by decide +kernel
theorem dX13_look_7 : decode cX13_look 7 = .ok (.iload_n 3, 1) := by decide +kernel
theorem dX13_look_8 : decode cX13_look 8 = .ok (.iconst (-1), 1) := by decide +kernel
theorem dX13_look_9 : decode cX13_look 9 = .ok (.if_icmp .eq 12, 3) := by decide +kernel
theorem dX13_look_12 : decode cX13_look 12 = .ok (.iload_n 2, 1) := by decide +kernel
theorem dX13_look_13 : decode cX13_look 13 = .ok (.aload_n 0, 1) := by decide +kernel
theorem dX13_look_14 : decode cX13_look 14 = .ok (.iload_n 3, 1) := by decide +kernel
theorem dX13_look_15 : decode cX13_look 15 = .ok (.invokevirtual 481, 3) := by decide +kernel
theorem dX13_look_18 : decode cX13_look 18 = .ok (.if_icmp .ge 4, 3) := by decide +kernel
theorem dX13_look_21 : decode cX13_look 21 = .ok (.return_, 1) := by decide +kernel
theorem dX13_look_22 : decode cX13_look 22 = .ok (.iconst 0, 1) := by decide +kernel
theorem dX13_look_23 : decode cX13_look 23 = .ok (.istore 4, 2) := by decide +kernel
theorem dX13_look_25 : decode cX13_look 25 = .ok (.aload_n 0, 1) := by decide +kernel
theorem dX13_look_26 : decode cX13_look 26 = .ok (.getfield 177, 3) := by decide +kernel
theorem dX13_look_29 : decode cX13_look 29 = .ok (.iload_n 1, 1) := by decide +kernel
theorem dX13_look_30 : decode cX13_look 30 = .ok (.iaload, 1) := by decide +kernel
theorem dX13_look_31 : decode cX13_look 31 = .ok (.iconst (-1), 1) := by decide +kernel
theorem dX13_look_32 : decode cX13_look 32 = .ok (.if_icmp .eq 62, 3) := by decide +kernel
theorem dX13_look_35 : decode cX13_look 35 = .ok (.iload 4, 2) := by decide +kernel
theorem dX13_look_37 : decode cX13_look 37 = .ok (.aload_n 0, 1) := by decide +kernel
theorem dX13_look_38 : decode cX13_look 38 = .ok (.getfield 106, 3) := by decide +kernel
theorem dX13_look_41 : decode cX13_look 41 = .ok (.aload_n 0, 1) := by decide +kernel
theorem dX13_look_42 : decode cX13_look 42 = .ok (.getfield 177, 3) := by decide +kernel
theorem dX13_look_45 : decode cX13_look 45 = .ok (.iload_n 1, 1) := by decide +kernel
theorem dX13_look_46 : decode cX13_look 46 = .ok (.iaload, 1) := by decide +kernel
theorem dX13_look_47 : decode cX13_look 47 = .ok (.iaload, 1) := by decide +kernel
theorem dX13_look_48 : decode cX13_look 48 = .ok (.if_icmp .ge 46, 3) := by decide +kernel
theorem dX13_look_51 : decode cX13_look 51 = .ok (.bipush 8, 2) := by decide +kernel
theorem dX13_look_53 : decode cX13_look 53 = .ok (.aload_n 0, 1) := by decide +kernel
theorem dX13_look_54 : decode cX13_look 54 = .ok (.getfield 177, 3) := by decide +kernel
theorem dX13_look_57 : decode cX13_look 57 = .ok (.iload_n 1, 1) := by decide +kernel
theorem dX13_look_58 : decode cX13_look 58 = .ok (.iaload, 1) := by decide +kernel
theorem dX13_look_59 : decode cX13_look 59 = .ok (.imul, 1) := by decide +kernel
theorem dX13_look_60 : decode cX13_look 60 = .ok (.iload 4, 2) := by decide +kernel
theorem dX13_look_62 : decode cX13_look 62 = .ok (.iadd, 1) := by decide +kernel
theorem dX13_look_63 : decode cX13_look 63 = .ok (.istore 5, 2) := by decide +kernel
theorem dX13_look_65 : decode cX13_look 65 = .ok (.aload_n 0, 1) := by decide +kernel
theorem dX13_look_66 : decode cX13_look 66 = .ok (.iload 5, 2) := by decide +kernel
theorem dX13_look_68 : decode cX13_look 68 = .ok (.iload_n 3, 1) := by decide +kernel
theorem dX13_look_69 : decode cX13_look 69 = .ok (.iload_n 2, 1) := by decide +kernel
theorem dX13_look_70 : decode cX13_look 70 = .ok (.invokevirtual 493, 3) := by decide +kernel
theorem dX13_look_73 : decode cX13_look 73 = .ok (.ifCond .ne 6, 3) := by decide +kernel
theorem dX13_look_76 : decode cX13_look 76 = .ok (.goto 12, 3) := by decide +kernel
theorem dX13_look_79 : decode cX13_look 79 = .ok (.aload_n 0, 1) := by decide +kernel
theorem dX13_look_80 : decode cX13_look 80 = .ok (.iload 5, 2) := by decide +kernel
theorem dX13_look_82 : decode cX13_look 82 = .ok (.iload_n 3, 1) := by decide +kernel
theorem dX13_look_83 : decode cX13_look 83 = .ok (.iload_n 2, 1) := by decide +kernel
theorem dX13_look_84 : decode cX13_look 84 = .ok (.invokevirtual 497, 3) := by decide +kernel
theorem dX13_look_87 : decode cX13_look 87 = .ok (.return_, 1) := by decide +kernel
theorem dX13_look_88 : decode cX13_look 88 = .ok (.iinc 4 1, 3) := by decide +kernel
theorem dX13_look_91 : decode cX13_look 91 = .ok (.goto (-66), 3) := by decide +kernel
theorem dX13_look_94 : decode cX13_look 94 = .ok (.aload_n 0, 1) := by decide +kernel
theorem dX13_look_95 : decode cX13_look 95 = .ok (.iload_n 3, 1) := by decide +kernel
theorem dX13_look_96 : decode cX13_look 96 = .ok (.iload_n 2, 1) := by decide +kernel
theorem dX13_look_97 : decode cX13_look 97 = .ok (.invokevirtual 484, 3) := by decide +kernel
theorem dX13_look_100 : decode cX13_look 100 = .ok (.ifCond .eq 25, 3) := by decide +kernel
theorem dX13_look_103 : decode cX13_look 103 = .ok (.aload_n 0, 1) := by decide +kernel
theorem dX13_look_104 : decode cX13_look 104 = .ok (.iload_n 3, 1) := by decide +kernel
theorem dX13_look_105 : decode cX13_look 105 = .ok (.iload_n 2, 1) := by decide +kernel
theorem dX13_look_106 : decode cX13_look 106 = .ok (.aload_n 0, 1) := by decide +kernel
theorem dX13_look_107 : decode cX13_look 107 = .ok (.getfield 174, 3) := by decide +kernel
theorem dX13_look_110 : decode cX13_look 110 = .ok (.iconst 0, 1) := by decide +kernel
theorem dX13_look_111 : decode cX13_look 111 = .ok (.iaload, 1) := by decide +kernel
theorem dX13_look_112 : decode cX13_look 112 = .ok (.aload_n 0, 1) := by decide +kernel
theorem dX13_look_113 : decode cX13_look 113 = .ok (.getfield 262, 3) := by decide +kernel
theorem dX13_look_116 : decode cX13_look 116 = .ok (.iload_n 3, 1) := by decide +kernel
theorem dX13_look_117 : decode cX13_look 117 = .ok (.iaload, 1) := by decide +kernel
theorem dX13_look_118 : decode cX13_look 118 = .ok (.iadd, 1) := by decide +kernel
theorem dX13_look_119 : decode cX13_look 119 = .ok (.invokevirtual 500, 3) := by decide +kernel
theorem dX13_look_122 : decode cX13_look 122 = .ok (.goto 26, 3) := by decide +kernel
theorem dX13_look_125 : decode cX13_look 125 = .ok (.iload_n 2, 1) := by decide +kernel
theorem dX13_look_126 : decode cX13_look 126 = .ok (.aload_n 0, 1) := by decide +kernel
theorem dX13_look_127 : decode cX13_look 127 = .ok (.iload_n 3, 1) := by decide +kernel
theorem dX13_look_128 : decode cX13_look 128 = .ok (.invokevirtual 481, 3) := by decide +kernel
theorem dX13_look_131 : decode cX13_look 131 = .ok (.isub, 1) := by decide +kernel
theorem dX13_look_132 : decode cX13_look 132 = .ok (.aload_n 0, 1) := by decide +kernel
theorem dX13_look_133 : decode cX13_look 133 = .ok (.getfield 174, 3) := by decide +kernel
theorem dX13_look_136 : decode cX13_look 136 = .ok (.iconst 3, 1) := by decide +kernel
theorem dX13_look_137 : decode cX13_look 137 = .ok (.iaload, 1) := by decide +kernel
theorem dX13_look_138 : decode cX13_look 138 = .ok (.if_icmp .le 10, 3) := by decide +kernel
theorem dX13_look_141 : decode cX13_look 141 = .ok (.aload_n 0, 1) := by decide +kernel
theorem dX13_look_142 : decode cX13_look 142 = .ok (.getfield 292, 3) := by decide +kernel
theorem dX13_look_145 : decode cX13_look 145 = .ok (.iload_n 3, 1) := by decide +kernel
theorem dX13_look_146 : decode cX13_look 146 = .ok (.iconst 1, 1) := by decide +kernel
theorem dX13_look_147 : decode cX13_look 147 = .ok (.bastore, 1) := by decide +kernel
theorem dX13_look_148 : decode cX13_look 148 = .ok (.return_, 1) := by decide +kernel
noncomputable def tX13_look_13 : qT (Unit × qM) :=
  eV
noncomputable def wX13_look_13 (k : qM → Option (Unit × qM)) : qT (Unit × qM) := fun lo st m => match lo, st with
  | [_, _, _, _, _, _], [] => k m
  | _, _ => none
set_option maxRecDepth 20000 in
theorem sX13_look_13 {C : qCx} {w : qWp} (h : qOk C w RX13 cX13_look 6 5 155 155) (hm : qMt C none) (hx : qNx C) : qSnd C w 6 155 (qQf C w 155 155 jV) qfin 155 21 (tX13_look_13) :=
  zV (pc := 21) h hm (Nat.le_refl _) dX13_look_21
set_option maxRecDepth 20000 in
theorem lX13_look_13 (m : qM) : tX13_look_13 [none, none, none, none, none, none] [] m = fX13_look_13 m := rfl
theorem bX13_look_13 {C : qCx} {w : qWp} (h : qOk C w RX13 cX13_look 6 5 155 155) (hm : qMt C none) (hx : qNx C) : qSnd C w 6 155 (qQf C w 155 155 jV) qfin 155 21 (wX13_look_13 fX13_look_13) :=
  qSnd_of (fun lo st m x hr0 => by
    unfold wX13_look_13 at hr0
    split at hr0
    · exact ⟨_, (qsub_n (qsub_n (qsub_n (qsub_n (qsub_n (qsub_n qsub_nil)))))), (lX13_look_13 _).trans hr0⟩
    · cases hr0) (sX13_look_13 h hm hx)
noncomputable def tX13_look_16 (j55 : qT (Unit × qM)) (j16 : qT (Unit × qM)) : qT (Unit × qM) :=
  oLa 0 (oGf 98 9 108 (oLi 1 (oAi 108 10 (oC (.int (-1 : Int32)) (oCEq (j55) (oLi 4 (oLa 0 (oGf 98 2 101 (oLa 0 (oGf 98 9 108 (oLi 1 (oAi 108 10 (oAi 101 5 (oCGe (j55) (oC (.int (8 : Int32)) (oLa 0 (oGf 98 9 108 (oLi 1 (oAi 108 10 (o2 (· * ·) (oLi 4 (o2 (· + ·) (oSi 5 (oLa 0 (oLi 5 (oLi 3 (oLi 2 (oCi GX13_holds 4 (oEq (oInc 4 (1 : Int32) (j16)) (oLa 0 (oLi 5 (oLi 3 (oLi 2 (oCv GX13_does 4 (eV)))))))))))))))))))))))))))))))))))
noncomputable def wX13_look_16 (k : Int32 → Int32 → Int32 → Int32 → qM → Option (Unit × qM)) : qT (Unit × qM) := fun lo st m => match lo, st with
  | [some (.ref 98), some (.int a1), some (.int a2), some (.int a3), some (.int a4), _], [] => k a1 a2 a3 a4 m
  | _, _ => none
noncomputable def wX13_look_55 (k : Int32 → Int32 → qM → Option (Unit × qM)) : qT (Unit × qM) := fun lo st m => match lo, st with
  | [some (.ref 98), _, some (.int a2), some (.int a3), _, _], [] => k a2 a3 m
  | _, _ => none
set_option maxRecDepth 20000 in
theorem sX13_look_16 {C : qCx} {w : qWp} (h : qOk C w RX13 cX13_look 6 5 155 155) (hm : qMt C none) (hx : qNx C) {j55 : qT (Unit × qM)} {j16 : qT (Unit × qM)} (k55 : qSnd C w 6 155 (qQf C w 155 155 jV) qfin 155 94 j55) (k16 : qSnd C w 6 155 (qQf C w 155 155 jV) qfin 155 25 j16) : qSnd C w 6 155 (qQf C w 155 155 jV) qfin 155 25 (tX13_look_16 j55 j16) :=
  cLa (pc := 25) h dX13_look_25 rfl (gGf (pc := 26) h dX13_look_26 ff_X13_177_98 (Nat.le_of_ble_eq_true rfl) (Nat.le_of_ble_eq_true rfl) rfl (cLi (pc := 29) h dX13_look_29 rfl (rAi (pc := 30) h dX13_look_30 rfl (Nat.le_of_ble_eq_true rfl) (Nat.le_of_ble_eq_true rfl) (cC (pc := 31) h dX13_look_31 rfl (jCEq (pc := 32) h dX13_look_32 rfl (k55) (cLI (pc := 35) h dX13_look_35 (cLa (pc := 37) h dX13_look_37 rfl (gGf (pc := 38) h dX13_look_38 ff_X13_106_98 (Nat.le_of_ble_eq_true rfl) (Nat.le_of_ble_eq_true rfl) rfl (cLa (pc := 41) h dX13_look_41 rfl (gGf (pc := 42) h dX13_look_42 ff_X13_177_98 (Nat.le_of_ble_eq_true rfl) (Nat.le_of_ble_eq_true rfl) rfl (cLi (pc := 45) h dX13_look_45 rfl (rAi (pc := 46) h dX13_look_46 rfl (Nat.le_of_ble_eq_true rfl) (Nat.le_of_ble_eq_true rfl) (rAi (pc := 47) h dX13_look_47 rfl (Nat.le_of_ble_eq_true rfl) (Nat.le_of_ble_eq_true rfl) (jCGe (pc := 48) h dX13_look_48 rfl (k55) (cB (pc := 51) h dX13_look_51 rfl (cLa (pc := 53) h dX13_look_53 rfl (gGf (pc := 54) h dX13_look_54 ff_X13_177_98 (Nat.le_of_ble_eq_true rfl) (Nat.le_of_ble_eq_true rfl) rfl (cLi (pc := 57) h dX13_look_57 rfl (rAi (pc := 58) h dX13_look_58 rfl (Nat.le_of_ble_eq_true rfl) (Nat.le_of_ble_eq_true rfl) (aMul (pc := 59) h dX13_look_59 (cLI (pc := 60) h dX13_look_60 (aAdd (pc := 62) h dX13_look_62 (cSI (pc := 63) h dX13_look_63 (cLa (pc := 65) h dX13_look_65 rfl (cLI (pc := 66) h dX13_look_66 (cLi (pc := 68) h dX13_look_68 rfl (cLi (pc := 69) h dX13_look_69 rfl (kCi (pc := 70) h (kd_X13_493 h dX13_look_70) spX13_holds (by decide) (by decide) (by decide) (by decide) (jNe (pc := 73) h dX13_look_73 rfl (cLa (pc := 79) h dX13_look_79 rfl (cLI (pc := 80) h dX13_look_80 (cLi (pc := 82) h dX13_look_82 rfl (cLi (pc := 83) h dX13_look_83 rfl (kCv (pc := 84) h (kd_X13_497 h dX13_look_84) spX13_does (by decide) (by decide) (by decide) (by decide) (zV (pc := 87) h hm (Nat.le_refl _) dX13_look_87)))))) (jGo (pc := 76) h dX13_look_76 rfl (cInc (pc := 88) h dX13_look_88 rfl (jGo (pc := 91) h dX13_look_91 rfl (k16)))))))))))))))))))))))))))))))))
set_option maxRecDepth 20000 in
theorem lX13_look_16 (k55 : Int32 → Int32 → qM → Option (Unit × qM)) (n : Nat) (a1 : Int32) (a2 : Int32) (a3 : Int32) (a4 : Int32) (m : qM) : tX13_look_16 (wX13_look_55 k55) (wX13_look_16 ((fX13_look_16 k55 n))) [some (.ref 98), some (.int a1), some (.int a2), some (.int a3), some (.int a4), none] [] m = fX13_look_16 k55 (n + 1) a1 a2 a3 a4 m := rfl
theorem bX13_look_16 {C : qCx} {w : qWp} (h : qOk C w RX13 cX13_look 6 5 155 155) (hm : qMt C none) (hx : qNx C) {k55 : Int32 → Int32 → qM → Option (Unit × qM)} (h55 : qSnd C w 6 155 (qQf C w 155 155 jV) qfin 155 94 (wX13_look_55 k55)) : ∀ n : Nat, qSnd C w 6 155 (qQf C w 155 155 jV) qfin 155 25 (wX13_look_16 (fX13_look_16 k55 n))
  | 0 => qSnd_of0 (fun lo st m x hr0 => by
    unfold wX13_look_16 at hr0
    split at hr0
    · cases hr0
    · cases hr0)
  | n + 1 => by
    have ih := bX13_look_16 h hm hx h55 n
    exact qSnd_of (fun lo st m x hr0 => by
    unfold wX13_look_16 at hr0
    split at hr0
    · exact ⟨_, (qsub_e (qsub_e (qsub_e (qsub_e (qsub_e (qsub_n qsub_nil)))))), (lX13_look_16 _ n _ _ _ _ _).trans hr0⟩
    · cases hr0) (sX13_look_16 h hm hx h55 ih)
noncomputable def tX13_look_89 : qT (Unit × qM) :=
  eV
noncomputable def wX13_look_89 (k : qM → Option (Unit × qM)) : qT (Unit × qM) := fun lo st m => match lo, st with
  | [_, _, _, _, _, _], [] => k m
  | _, _ => none
set_option maxRecDepth 20000 in
theorem sX13_look_89 {C : qCx} {w : qWp} (h : qOk C w RX13 cX13_look 6 5 155 155) (hm : qMt C none) (hx : qNx C) : qSnd C w 6 155 (qQf C w 155 155 jV) qfin 155 148 (tX13_look_89) :=
  zV (pc := 148) h hm (Nat.le_refl _) dX13_look_148
set_option maxRecDepth 20000 in
theorem lX13_look_89 (m : qM) : tX13_look_89 [none, none, none, none, none, none] [] m = fX13_look_89 m := rfl
theorem bX13_look_89 {C : qCx} {w : qWp} (h : qOk C w RX13 cX13_look 6 5 155 155) (hm : qMt C none) (hx : qNx C) : qSnd C w 6 155 (qQf C w 155 155 jV) qfin 155 148 (wX13_look_89 fX13_look_89) :=
  qSnd_of (fun lo st m x hr0 => by
    unfold wX13_look_89 at hr0
    split at hr0
    · exact ⟨_, (qsub_n (qsub_n (qsub_n (qsub_n (qsub_n (qsub_n qsub_nil)))))), (lX13_look_89 _).trans hr0⟩
    · cases hr0) (sX13_look_89 h hm hx)
noncomputable def tX13_look_55 (j89 : qT (Unit × qM)) : qT (Unit × qM) :=
  oLa 0 (oLi 3 (oLi 2 (oCi GX13_isHere 3 (oEq (oLi 2 (oLa 0 (oLi 3 (oCi GX13_minuteOf 2 (o2 (· - ·) (oLa 0 (oGf 98 0 99 (oC (.int (3 : Int32)) (oAi 99 6 (oCLe (j89) (oLa 0 (oGf 98 68 149 (oLi 3 (oC (.int (1 : Int32)) (oWz 149 40 (j89)))))))))))))))) (oLa 0 (oLi 3 (oLi 2 (oLa 0 (oGf 98 0 99 (oC (.int (0 : Int32)) (oAi 99 6 (oLa 0 (oGf 98 58 139 (oLi 3 (oAi 139 40 (o2 (· + ·) (oCv GX13_start 4 (j89))))))))))))))))))
set_option maxRecDepth 20000 in
theorem sX13_look_55 {C : qCx} {w : qWp} (h : qOk C w RX13 cX13_look 6 5 155 155) (hm : qMt C none) (hx : qNx C) {j89 : qT (Unit × qM)} (k89 : qSnd C w 6 155 (qQf C w 155 155 jV) qfin 155 148 j89) : qSnd C w 6 155 (qQf C w 155 155 jV) qfin 155 94 (tX13_look_55 j89) :=
  cLa (pc := 94) h dX13_look_94 rfl (cLi (pc := 95) h dX13_look_95 rfl (cLi (pc := 96) h dX13_look_96 rfl (kCi (pc := 97) h (kd_X13_484 h dX13_look_97) spX13_isHere (by decide) (by decide) (by decide) (by decide) (jEq (pc := 100) h dX13_look_100 rfl (cLi (pc := 125) h dX13_look_125 rfl (cLa (pc := 126) h dX13_look_126 rfl (cLi (pc := 127) h dX13_look_127 rfl (kCi (pc := 128) h (kd_X13_481 h dX13_look_128) spX13_minuteOf (by decide) (by decide) (by decide) (by decide) (aSub (pc := 131) h dX13_look_131 (cLa (pc := 132) h dX13_look_132 rfl (gGf (pc := 133) h dX13_look_133 ff_X13_174_98 (Nat.le_of_ble_eq_true rfl) (Nat.le_of_ble_eq_true rfl) rfl (cC (pc := 136) h dX13_look_136 rfl (rAi (pc := 137) h dX13_look_137 rfl (Nat.le_of_ble_eq_true rfl) (Nat.le_of_ble_eq_true rfl) (jCLe (pc := 138) h dX13_look_138 rfl (k89) (cLa (pc := 141) h dX13_look_141 rfl (gGf (pc := 142) h dX13_look_142 ff_X13_292_98 (Nat.le_of_ble_eq_true rfl) (Nat.le_of_ble_eq_true rfl) rfl (cLi (pc := 145) h dX13_look_145 rfl (cC (pc := 146) h dX13_look_146 rfl (rWz (pc := 147) h dX13_look_147 rfl (Nat.le_of_ble_eq_true rfl) (Nat.le_of_ble_eq_true rfl) (k89)))))))))))))))) (cLa (pc := 103) h dX13_look_103 rfl (cLi (pc := 104) h dX13_look_104 rfl (cLi (pc := 105) h dX13_look_105 rfl (cLa (pc := 106) h dX13_look_106 rfl (gGf (pc := 107) h dX13_look_107 ff_X13_174_98 (Nat.le_of_ble_eq_true rfl) (Nat.le_of_ble_eq_true rfl) rfl (cC (pc := 110) h dX13_look_110 rfl (rAi (pc := 111) h dX13_look_111 rfl (Nat.le_of_ble_eq_true rfl) (Nat.le_of_ble_eq_true rfl) (cLa (pc := 112) h dX13_look_112 rfl (gGf (pc := 113) h dX13_look_113 ff_X13_262_98 (Nat.le_of_ble_eq_true rfl) (Nat.le_of_ble_eq_true rfl) rfl (cLi (pc := 116) h dX13_look_116 rfl (rAi (pc := 117) h dX13_look_117 rfl (Nat.le_of_ble_eq_true rfl) (Nat.le_of_ble_eq_true rfl) (aAdd (pc := 118) h dX13_look_118 (kCv (pc := 119) h (kd_X13_500 h dX13_look_119) spX13_start (by decide) (by decide) (by decide) (by decide) (jGo (pc := 122) h dX13_look_122 rfl (k89)))))))))))))))))))
set_option maxRecDepth 20000 in
theorem lX13_look_55 (a2 : Int32) (a3 : Int32) (m : qM) : tX13_look_55 (wX13_look_89 fX13_look_89) [some (.ref 98), none, some (.int a2), some (.int a3), none, none] [] m = fX13_look_55 a2 a3 m := rfl
theorem bX13_look_55 {C : qCx} {w : qWp} (h : qOk C w RX13 cX13_look 6 5 155 155) (hm : qMt C none) (hx : qNx C) : qSnd C w 6 155 (qQf C w 155 155 jV) qfin 155 94 (wX13_look_55 fX13_look_55) :=
  qSnd_of (fun lo st m x hr0 => by
    unfold wX13_look_55 at hr0
    split at hr0
    · exact ⟨_, (qsub_e (qsub_n (qsub_e (qsub_e (qsub_n (qsub_n qsub_nil)))))), (lX13_look_55 _ _ _).trans hr0⟩
    · cases hr0) (sX13_look_55 h hm hx (bX13_look_89 h hm hx))
noncomputable def tX13_look_0 (j13 : qT (Unit × qM)) (j16 : qT (Unit × qM)) : qT (Unit × qM) :=
  oLa 0 (oLi 1 (oC (.int (-1 : Int32)) (oCi GX13_frontOf 3 (oSi 3 (oLi 3 (oC (.int (-1 : Int32)) (oCEq (j13) (oLi 2 (oLa 0 (oLi 3 (oCi GX13_minuteOf 2 (oCGe (oC (.int (0 : Int32)) (oSi 4 (j16))) (j13)))))))))))))
set_option maxRecDepth 20000 in
theorem sX13_look_0 {C : qCx} {w : qWp} (h : qOk C w RX13 cX13_look 6 5 155 155) (hm : qMt C none) (hx : qNx C) {j13 : qT (Unit × qM)} {j16 : qT (Unit × qM)} (k13 : qSnd C w 6 155 (qQf C w 155 155 jV) qfin 155 21 j13) (k16 : qSnd C w 6 155 (qQf C w 155 155 jV) qfin 155 25 j16) : qSnd C w 6 155 (qQf C w 155 155 jV) qfin 155 0 (tX13_look_0 j13 j16) :=
  cLa (pc := 0) h dX13_look_0 rfl (cLi (pc := 1) h dX13_look_1 rfl (cC (pc := 2) h dX13_look_2 rfl (kCi (pc := 3) h (kd_X13_490 h dX13_look_3) spX13_frontOf (by decide) (by decide) (by decide) (by decide) (cSi (pc := 6) h dX13_look_6 rfl (cLi (pc := 7) h dX13_look_7 rfl (cC (pc := 8) h dX13_look_8 rfl (jCEq (pc := 9) h dX13_look_9 rfl (k13) (cLi (pc := 12) h dX13_look_12 rfl (cLa (pc := 13) h dX13_look_13 rfl (cLi (pc := 14) h dX13_look_14 rfl (kCi (pc := 15) h (kd_X13_481 h dX13_look_15) spX13_minuteOf (by decide) (by decide) (by decide) (by decide) (jCGe (pc := 18) h dX13_look_18 rfl (cC (pc := 22) h dX13_look_22 rfl (cSI (pc := 23) h dX13_look_23 (k16))) (k13)))))))))))))
set_option maxRecDepth 20000 in
theorem lX13_look_0 (a1 : Int32) (a2 : Int32) (m : qM) : tX13_look_0 (wX13_look_13 fX13_look_13) (wX13_look_16 (fX13_look_16 fX13_look_55 FU)) [some (.ref 98), some (.int a1), some (.int a2), none, none, none] [] m = fX13_look_0 a1 a2 m := rfl
noncomputable def GX13_look : qG Unit := fun av m => match av with
  | [.ref 98, .int a1, .int a2] => fX13_look a1 a2 m
  | _ => none
theorem spX13_look : qSpV yX13_look (.code yX13_look cX13_look 6 none) 5 qfin 155 155 1 GX13_look := by
  intro av m m' hG
  unfold GX13_look at hG
  split at hG
  · rename_i a1 a2
    rw [fX13_look_d] at hG
    exact ⟨qmeet (J := jV) (r := ((), m')) (av := [.ref 98, .int a1, .int a2]) (by decide +kernel) (Nat.le_of_ble_eq_true rfl) (fun C w h hm hx hn => sX13_look_0 h hm hx (bX13_look_13 h hm hx) (bX13_look_16 h hm hx (bX13_look_55 h hm hx) FU)) ((lX13_look_0 _ _ _).trans hG) (Nat.le_of_ble_eq_true rfl), Or.inl ⟨98, _, 13, _, _, rfl, by decide, rfl, qCk_13, rfl⟩⟩
  · cases hG
theorem im_X13_know : Jvm.Cond.instanceMethod yX13_know ∈ qTw := qm9 (List.mem_of_getElem? (i := 60) (by decide +kernel)) (by decide +kernel)
theorem se_X13_know : Jvm.Cond.selects yX13_know.cls yX13_know yX13_know ∈ qTw := List.mem_filter.mpr ⟨List.mem_append_left _ (List.mem_of_getElem? (i := 73) (by decide +kernel)), rfl⟩
theorem co_X13_know : Jvm.Cond.code yX13_know cX13_know 3 none ∈ qTw := qm9 (List.mem_of_getElem? (i := 61) (by decide +kernel)) (by decide +kernel)
theorem yk_X13_know : qYk yX13_know 1 := ⟨⟨by decide +kernel, by decide +kernel⟩, by decide +kernel⟩
theorem ml_X13_468 : Jvm.Cond.methodLink RX13 468 yX13_know ∈ qTw := qm9 (List.mem_of_getElem? (i := 58) (by decide +kernel)) (by decide +kernel)
theorem kd_X13_468 {C : qCx} {w : qWp} {cc : ByteArray} {nL dp n0 n1 pc : Nat} (h : qOk C w RX13 cc nL dp n0 n1) (d : decode cc pc = .ok (.invokevirtual 468, 3)) : qCallOk C w nL dp n0 n1 pc 2 1 yX13_know (.code yX13_know cX13_know 3 none) := kindV h d ml_X13_468 im_X13_know se_X13_know in_ParentEveModel co_X13_know yk_X13_know (by decide)
theorem im_X13_isAway : Jvm.Cond.instanceMethod yX13_isAway ∈ qTw := qm9 (List.mem_of_getElem? (i := 64) (by decide +kernel)) (by decide +kernel)
theorem se_X13_isAway : Jvm.Cond.selects yX13_isAway.cls yX13_isAway yX13_isAway ∈ qTw := List.mem_filter.mpr ⟨List.mem_append_left _ (List.mem_of_getElem? (i := 74) (by decide +kernel)), rfl⟩
theorem co_X13_isAway : Jvm.Cond.code yX13_isAway cX13_isAway 4 (some .boolean) ∈ qTw := qm9 (List.mem_of_getElem? (i := 65) (by decide +kernel)) (by decide +kernel)
theorem yk_X13_isAway : qYk yX13_isAway 2 := ⟨⟨by decide +kernel, by decide +kernel⟩, by decide +kernel⟩
theorem ml_X13_471 : Jvm.Cond.methodLink RX13 471 yX13_isAway ∈ qTw := qm9 (List.mem_of_getElem? (i := 62) (by decide +kernel)) (by decide +kernel)
theorem kd_X13_471 {C : qCx} {w : qWp} {cc : ByteArray} {nL dp n0 n1 pc : Nat} (h : qOk C w RX13 cc nL dp n0 n1) (d : decode cc pc = .ok (.invokevirtual 471, 3)) : qCallOk C w nL dp n0 n1 pc 3 1 yX13_isAway (.code yX13_isAway cX13_isAway 4 (some .boolean)) := kindV h d ml_X13_471 im_X13_isAway se_X13_isAway in_ParentEveModel co_X13_isAway yk_X13_isAway (by decide)
theorem im_X13_look : Jvm.Cond.instanceMethod yX13_look ∈ qTw := qm9 (List.mem_of_getElem? (i := 68) (by decide +kernel)) (by decide +kernel)
theorem se_X13_look : Jvm.Cond.selects yX13_look.cls yX13_look yX13_look ∈ qTw := List.mem_filter.mpr ⟨List.mem_append_left _ (List.mem_of_getElem? (i := 75) (by decide +kernel)), rfl⟩
theorem co_X13_look : Jvm.Cond.code yX13_look cX13_look 6 none ∈ qTw := qm9 (List.mem_of_getElem? (i := 69) (by decide +kernel)) (by decide +kernel)
theorem yk_X13_look : qYk yX13_look 2 := ⟨⟨by decide +kernel, by decide +kernel⟩, by decide +kernel⟩
theorem ml_X13_474 : Jvm.Cond.methodLink RX13 474 yX13_look ∈ qTw := qm9 (List.mem_of_getElem? (i := 66) (by decide +kernel)) (by decide +kernel)
theorem kd_X13_474 {C : qCx} {w : qWp} {cc : ByteArray} {nL dp n0 n1 pc : Nat} (h : qOk C w RX13 cc nL dp n0 n1) (d : decode cc pc = .ok (.invokevirtual 474, 3)) : qCallOk C w nL dp n0 n1 pc 3 1 yX13_look (.code yX13_look cX13_look 6 none) := kindV h d ml_X13_474 im_X13_look se_X13_look in_ParentEveModel co_X13_look yk_X13_look (by decide)
theorem dX13_goThrough_0 : decode cX13_goThrough 0 = .ok (.aload_n 0, 1) := by decide +kernel
theorem dX13_goThrough_1 : decode cX13_goThrough 1 = .ok (.iload_n 1, 1) := by decide +kernel
theorem dX13_goThrough_2 : decode cX13_goThrough 2 = .ok (.invokevirtual 468, 3) := by decide +kernel
theorem dX13_goThrough_5 : decode cX13_goThrough 5 = .ok (.iconst 0, 1) := by decide +kernel
theorem dX13_goThrough_6 : decode cX13_goThrough 6 = .ok (.istore_n 2, 1) := by decide +kernel
theorem dX13_goThrough_7 : decode cX13_goThrough 7 = .ok (.iload_n 2, 1) := by decide +kernel
theorem dX13_goThrough_8 : decode cX13_goThrough 8 = .ok (.aload_n 0, 1) := by decide +kernel
theorem dX13_goThrough_9 : decode cX13_goThrough 9 = .ok (.getfield 313, 3) := by decide +kernel
theorem dX13_goThrough_12 : decode cX13_goThrough 12 = .ok (.if_icmp .ge 30, 3) := by decide +kernel
theorem dX13_goThrough_15 : decode cX13_goThrough 15 = .ok (.aload_n 0, 1) := by decide +kernel
theorem dX13_goThrough_16 : decode cX13_goThrough 16 = .ok (.getfield 268, 3) := by decide +kernel
theorem dX13_goThrough_19 : decode cX13_goThrough 19 = .ok (.iload_n 2, 1) := by decide +kernel
theorem dX13_goThrough_20 : decode cX13_goThrough 20 = .ok (.iconst (-1), 1) := by decide +kernel
theorem dX13_goThrough_21 : decode cX13_goThrough 21 = .ok (.iastore, 1) := by decide +kernel
theorem dX13_goThrough_22 : decode cX13_goThrough 22 = .ok (.aload_n 0, 1) := by decide +kernel
theorem dX13_goThrough_23 : decode cX13_goThrough 23 = .ok (.getfield 271, 3) := by decide +kernel
theorem dX13_goThrough_26 : decode cX13_goThrough 26 = .ok (.iload_n 2, 1) := by decide +kernel
theorem dX13_goThrough_27 : decode cX13_goThrough 27 = .ok (.iconst 0, 1) := by decide +kernel
theorem dX13_goThrough_28 : decode cX13_goThrough 28 = .ok (.iastore, 1) := by decide +kernel
theorem dX13_goThrough_29 : decode cX13_goThrough 29 = .ok (.aload_n 0, 1) := by decide +kernel
theorem dX13_goThrough_30 : decode cX13_goThrough 30 = .ok (.getfield 292, 3) := by decide +kernel
theorem dX13_goThrough_33 : decode cX13_goThrough 33 = .ok (.iload_n 2, 1) := by decide +kernel
theorem dX13_goThrough_34 : decode cX13_goThrough 34 = .ok (.iconst 0, 1) := by decide +kernel
theorem dX13_goThrough_35 : decode cX13_goThrough 35 = .ok (.bastore, 1) := by decide +kernel
theorem dX13_goThrough_36 : decode cX13_goThrough 36 = .ok (.iinc 2 1, 3) := by decide +kernel
theorem dX13_goThrough_39 : decode cX13_goThrough 39 = .ok (.goto (-32), 3) := by decide +kernel
theorem dX13_goThrough_42 : decode cX13_goThrough 42 = .ok (.iconst 0, 1) := by decide +kernel
theorem dX13_goThrough_43 : decode cX13_goThrough 43 = .ok (.istore_n 2, 1) := by decide +kernel
theorem dX13_goThrough_44 : decode cX13_goThrough 44 = .ok (.iload_n 2, 1) := by decide +kernel
theorem dX13_goThrough_45 : decode cX13_goThrough 45 = .ok (.bipush 10, 2) := by decide +kernel
theorem dX13_goThrough_47 : decode cX13_goThrough 47 = .ok (.if_icmp .ge 23, 3) := by decide +kernel
theorem dX13_goThrough_50 : decode cX13_goThrough 50 = .ok (.aload_n 0, 1) := by decide +kernel
theorem dX13_goThrough_51 : decode cX13_goThrough 51 = .ok (.getfield 274, 3) := by decide +kernel
theorem dX13_goThrough_54 : decode cX13_goThrough 54 = .ok (.iload_n 2, 1) := by decide +kernel
theorem dX13_goThrough_55 : decode cX13_goThrough 55 = .ok (.iconst 0, 1) := by decide +kernel
theorem dX13_goThrough_56 : decode cX13_goThrough 56 = .ok (.iastore, 1) := by decide +kernel
theorem dX13_goThrough_57 : decode cX13_goThrough 57 = .ok (.aload_n 0, 1) := by decide +kernel
theorem dX13_goThrough_58 : decode cX13_goThrough 58 = .ok (.getfield 277, 3) := by decide +kernel
theorem dX13_goThrough_61 : decode cX13_goThrough 61 = .ok (.iload_n 2, 1) := by decide +kernel
theorem dX13_goThrough_62 : decode cX13_goThrough 62 = .ok (.iconst 0, 1) := by decide +kernel
theorem dX13_goThrough_63 : decode cX13_goThrough 63 = .ok (.iastore, 1) := by decide +kernel
theorem dX13_goThrough_64 : decode cX13_goThrough 64 = .ok (.iinc 2 1, 3) := by decide +kernel
theorem dX13_goThrough_67 : decode cX13_goThrough 67 = .ok (.goto (-23), 3) := by decide +kernel
theorem dX13_goThrough_70 : decode cX13_goThrough 70 = .ok (.iconst 0, 1) := by decide +kernel
theorem dX13_goThrough_71 : decode cX13_goThrough 71 = .ok (.istore_n 2, 1) := by decide +kernel
theorem dX13_goThrough_72 : decode cX13_goThrough 72 = .ok (.iload_n 2, 1) := by decide +kernel
theorem dX13_goThrough_73 : decode cX13_goThrough 73 = .ok (.bipush 15, 2) := by decide +kernel
theorem dX13_goThrough_75 : decode cX13_goThrough 75 = .ok (.if_icmp .ge 23, 3) := by decide +kernel
theorem dX13_goThrough_78 : decode cX13_goThrough 78 = .ok (.aload_n 0, 1) := by decide +kernel
theorem dX13_goThrough_79 : decode cX13_goThrough 79 = .ok (.getfield 280, 3) := by decide +kernel
theorem dX13_goThrough_82 : decode cX13_goThrough 82 = .ok (.iload_n 2, 1) := by decide +kernel
theorem dX13_goThrough_83 : decode cX13_goThrough 83 = .ok (.iconst 0, 1) := by decide +kernel
theorem dX13_goThrough_84 : decode cX13_goThrough 84 = .ok (.iastore, 1) := by decide +kernel
theorem dX13_goThrough_85 : decode cX13_goThrough 85 = .ok (.aload_n 0, 1) := by decide +kernel
theorem dX13_goThrough_86 : decode cX13_goThrough 86 = .ok (.getfield 283, 3) := by decide +kernel
theorem dX13_goThrough_89 : decode cX13_goThrough 89 = .ok (.iload_n 2, 1) := by decide +kernel
theorem dX13_goThrough_90 : decode cX13_goThrough 90 = .ok (.iconst (-1), 1) := by decide +kernel
theorem dX13_goThrough_91 : decode cX13_goThrough 91 = .ok (.iastore, 1) := by decide +kernel
theorem dX13_goThrough_92 : decode cX13_goThrough 92 = .ok (.iinc 2 1, 3) := by decide +kernel
theorem dX13_goThrough_95 : decode cX13_goThrough 95 = .ok (.goto (-23), 3) := by decide +kernel
theorem dX13_goThrough_98 : decode cX13_goThrough 98 = .ok (.iconst 0, 1) := by decide +kernel
theorem dX13_goThrough_99 : decode cX13_goThrough 99 = .ok (.istore_n 2, 1) := by decide +kernel
theorem dX13_goThrough_100 : decode cX13_goThrough 100 = .ok (.iload_n 2, 1) := by decide +kernel
theorem dX13_goThrough_101 : decode cX13_goThrough 101 = .ok (.iconst 4, 1) := by decide +kernel
theorem dX13_goThrough_102 : decode cX13_goThrough 102 = .ok (.if_icmp .ge 16, 3) := by decide +kernel
theorem dX13_goThrough_105 : decode cX13_goThrough 105 = .ok (.aload_n 0, 1) := by decide +kernel
theorem dX13_goThrough_106 : decode cX13_goThrough 106 = .ok (.getfield 286, 3) := by decide +kernel
theorem dX13_goThrough_109 : decode cX13_goThrough 109 = .ok (.iload_n 2, 1) := by decide +kernel
theorem dX13_goThrough_110 : decode cX13_goThrough 110 = .ok (.iconst 0, 1) := by decide +kernel
theorem dX13_goThrough_111 : decode cX13_goThrough 111 = .ok (.iastore, 1) := by decide +kernel
theorem dX13_goThrough_112 : decode cX13_goThrough 112 = .ok (.iinc 2 1, 3) := by decide +kernel
theorem dX13_goThrough_115 : decode cX13_goThrough 115 = .ok (.goto (-15), 3) := by decide +kernel
theorem dX13_goThrough_118 : decode cX13_goThrough 118 = .ok (.iconst 0, 1) := by decide +kernel
theorem dX13_goThrough_119 : decode cX13_goThrough 119 = .ok (.istore_n 2, 1) := by decide +kernel
theorem dX13_goThrough_120 : decode cX13_goThrough 120 = .ok (.iload_n 2, 1) := by decide +kernel
theorem dX13_goThrough_121 : decode cX13_goThrough 121 = .ok (.sipush 799, 3) := by decide +kernel
theorem dX13_goThrough_124 : decode cX13_goThrough 124 = .ok (.if_icmp .gt 58, 3) := by decide +kernel
theorem dX13_goThrough_127 : decode cX13_goThrough 127 = .ok (.iconst 0, 1) := by decide +kernel
theorem dX13_goThrough_128 : decode cX13_goThrough 128 = .ok (.istore_n 3, 1) := by decide +kernel
theorem dX13_goThrough_129 : decode cX13_goThrough 129 = .ok (.iload_n 3, 1) := by decide +kernel
theorem dX13_goThrough_130 : decode cX13_goThrough 130 = .ok (.bipush 10, 2) := by decide +kernel
theorem dX13_goThrough_132 : decode cX13_goThrough 132 = .ok (.if_icmp .ge 44, 3) := by decide +kernel
theorem dX13_goThrough_135 : decode cX13_goThrough 135 = .ok (.aload_n 0, 1) := by decide +kernel
theorem dX13_goThrough_136 : decode cX13_goThrough 136 = .ok (.getfield 274, 3) := by decide +kernel
theorem dX13_goThrough_139 : decode cX13_goThrough 139 = .ok (.iload_n 3, 1) := by decide +kernel
theorem dX13_goThrough_140 : decode cX13_goThrough 140 = .ok (.iaload, 1) := by decide +kernel
theorem dX13_goThrough_141 : decode cX13_goThrough 141 = .ok (.iload_n 2, 1) := by decide +kernel
theorem dX13_goThrough_142 : decode cX13_goThrough 142 = .ok (.if_icmp .gt 28, 3) := by decide +kernel
theorem dX13_goThrough_145 : decode cX13_goThrough 145 = .ok (.aload_n 0, 1) := by decide +kernel
theorem dX13_goThrough_146 : decode cX13_goThrough 146 = .ok (.getfield 277, 3) := by decide +kernel
theorem dX13_goThrough_149 : decode cX13_goThrough 149 = .ok (.iload_n 3, 1) := by decide +kernel
theorem dX13_goThrough_150 : decode cX13_goThrough 150 = .ok (.iaload, 1) := by decide +kernel
theorem dX13_goThrough_151 : decode cX13_goThrough 151 = .ok (.iload_n 2, 1) := by decide +kernel
theorem dX13_goThrough_152 : decode cX13_goThrough 152 = .ok (.if_icmp .gt 18, 3) := by decide +kernel
theorem dX13_goThrough_155 : decode cX13_goThrough 155 = .ok (.aload_n 0, 1) := by decide +kernel
theorem dX13_goThrough_156 : decode cX13_goThrough 156 = .ok (.iload_n 3, 1) := by decide +kernel
theorem dX13_goThrough_157 : decode cX13_goThrough 157 = .ok (.iload_n 2, 1) := by decide +kernel
theorem dX13_goThrough_158 : decode cX13_goThrough 158 = .ok (.invokevirtual 471, 3) := by decide +kernel
theorem dX13_goThrough_161 : decode cX13_goThrough 161 = .ok (.ifCond .ne 9, 3) := by decide +kernel
theorem dX13_goThrough_164 : decode cX13_goThrough 164 = .ok (.aload_n 0, 1) := by decide +kernel
theorem dX13_goThrough_165 : decode cX13_goThrough 165 = .ok (.iload_n 3, 1) := by decide +kernel
theorem dX13_goThrough_166 : decode cX13_goThrough 166 = .ok (.iload_n 2, 1) := by decide +kernel
theorem dX13_goThrough_167 : decode cX13_goThrough 167 = .ok (.invokevirtual 474, 3) := by decide +kernel
theorem dX13_goThrough_170 : decode cX13_goThrough 170 = .ok (.iinc 3 1, 3) := by decide +kernel
theorem dX13_goThrough_173 : decode cX13_goThrough 173 = .ok (.goto (-44), 3) := by decide +kernel
theorem dX13_goThrough_176 : decode cX13_goThrough 176 = .ok (.iinc 2 1, 3) := by decide +kernel
theorem dX13_goThrough_179 : decode cX13_goThrough 179 = .ok (.goto (-59), 3) := by decide +kernel
theorem dX13_goThrough_182 : decode cX13_goThrough 182 = .ok (.iconst 0, 1) := by decide +kernel
theorem dX13_goThrough_183 : decode cX13_goThrough 183 = .ok (.istore_n 2, 1) := by decide +kernel
theorem dX13_goThrough_184 : decode cX13_goThrough 184 = .ok (.iload_n 2, 1) := by decide +kernel
theorem dX13_goThrough_185 : decode cX13_goThrough 185 = .ok (.aload_n 0, 1) := by decide +kernel
theorem dX13_goThrough_186 : decode cX13_goThrough 186 = .ok (.getfield 313, 3) := by decide +kernel
theorem dX13_goThrough_189 : decode cX13_goThrough 189 = .ok (.if_icmp .ge 36, 3) := by decide +kernel
theorem dX13_goThrough_192 : decode cX13_goThrough 192 = .ok (.aload_n 0, 1) := by decide +kernel
theorem dX13_goThrough_193 : decode cX13_goThrough 193 = .ok (.getfield 221, 3) := by decide +kernel
theorem dX13_goThrough_196 : decode cX13_goThrough 196 = .ok (.iload_n 2, 1) := by decide +kernel
theorem dX13_goThrough_197 : decode cX13_goThrough 197 = .ok (.iaload, 1) := by decide +kernel
theorem dX13_goThrough_198 : decode cX13_goThrough 198 = .ok (.iconst (-1), 1) := by decide +kernel
theorem dX13_goThrough_199 : decode cX13_goThrough 199 = .ok (.if_icmp .eq 20, 3) := by decide +kernel
theorem dX13_goThrough_202 : decode cX13_goThrough 202 = .ok (.aload_n 0, 1) := by decide +kernel
theorem dX13_goThrough_203 : decode cX13_goThrough 203 = .ok (.getfield 268, 3) := by decide +kernel
theorem dX13_goThrough_206 : decode cX13_goThrough 206 = .ok (.iload_n 2, 1) := by decide +kernel
theorem dX13_goThrough_207 : decode cX13_goThrough 207 = .ok (.iaload, 1) := by decide +kernel
theorem dX13_goThrough_208 : decode cX13_goThrough 208 = .ok (.iconst (-1), 1) := by decide +kernel
theorem dX13_goThrough_209 : decode cX13_goThrough 209 = .ok (.if_icmp .ne 10, 3) := by decide +kernel
theorem dX13_goThrough_212 : decode cX13_goThrough 212 = .ok (.aload_n 0, 1) := by decide +kernel
theorem dX13_goThrough_213 : decode cX13_goThrough 213 = .ok (.getfield 292, 3) := by decide +kernel
theorem dX13_goThrough_216 : decode cX13_goThrough 216 = .ok (.iload_n 2, 1) := by decide +kernel
theorem dX13_goThrough_217 : decode cX13_goThrough 217 = .ok (.iconst 1, 1) := by decide +kernel
theorem dX13_goThrough_218 : decode cX13_goThrough 218 = .ok (.bastore, 1) := by decide +kernel
theorem dX13_goThrough_219 : decode cX13_goThrough 219 = .ok (.iinc 2 1, 3) := by decide +kernel
theorem dX13_goThrough_222 : decode cX13_goThrough 222 = .ok (.goto (-38), 3) := by decide +kernel
theorem dX13_goThrough_225 : decode cX13_goThrough 225 = .ok (.return_, 1) := by decide +kernel
noncomputable def tX13_goThrough_5 (j28 : qT (Unit × qM)) (j5 : qT (Unit × qM)) : qT (Unit × qM) :=
  oLi 2 (oLa 0 (oGi 98 32 (oCGe (oC (.int (0 : Int32)) (oSi 2 (j28))) (oLa 0 (oGf 98 60 141 (oLi 2 (oC (.int (-1 : Int32)) (oWi 141 40 (oLa 0 (oGf 98 61 142 (oLi 2 (oC (.int (0 : Int32)) (oWi 142 40 (oLa 0 (oGf 98 68 149 (oLi 2 (oC (.int (0 : Int32)) (oWz 149 40 (oInc 2 (1 : Int32) (j5))))))))))))))))))))
noncomputable def wX13_goThrough_5 (k : Int32 → qM → Option (Unit × qM)) : qT (Unit × qM) := fun lo st m => match lo, st with
  | [some (.ref 98), _, some (.int a2), _], [] => k a2 m
  | _, _ => none
noncomputable def wX13_goThrough_28 (k : Int32 → qM → Option (Unit × qM)) : qT (Unit × qM) := fun lo st m => match lo, st with
  | [some (.ref 98), _, some (.int a2), _], [] => k a2 m
  | _, _ => none
set_option maxRecDepth 20000 in
theorem sX13_goThrough_5 {C : qCx} {w : qWp} (h : qOk C w RX13 cX13_goThrough 4 6 155 155) (hm : qMt C none) (hx : qNx C) {j28 : qT (Unit × qM)} {j5 : qT (Unit × qM)} (k28 : qSnd C w 4 155 (qQf C w 155 155 jV) qfin 155 44 j28) (k5 : qSnd C w 4 155 (qQf C w 155 155 jV) qfin 155 7 j5) : qSnd C w 4 155 (qQf C w 155 155 jV) qfin 155 7 (tX13_goThrough_5 j28 j5) :=
  cLi (pc := 7) h dX13_goThrough_7 rfl (cLa (pc := 8) h dX13_goThrough_8 rfl (gGi (pc := 9) h dX13_goThrough_9 ff_X13_313_98 (Nat.le_of_ble_eq_true rfl) (Nat.le_of_ble_eq_true rfl) (jCGe (pc := 12) h dX13_goThrough_12 rfl (cC (pc := 42) h dX13_goThrough_42 rfl (cSi (pc := 43) h dX13_goThrough_43 rfl (k28))) (cLa (pc := 15) h dX13_goThrough_15 rfl (gGf (pc := 16) h dX13_goThrough_16 ff_X13_268_98 (Nat.le_of_ble_eq_true rfl) (Nat.le_of_ble_eq_true rfl) rfl (cLi (pc := 19) h dX13_goThrough_19 rfl (cC (pc := 20) h dX13_goThrough_20 rfl (rWi (pc := 21) h dX13_goThrough_21 rfl (Nat.le_of_ble_eq_true rfl) (Nat.le_of_ble_eq_true rfl) (cLa (pc := 22) h dX13_goThrough_22 rfl (gGf (pc := 23) h dX13_goThrough_23 ff_X13_271_98 (Nat.le_of_ble_eq_true rfl) (Nat.le_of_ble_eq_true rfl) rfl (cLi (pc := 26) h dX13_goThrough_26 rfl (cC (pc := 27) h dX13_goThrough_27 rfl (rWi (pc := 28) h dX13_goThrough_28 rfl (Nat.le_of_ble_eq_true rfl) (Nat.le_of_ble_eq_true rfl) (cLa (pc := 29) h dX13_goThrough_29 rfl (gGf (pc := 30) h dX13_goThrough_30 ff_X13_292_98 (Nat.le_of_ble_eq_true rfl) (Nat.le_of_ble_eq_true rfl) rfl (cLi (pc := 33) h dX13_goThrough_33 rfl (cC (pc := 34) h dX13_goThrough_34 rfl (rWz (pc := 35) h dX13_goThrough_35 rfl (Nat.le_of_ble_eq_true rfl) (Nat.le_of_ble_eq_true rfl) (cInc (pc := 36) h dX13_goThrough_36 rfl (jGo (pc := 39) h dX13_goThrough_39 rfl (k5)))))))))))))))))))))
set_option maxRecDepth 20000 in
theorem lX13_goThrough_5 (k28 : Int32 → qM → Option (Unit × qM)) (n : Nat) (a2 : Int32) (m : qM) : tX13_goThrough_5 (wX13_goThrough_28 k28) (wX13_goThrough_5 ((fX13_goThrough_5 k28 n))) [some (.ref 98), none, some (.int a2), none] [] m = fX13_goThrough_5 k28 (n + 1) a2 m := rfl
theorem bX13_goThrough_5 {C : qCx} {w : qWp} (h : qOk C w RX13 cX13_goThrough 4 6 155 155) (hm : qMt C none) (hx : qNx C) {k28 : Int32 → qM → Option (Unit × qM)} (h28 : qSnd C w 4 155 (qQf C w 155 155 jV) qfin 155 44 (wX13_goThrough_28 k28)) : ∀ n : Nat, qSnd C w 4 155 (qQf C w 155 155 jV) qfin 155 7 (wX13_goThrough_5 (fX13_goThrough_5 k28 n))
  | 0 => qSnd_of0 (fun lo st m x hr0 => by
    unfold wX13_goThrough_5 at hr0
    split at hr0
    · cases hr0
    · cases hr0)
  | n + 1 => by
    have ih := bX13_goThrough_5 h hm hx h28 n
    exact qSnd_of (fun lo st m x hr0 => by
    unfold wX13_goThrough_5 at hr0
    split at hr0
    · exact ⟨_, (qsub_e (qsub_n (qsub_e (qsub_n qsub_nil)))), (lX13_goThrough_5 _ n _ _).trans hr0⟩
    · cases hr0) (sX13_goThrough_5 h hm hx h28 ih)
noncomputable def tX13_goThrough_28 (j45 : qT (Unit × qM)) (j28 : qT (Unit × qM)) : qT (Unit × qM) :=
  oLi 2 (oC (.int (10 : Int32)) (oCGe (oC (.int (0 : Int32)) (oSi 2 (j45))) (oLa 0 (oGf 98 62 143 (oLi 2 (oC (.int (0 : Int32)) (oWi 143 10 (oLa 0 (oGf 98 63 144 (oLi 2 (oC (.int (0 : Int32)) (oWi 144 10 (oInc 2 (1 : Int32) (j28))))))))))))))
noncomputable def wX13_goThrough_45 (k : Int32 → qM → Option (Unit × qM)) : qT (Unit × qM) := fun lo st m => match lo, st with
  | [some (.ref 98), _, some (.int a2), _], [] => k a2 m
  | _, _ => none
set_option maxRecDepth 20000 in
theorem sX13_goThrough_28 {C : qCx} {w : qWp} (h : qOk C w RX13 cX13_goThrough 4 6 155 155) (hm : qMt C none) (hx : qNx C) {j45 : qT (Unit × qM)} {j28 : qT (Unit × qM)} (k45 : qSnd C w 4 155 (qQf C w 155 155 jV) qfin 155 72 j45) (k28 : qSnd C w 4 155 (qQf C w 155 155 jV) qfin 155 44 j28) : qSnd C w 4 155 (qQf C w 155 155 jV) qfin 155 44 (tX13_goThrough_28 j45 j28) :=
  cLi (pc := 44) h dX13_goThrough_44 rfl (cB (pc := 45) h dX13_goThrough_45 rfl (jCGe (pc := 47) h dX13_goThrough_47 rfl (cC (pc := 70) h dX13_goThrough_70 rfl (cSi (pc := 71) h dX13_goThrough_71 rfl (k45))) (cLa (pc := 50) h dX13_goThrough_50 rfl (gGf (pc := 51) h dX13_goThrough_51 ff_X13_274_98 (Nat.le_of_ble_eq_true rfl) (Nat.le_of_ble_eq_true rfl) rfl (cLi (pc := 54) h dX13_goThrough_54 rfl (cC (pc := 55) h dX13_goThrough_55 rfl (rWi (pc := 56) h dX13_goThrough_56 rfl (Nat.le_of_ble_eq_true rfl) (Nat.le_of_ble_eq_true rfl) (cLa (pc := 57) h dX13_goThrough_57 rfl (gGf (pc := 58) h dX13_goThrough_58 ff_X13_277_98 (Nat.le_of_ble_eq_true rfl) (Nat.le_of_ble_eq_true rfl) rfl (cLi (pc := 61) h dX13_goThrough_61 rfl (cC (pc := 62) h dX13_goThrough_62 rfl (rWi (pc := 63) h dX13_goThrough_63 rfl (Nat.le_of_ble_eq_true rfl) (Nat.le_of_ble_eq_true rfl) (cInc (pc := 64) h dX13_goThrough_64 rfl (jGo (pc := 67) h dX13_goThrough_67 rfl (k28)))))))))))))))
set_option maxRecDepth 20000 in
theorem lX13_goThrough_28 (k45 : Int32 → qM → Option (Unit × qM)) (n : Nat) (a2 : Int32) (m : qM) : tX13_goThrough_28 (wX13_goThrough_45 k45) (wX13_goThrough_28 ((fX13_goThrough_28 k45 n))) [some (.ref 98), none, some (.int a2), none] [] m = fX13_goThrough_28 k45 (n + 1) a2 m := rfl
theorem bX13_goThrough_28 {C : qCx} {w : qWp} (h : qOk C w RX13 cX13_goThrough 4 6 155 155) (hm : qMt C none) (hx : qNx C) {k45 : Int32 → qM → Option (Unit × qM)} (h45 : qSnd C w 4 155 (qQf C w 155 155 jV) qfin 155 72 (wX13_goThrough_45 k45)) : ∀ n : Nat, qSnd C w 4 155 (qQf C w 155 155 jV) qfin 155 44 (wX13_goThrough_28 (fX13_goThrough_28 k45 n))
  | 0 => qSnd_of0 (fun lo st m x hr0 => by
    unfold wX13_goThrough_28 at hr0
    split at hr0
    · cases hr0
    · cases hr0)
  | n + 1 => by
    have ih := bX13_goThrough_28 h hm hx h45 n
    exact qSnd_of (fun lo st m x hr0 => by
    unfold wX13_goThrough_28 at hr0
    split at hr0
    · exact ⟨_, (qsub_e (qsub_n (qsub_e (qsub_n qsub_nil)))), (lX13_goThrough_28 _ n _ _).trans hr0⟩
    · cases hr0) (sX13_goThrough_28 h hm hx h45 ih)
noncomputable def tX13_goThrough_45 (j62 : qT (Unit × qM)) (j45 : qT (Unit × qM)) : qT (Unit × qM) :=
  oLi 2 (oC (.int (15 : Int32)) (oCGe (oC (.int (0 : Int32)) (oSi 2 (j62))) (oLa 0 (oGf 98 64 145 (oLi 2 (oC (.int (0 : Int32)) (oWi 145 15 (oLa 0 (oGf 98 65 146 (oLi 2 (oC (.int (-1 : Int32)) (oWi 146 15 (oInc 2 (1 : Int32) (j45))))))))))))))
noncomputable def wX13_goThrough_62 (k : Int32 → qM → Option (Unit × qM)) : qT (Unit × qM) := fun lo st m => match lo, st with
  | [some (.ref 98), _, some (.int a2), _], [] => k a2 m
  | _, _ => none
set_option maxRecDepth 20000 in
theorem sX13_goThrough_45 {C : qCx} {w : qWp} (h : qOk C w RX13 cX13_goThrough 4 6 155 155) (hm : qMt C none) (hx : qNx C) {j62 : qT (Unit × qM)} {j45 : qT (Unit × qM)} (k62 : qSnd C w 4 155 (qQf C w 155 155 jV) qfin 155 100 j62) (k45 : qSnd C w 4 155 (qQf C w 155 155 jV) qfin 155 72 j45) : qSnd C w 4 155 (qQf C w 155 155 jV) qfin 155 72 (tX13_goThrough_45 j62 j45) :=
  cLi (pc := 72) h dX13_goThrough_72 rfl (cB (pc := 73) h dX13_goThrough_73 rfl (jCGe (pc := 75) h dX13_goThrough_75 rfl (cC (pc := 98) h dX13_goThrough_98 rfl (cSi (pc := 99) h dX13_goThrough_99 rfl (k62))) (cLa (pc := 78) h dX13_goThrough_78 rfl (gGf (pc := 79) h dX13_goThrough_79 ff_X13_280_98 (Nat.le_of_ble_eq_true rfl) (Nat.le_of_ble_eq_true rfl) rfl (cLi (pc := 82) h dX13_goThrough_82 rfl (cC (pc := 83) h dX13_goThrough_83 rfl (rWi (pc := 84) h dX13_goThrough_84 rfl (Nat.le_of_ble_eq_true rfl) (Nat.le_of_ble_eq_true rfl) (cLa (pc := 85) h dX13_goThrough_85 rfl (gGf (pc := 86) h dX13_goThrough_86 ff_X13_283_98 (Nat.le_of_ble_eq_true rfl) (Nat.le_of_ble_eq_true rfl) rfl (cLi (pc := 89) h dX13_goThrough_89 rfl (cC (pc := 90) h dX13_goThrough_90 rfl (rWi (pc := 91) h dX13_goThrough_91 rfl (Nat.le_of_ble_eq_true rfl) (Nat.le_of_ble_eq_true rfl) (cInc (pc := 92) h dX13_goThrough_92 rfl (jGo (pc := 95) h dX13_goThrough_95 rfl (k45)))))))))))))))
set_option maxRecDepth 20000 in
theorem lX13_goThrough_45 (k62 : Int32 → qM → Option (Unit × qM)) (n : Nat) (a2 : Int32) (m : qM) : tX13_goThrough_45 (wX13_goThrough_62 k62) (wX13_goThrough_45 ((fX13_goThrough_45 k62 n))) [some (.ref 98), none, some (.int a2), none] [] m = fX13_goThrough_45 k62 (n + 1) a2 m := rfl
theorem bX13_goThrough_45 {C : qCx} {w : qWp} (h : qOk C w RX13 cX13_goThrough 4 6 155 155) (hm : qMt C none) (hx : qNx C) {k62 : Int32 → qM → Option (Unit × qM)} (h62 : qSnd C w 4 155 (qQf C w 155 155 jV) qfin 155 100 (wX13_goThrough_62 k62)) : ∀ n : Nat, qSnd C w 4 155 (qQf C w 155 155 jV) qfin 155 72 (wX13_goThrough_45 (fX13_goThrough_45 k62 n))
  | 0 => qSnd_of0 (fun lo st m x hr0 => by
    unfold wX13_goThrough_45 at hr0
    split at hr0
    · cases hr0
    · cases hr0)
  | n + 1 => by
    have ih := bX13_goThrough_45 h hm hx h62 n
    exact qSnd_of (fun lo st m x hr0 => by
    unfold wX13_goThrough_45 at hr0
    split at hr0
    · exact ⟨_, (qsub_e (qsub_n (qsub_e (qsub_n qsub_nil)))), (lX13_goThrough_45 _ n _ _).trans hr0⟩
    · cases hr0) (sX13_goThrough_45 h hm hx h62 ih)
noncomputable def tX13_goThrough_62 (j74 : qT (Unit × qM)) (j62 : qT (Unit × qM)) : qT (Unit × qM) :=
  oLi 2 (oC (.int (4 : Int32)) (oCGe (oC (.int (0 : Int32)) (oSi 2 (j74))) (oLa 0 (oGf 98 66 147 (oLi 2 (oC (.int (0 : Int32)) (oWi 147 4 (oInc 2 (1 : Int32) (j62)))))))))
noncomputable def wX13_goThrough_74 (k : Int32 → qM → Option (Unit × qM)) : qT (Unit × qM) := fun lo st m => match lo, st with
  | [some (.ref 98), _, some (.int a2), _], [] => k a2 m
  | _, _ => none
set_option maxRecDepth 20000 in
theorem sX13_goThrough_62 {C : qCx} {w : qWp} (h : qOk C w RX13 cX13_goThrough 4 6 155 155) (hm : qMt C none) (hx : qNx C) {j74 : qT (Unit × qM)} {j62 : qT (Unit × qM)} (k74 : qSnd C w 4 155 (qQf C w 155 155 jV) qfin 155 120 j74) (k62 : qSnd C w 4 155 (qQf C w 155 155 jV) qfin 155 100 j62) : qSnd C w 4 155 (qQf C w 155 155 jV) qfin 155 100 (tX13_goThrough_62 j74 j62) :=
  cLi (pc := 100) h dX13_goThrough_100 rfl (cC (pc := 101) h dX13_goThrough_101 rfl (jCGe (pc := 102) h dX13_goThrough_102 rfl (cC (pc := 118) h dX13_goThrough_118 rfl (cSi (pc := 119) h dX13_goThrough_119 rfl (k74))) (cLa (pc := 105) h dX13_goThrough_105 rfl (gGf (pc := 106) h dX13_goThrough_106 ff_X13_286_98 (Nat.le_of_ble_eq_true rfl) (Nat.le_of_ble_eq_true rfl) rfl (cLi (pc := 109) h dX13_goThrough_109 rfl (cC (pc := 110) h dX13_goThrough_110 rfl (rWi (pc := 111) h dX13_goThrough_111 rfl (Nat.le_of_ble_eq_true rfl) (Nat.le_of_ble_eq_true rfl) (cInc (pc := 112) h dX13_goThrough_112 rfl (jGo (pc := 115) h dX13_goThrough_115 rfl (k62))))))))))
set_option maxRecDepth 20000 in
theorem lX13_goThrough_62 (k74 : Int32 → qM → Option (Unit × qM)) (n : Nat) (a2 : Int32) (m : qM) : tX13_goThrough_62 (wX13_goThrough_74 k74) (wX13_goThrough_62 ((fX13_goThrough_62 k74 n))) [some (.ref 98), none, some (.int a2), none] [] m = fX13_goThrough_62 k74 (n + 1) a2 m := rfl
theorem bX13_goThrough_62 {C : qCx} {w : qWp} (h : qOk C w RX13 cX13_goThrough 4 6 155 155) (hm : qMt C none) (hx : qNx C) {k74 : Int32 → qM → Option (Unit × qM)} (h74 : qSnd C w 4 155 (qQf C w 155 155 jV) qfin 155 120 (wX13_goThrough_74 k74)) : ∀ n : Nat, qSnd C w 4 155 (qQf C w 155 155 jV) qfin 155 100 (wX13_goThrough_62 (fX13_goThrough_62 k74 n))
  | 0 => qSnd_of0 (fun lo st m x hr0 => by
    unfold wX13_goThrough_62 at hr0
    split at hr0
    · cases hr0
    · cases hr0)
  | n + 1 => by
    have ih := bX13_goThrough_62 h hm hx h74 n
    exact qSnd_of (fun lo st m x hr0 => by
    unfold wX13_goThrough_62 at hr0
    split at hr0
    · exact ⟨_, (qsub_e (qsub_n (qsub_e (qsub_n qsub_nil)))), (lX13_goThrough_62 _ n _ _).trans hr0⟩
    · cases hr0) (sX13_goThrough_62 h hm hx h74 ih)
noncomputable def tX13_goThrough_103 (j79 : qT (Unit × qM)) : qT (Unit × qM) :=
  oInc 3 (1 : Int32) (j79)
noncomputable def wX13_goThrough_103 (k : Int32 → Int32 → qM → Option (Unit × qM)) : qT (Unit × qM) := fun lo st m => match lo, st with
  | [some (.ref 98), _, some (.int a2), some (.int a3)], [] => k a2 a3 m
  | _, _ => none
noncomputable def wX13_goThrough_79 (k : Int32 → Int32 → qM → Option (Unit × qM)) : qT (Unit × qM) := fun lo st m => match lo, st with
  | [some (.ref 98), _, some (.int a2), some (.int a3)], [] => k a2 a3 m
  | _, _ => none
set_option maxRecDepth 20000 in
theorem sX13_goThrough_103 {C : qCx} {w : qWp} (h : qOk C w RX13 cX13_goThrough 4 6 155 155) (hm : qMt C none) (hx : qNx C) {j79 : qT (Unit × qM)} (k79 : qSnd C w 4 155 (qQf C w 155 155 jV) qfin 155 129 j79) : qSnd C w 4 155 (qQf C w 155 155 jV) qfin 155 170 (tX13_goThrough_103 j79) :=
  cInc (pc := 170) h dX13_goThrough_170 rfl (jGo (pc := 173) h dX13_goThrough_173 rfl (k79))
set_option maxRecDepth 20000 in
theorem lX13_goThrough_103 (k79 : Int32 → Int32 → qM → Option (Unit × qM)) (a2 : Int32) (a3 : Int32) (m : qM) : tX13_goThrough_103 (wX13_goThrough_79 k79) [some (.ref 98), none, some (.int a2), some (.int a3)] [] m = fX13_goThrough_103 k79 a2 a3 m := rfl
theorem bX13_goThrough_103 {C : qCx} {w : qWp} (h : qOk C w RX13 cX13_goThrough 4 6 155 155) (hm : qMt C none) (hx : qNx C) {k79 : Int32 → Int32 → qM → Option (Unit × qM)} (h79 : qSnd C w 4 155 (qQf C w 155 155 jV) qfin 155 129 (wX13_goThrough_79 k79)) : qSnd C w 4 155 (qQf C w 155 155 jV) qfin 155 170 (wX13_goThrough_103 (fX13_goThrough_103 k79)) :=
  qSnd_of (fun lo st m x hr0 => by
    unfold wX13_goThrough_103 at hr0
    split at hr0
    · exact ⟨_, (qsub_e (qsub_n (qsub_e (qsub_e qsub_nil)))), (lX13_goThrough_103 _ _ _ _).trans hr0⟩
    · cases hr0) (sX13_goThrough_103 h hm hx h79)
noncomputable def tX13_goThrough_79 (j74 : qT (Unit × qM)) (j103 : qT (Unit × qM)) : qT (Unit × qM) :=
  oLi 3 (oC (.int (10 : Int32)) (oCGe (oInc 2 (1 : Int32) (j74)) (oLa 0 (oGf 98 62 143 (oLi 3 (oAi 143 10 (oLi 2 (oCGt (j103) (oLa 0 (oGf 98 63 144 (oLi 3 (oAi 144 10 (oLi 2 (oCGt (j103) (oLa 0 (oLi 3 (oLi 2 (oCi GX13_isAway 3 (oEq (oLa 0 (oLi 3 (oLi 2 (oCv GX13_look 3 (j103))))) (j103))))))))))))))))))))
set_option maxRecDepth 20000 in
theorem sX13_goThrough_79 {C : qCx} {w : qWp} (h : qOk C w RX13 cX13_goThrough 4 6 155 155) (hm : qMt C none) (hx : qNx C) {j74 : qT (Unit × qM)} {j103 : qT (Unit × qM)} (k74 : qSnd C w 4 155 (qQf C w 155 155 jV) qfin 155 120 j74) (k103 : qSnd C w 4 155 (qQf C w 155 155 jV) qfin 155 170 j103) : qSnd C w 4 155 (qQf C w 155 155 jV) qfin 155 129 (tX13_goThrough_79 j74 j103) :=
  cLi (pc := 129) h dX13_goThrough_129 rfl (cB (pc := 130) h dX13_goThrough_130 rfl (jCGe (pc := 132) h dX13_goThrough_132 rfl (cInc (pc := 176) h dX13_goThrough_176 rfl (jGo (pc := 179) h dX13_goThrough_179 rfl (k74))) (cLa (pc := 135) h dX13_goThrough_135 rfl (gGf (pc := 136) h dX13_goThrough_136 ff_X13_274_98 (Nat.le_of_ble_eq_true rfl) (Nat.le_of_ble_eq_true rfl) rfl (cLi (pc := 139) h dX13_goThrough_139 rfl (rAi (pc := 140) h dX13_goThrough_140 rfl (Nat.le_of_ble_eq_true rfl) (Nat.le_of_ble_eq_true rfl) (cLi (pc := 141) h dX13_goThrough_141 rfl (jCGt (pc := 142) h dX13_goThrough_142 rfl (k103) (cLa (pc := 145) h dX13_goThrough_145 rfl (gGf (pc := 146) h dX13_goThrough_146 ff_X13_277_98 (Nat.le_of_ble_eq_true rfl) (Nat.le_of_ble_eq_true rfl) rfl (cLi (pc := 149) h dX13_goThrough_149 rfl (rAi (pc := 150) h dX13_goThrough_150 rfl (Nat.le_of_ble_eq_true rfl) (Nat.le_of_ble_eq_true rfl) (cLi (pc := 151) h dX13_goThrough_151 rfl (jCGt (pc := 152) h dX13_goThrough_152 rfl (k103) (cLa (pc := 155) h dX13_goThrough_155 rfl (cLi (pc := 156) h dX13_goThrough_156 rfl (cLi (pc := 157) h dX13_goThrough_157 rfl (kCi (pc := 158) h (kd_X13_471 h dX13_goThrough_158) spX13_isAway (by decide) (by decide) (by decide) (by decide) (jNe (pc := 161) h dX13_goThrough_161 rfl (k103) (cLa (pc := 164) h dX13_goThrough_164 rfl (cLi (pc := 165) h dX13_goThrough_165 rfl (cLi (pc := 166) h dX13_goThrough_166 rfl (kCv (pc := 167) h (kd_X13_474 h dX13_goThrough_167) spX13_look (by decide) (by decide) (by decide) (by decide) (k103))))))))))))))))))))))))
set_option maxRecDepth 20000 in
theorem lX13_goThrough_79 (k74 : Int32 → qM → Option (Unit × qM)) (n : Nat) (a2 : Int32) (a3 : Int32) (m : qM) : tX13_goThrough_79 (wX13_goThrough_74 k74) (wX13_goThrough_103 (fX13_goThrough_103 (fX13_goThrough_79 k74 n))) [some (.ref 98), none, some (.int a2), some (.int a3)] [] m = fX13_goThrough_79 k74 (n + 1) a2 a3 m := rfl
theorem bX13_goThrough_79 {C : qCx} {w : qWp} (h : qOk C w RX13 cX13_goThrough 4 6 155 155) (hm : qMt C none) (hx : qNx C) {k74 : Int32 → qM → Option (Unit × qM)} (h74 : qSnd C w 4 155 (qQf C w 155 155 jV) qfin 155 120 (wX13_goThrough_74 k74)) : ∀ n : Nat, qSnd C w 4 155 (qQf C w 155 155 jV) qfin 155 129 (wX13_goThrough_79 (fX13_goThrough_79 k74 n))
  | 0 => qSnd_of0 (fun lo st m x hr0 => by
    unfold wX13_goThrough_79 at hr0
    split at hr0
    · cases hr0
    · cases hr0)
  | n + 1 => by
    have ih := bX13_goThrough_79 h hm hx h74 n
    exact qSnd_of (fun lo st m x hr0 => by
    unfold wX13_goThrough_79 at hr0
    split at hr0
    · exact ⟨_, (qsub_e (qsub_n (qsub_e (qsub_e qsub_nil)))), (lX13_goThrough_79 _ n _ _ _).trans hr0⟩
    · cases hr0) (sX13_goThrough_79 h hm hx h74 (bX13_goThrough_103 h hm hx ih))
noncomputable def tX13_goThrough_74 (j109 : qT (Unit × qM)) (j79 : qT (Unit × qM)) : qT (Unit × qM) :=
  oLi 2 (oC (.int (799 : Int32)) (oCGt (oC (.int (0 : Int32)) (oSi 2 (j109))) (oC (.int (0 : Int32)) (oSi 3 (j79)))))
noncomputable def wX13_goThrough_109 (k : Int32 → qM → Option (Unit × qM)) : qT (Unit × qM) := fun lo st m => match lo, st with
  | [some (.ref 98), _, some (.int a2), _], [] => k a2 m
  | _, _ => none
set_option maxRecDepth 20000 in
theorem sX13_goThrough_74 {C : qCx} {w : qWp} (h : qOk C w RX13 cX13_goThrough 4 6 155 155) (hm : qMt C none) (hx : qNx C) {j109 : qT (Unit × qM)} {j79 : qT (Unit × qM)} (k109 : qSnd C w 4 155 (qQf C w 155 155 jV) qfin 155 184 j109) (k79 : qSnd C w 4 155 (qQf C w 155 155 jV) qfin 155 129 j79) : qSnd C w 4 155 (qQf C w 155 155 jV) qfin 155 120 (tX13_goThrough_74 j109 j79) :=
  cLi (pc := 120) h dX13_goThrough_120 rfl (cS (pc := 121) h dX13_goThrough_121 rfl (jCGt (pc := 124) h dX13_goThrough_124 rfl (cC (pc := 182) h dX13_goThrough_182 rfl (cSi (pc := 183) h dX13_goThrough_183 rfl (k109))) (cC (pc := 127) h dX13_goThrough_127 rfl (cSi (pc := 128) h dX13_goThrough_128 rfl (k79)))))
set_option maxRecDepth 20000 in
theorem lX13_goThrough_74 (k109 : Int32 → qM → Option (Unit × qM)) (n : Nat) (a2 : Int32) (m : qM) : tX13_goThrough_74 (wX13_goThrough_109 k109) (wX13_goThrough_79 (fX13_goThrough_79 (fX13_goThrough_74 k109 n) FU)) [some (.ref 98), none, some (.int a2), none] [] m = fX13_goThrough_74 k109 (n + 1) a2 m := rfl
theorem bX13_goThrough_74 {C : qCx} {w : qWp} (h : qOk C w RX13 cX13_goThrough 4 6 155 155) (hm : qMt C none) (hx : qNx C) {k109 : Int32 → qM → Option (Unit × qM)} (h109 : qSnd C w 4 155 (qQf C w 155 155 jV) qfin 155 184 (wX13_goThrough_109 k109)) : ∀ n : Nat, qSnd C w 4 155 (qQf C w 155 155 jV) qfin 155 120 (wX13_goThrough_74 (fX13_goThrough_74 k109 n))
  | 0 => qSnd_of0 (fun lo st m x hr0 => by
    unfold wX13_goThrough_74 at hr0
    split at hr0
    · cases hr0
    · cases hr0)
  | n + 1 => by
    have ih := bX13_goThrough_74 h hm hx h109 n
    exact qSnd_of (fun lo st m x hr0 => by
    unfold wX13_goThrough_74 at hr0
    split at hr0
    · exact ⟨_, (qsub_e (qsub_n (qsub_e (qsub_n qsub_nil)))), (lX13_goThrough_74 _ n _ _).trans hr0⟩
    · cases hr0) (sX13_goThrough_74 h hm hx h109 (bX13_goThrough_79 h hm hx ih FU))
noncomputable def tX13_goThrough_130 (j109 : qT (Unit × qM)) : qT (Unit × qM) :=
  oInc 2 (1 : Int32) (j109)
noncomputable def wX13_goThrough_130 (k : Int32 → qM → Option (Unit × qM)) : qT (Unit × qM) := fun lo st m => match lo, st with
  | [some (.ref 98), _, some (.int a2), _], [] => k a2 m
  | _, _ => none
set_option maxRecDepth 20000 in
theorem sX13_goThrough_130 {C : qCx} {w : qWp} (h : qOk C w RX13 cX13_goThrough 4 6 155 155) (hm : qMt C none) (hx : qNx C) {j109 : qT (Unit × qM)} (k109 : qSnd C w 4 155 (qQf C w 155 155 jV) qfin 155 184 j109) : qSnd C w 4 155 (qQf C w 155 155 jV) qfin 155 219 (tX13_goThrough_130 j109) :=
  cInc (pc := 219) h dX13_goThrough_219 rfl (jGo (pc := 222) h dX13_goThrough_222 rfl (k109))
set_option maxRecDepth 20000 in
theorem lX13_goThrough_130 (k109 : Int32 → qM → Option (Unit × qM)) (a2 : Int32) (m : qM) : tX13_goThrough_130 (wX13_goThrough_109 k109) [some (.ref 98), none, some (.int a2), none] [] m = fX13_goThrough_130 k109 a2 m := rfl
theorem bX13_goThrough_130 {C : qCx} {w : qWp} (h : qOk C w RX13 cX13_goThrough 4 6 155 155) (hm : qMt C none) (hx : qNx C) {k109 : Int32 → qM → Option (Unit × qM)} (h109 : qSnd C w 4 155 (qQf C w 155 155 jV) qfin 155 184 (wX13_goThrough_109 k109)) : qSnd C w 4 155 (qQf C w 155 155 jV) qfin 155 219 (wX13_goThrough_130 (fX13_goThrough_130 k109)) :=
  qSnd_of (fun lo st m x hr0 => by
    unfold wX13_goThrough_130 at hr0
    split at hr0
    · exact ⟨_, (qsub_e (qsub_n (qsub_e (qsub_n qsub_nil)))), (lX13_goThrough_130 _ _ _).trans hr0⟩
    · cases hr0) (sX13_goThrough_130 h hm hx h109)
noncomputable def tX13_goThrough_109 (j130 : qT (Unit × qM)) : qT (Unit × qM) :=
  oLi 2 (oLa 0 (oGi 98 32 (oCGe (eV) (oLa 0 (oGf 98 36 125 (oLi 2 (oAi 125 40 (oC (.int (-1 : Int32)) (oCEq (j130) (oLa 0 (oGf 98 60 141 (oLi 2 (oAi 141 40 (oC (.int (-1 : Int32)) (oCEq (oLa 0 (oGf 98 68 149 (oLi 2 (oC (.int (1 : Int32)) (oWz 149 40 (j130)))))) (j130))))))))))))))))
set_option maxRecDepth 20000 in
theorem sX13_goThrough_109 {C : qCx} {w : qWp} (h : qOk C w RX13 cX13_goThrough 4 6 155 155) (hm : qMt C none) (hx : qNx C) {j130 : qT (Unit × qM)} (k130 : qSnd C w 4 155 (qQf C w 155 155 jV) qfin 155 219 j130) : qSnd C w 4 155 (qQf C w 155 155 jV) qfin 155 184 (tX13_goThrough_109 j130) :=
  cLi (pc := 184) h dX13_goThrough_184 rfl (cLa (pc := 185) h dX13_goThrough_185 rfl (gGi (pc := 186) h dX13_goThrough_186 ff_X13_313_98 (Nat.le_of_ble_eq_true rfl) (Nat.le_of_ble_eq_true rfl) (jCGe (pc := 189) h dX13_goThrough_189 rfl (zV (pc := 225) h hm (Nat.le_refl _) dX13_goThrough_225) (cLa (pc := 192) h dX13_goThrough_192 rfl (gGf (pc := 193) h dX13_goThrough_193 ff_X13_221_98 (Nat.le_of_ble_eq_true rfl) (Nat.le_of_ble_eq_true rfl) rfl (cLi (pc := 196) h dX13_goThrough_196 rfl (rAi (pc := 197) h dX13_goThrough_197 rfl (Nat.le_of_ble_eq_true rfl) (Nat.le_of_ble_eq_true rfl) (cC (pc := 198) h dX13_goThrough_198 rfl (jCEq (pc := 199) h dX13_goThrough_199 rfl (k130) (cLa (pc := 202) h dX13_goThrough_202 rfl (gGf (pc := 203) h dX13_goThrough_203 ff_X13_268_98 (Nat.le_of_ble_eq_true rfl) (Nat.le_of_ble_eq_true rfl) rfl (cLi (pc := 206) h dX13_goThrough_206 rfl (rAi (pc := 207) h dX13_goThrough_207 rfl (Nat.le_of_ble_eq_true rfl) (Nat.le_of_ble_eq_true rfl) (cC (pc := 208) h dX13_goThrough_208 rfl (jCNe (pc := 209) h dX13_goThrough_209 rfl (k130) (cLa (pc := 212) h dX13_goThrough_212 rfl (gGf (pc := 213) h dX13_goThrough_213 ff_X13_292_98 (Nat.le_of_ble_eq_true rfl) (Nat.le_of_ble_eq_true rfl) rfl (cLi (pc := 216) h dX13_goThrough_216 rfl (cC (pc := 217) h dX13_goThrough_217 rfl (rWz (pc := 218) h dX13_goThrough_218 rfl (Nat.le_of_ble_eq_true rfl) (Nat.le_of_ble_eq_true rfl) (k130)))))))))))))))))))))
set_option maxRecDepth 20000 in
theorem lX13_goThrough_109 (n : Nat) (a2 : Int32) (m : qM) : tX13_goThrough_109 (wX13_goThrough_130 (fX13_goThrough_130 (fX13_goThrough_109 n))) [some (.ref 98), none, some (.int a2), none] [] m = fX13_goThrough_109 (n + 1) a2 m := rfl
theorem bX13_goThrough_109 {C : qCx} {w : qWp} (h : qOk C w RX13 cX13_goThrough 4 6 155 155) (hm : qMt C none) (hx : qNx C) : ∀ n : Nat, qSnd C w 4 155 (qQf C w 155 155 jV) qfin 155 184 (wX13_goThrough_109 (fX13_goThrough_109 n))
  | 0 => qSnd_of0 (fun lo st m x hr0 => by
    unfold wX13_goThrough_109 at hr0
    split at hr0
    · cases hr0
    · cases hr0)
  | n + 1 => by
    have ih := bX13_goThrough_109 h hm hx n
    exact qSnd_of (fun lo st m x hr0 => by
    unfold wX13_goThrough_109 at hr0
    split at hr0
    · exact ⟨_, (qsub_e (qsub_n (qsub_e (qsub_n qsub_nil)))), (lX13_goThrough_109 n _ _).trans hr0⟩
    · cases hr0) (sX13_goThrough_109 h hm hx (bX13_goThrough_130 h hm hx ih))
noncomputable def tX13_goThrough_0 (j5 : qT (Unit × qM)) : qT (Unit × qM) :=
  oLa 0 (oLi 1 (oCv GX13_know 2 (oC (.int (0 : Int32)) (oSi 2 (j5)))))
set_option maxRecDepth 20000 in
theorem sX13_goThrough_0 {C : qCx} {w : qWp} (h : qOk C w RX13 cX13_goThrough 4 6 155 155) (hm : qMt C none) (hx : qNx C) {j5 : qT (Unit × qM)} (k5 : qSnd C w 4 155 (qQf C w 155 155 jV) qfin 155 7 j5) : qSnd C w 4 155 (qQf C w 155 155 jV) qfin 155 0 (tX13_goThrough_0 j5) :=
  cLa (pc := 0) h dX13_goThrough_0 rfl (cLi (pc := 1) h dX13_goThrough_1 rfl (kCv (pc := 2) h (kd_X13_468 h dX13_goThrough_2) spX13_know (by decide) (by decide) (by decide) (by decide) (cC (pc := 5) h dX13_goThrough_5 rfl (cSi (pc := 6) h dX13_goThrough_6 rfl (k5)))))
set_option maxRecDepth 20000 in
theorem lX13_goThrough_0 (a1 : Int32) (m : qM) : tX13_goThrough_0 (wX13_goThrough_5 (fX13_goThrough_5 (fX13_goThrough_28 (fX13_goThrough_45 (fX13_goThrough_62 (fX13_goThrough_74 (fX13_goThrough_109 FU) FU) FU) FU) FU) FU)) [some (.ref 98), some (.int a1), none, none] [] m = fX13_goThrough_0 a1 m := rfl
noncomputable def GX13_goThrough : qG Unit := fun av m => match av with
  | [.ref 98, .int a1] => fX13_goThrough a1 m
  | _ => none
theorem spX13_goThrough : qSpV yX13_goThrough (.code yX13_goThrough cX13_goThrough 4 none) 6 qfin 155 155 1 GX13_goThrough := by
  intro av m m' hG
  unfold GX13_goThrough at hG
  split at hG
  · rename_i a1
    rw [fX13_goThrough_d] at hG
    exact ⟨qmeet (J := jV) (r := ((), m')) (av := [.ref 98, .int a1]) (by decide +kernel) (Nat.le_of_ble_eq_true rfl) (fun C w h hm hx hn => sX13_goThrough_0 h hm hx (bX13_goThrough_5 h hm hx (bX13_goThrough_28 h hm hx (bX13_goThrough_45 h hm hx (bX13_goThrough_62 h hm hx (bX13_goThrough_74 h hm hx (bX13_goThrough_109 h hm hx FU) FU) FU) FU) FU) FU)) ((lX13_goThrough_0 _ _).trans hG) (Nat.le_of_ble_eq_true rfl), Or.inl ⟨98, _, 13, _, _, rfl, by decide, rfl, qCk_13, rfl⟩⟩
  · cases hG
theorem im_X13_goThrough : Jvm.Cond.instanceMethod yX13_goThrough ∈ qTw := qm9 (List.mem_of_getElem? (i := 56) (by decide +kernel)) (by decide +kernel)
theorem se_X13_goThrough : Jvm.Cond.selects yX13_goThrough.cls yX13_goThrough yX13_goThrough ∈ qTw := List.mem_filter.mpr ⟨List.mem_append_left _ (List.mem_of_getElem? (i := 72) (by decide +kernel)), rfl⟩
theorem co_X13_goThrough : Jvm.Cond.code yX13_goThrough cX13_goThrough 4 none ∈ qTw := qm9 (List.mem_of_getElem? (i := 57) (by decide +kernel)) (by decide +kernel)
theorem yk_X13_goThrough : qYk yX13_goThrough 1 := ⟨⟨by decide +kernel, by decide +kernel⟩, by decide +kernel⟩
theorem ml_X13_503 : Jvm.Cond.methodLink RX13 503 yX13_goThrough ∈ qTw := qm9 (List.mem_of_getElem? (i := 54) (by decide +kernel)) (by decide +kernel)
theorem kd_X13_503 {C : qCx} {w : qWp} {cc : ByteArray} {nL dp n0 n1 pc : Nat} (h : qOk C w RX13 cc nL dp n0 n1) (d : decode cc pc = .ok (.invokevirtual 503, 3)) : qCallOk C w nL dp n0 n1 pc 2 1 yX13_goThrough (.code yX13_goThrough cX13_goThrough 4 none) := kindV h d ml_X13_503 im_X13_goThrough se_X13_goThrough in_ParentEveModel co_X13_goThrough yk_X13_goThrough (by decide)
theorem dX13_meeting_0 : decode cX13_meeting 0 = .ok (.aload_n 0, 1) := by decide +kernel
theorem dX13_meeting_1 : decode cX13_meeting 1 = .ok (.iload_n 1, 1) := by decide +kernel
theorem dX13_meeting_2 : decode cX13_meeting 2 = .ok (.invokevirtual 372, 3) := by decide +kernel
theorem dX13_meeting_5 : decode cX13_meeting 5 = .ok (.ifCond .eq 23, 3) := by decide +kernel
theorem dX13_meeting_8 : decode cX13_meeting 8 = .ok (.aload_n 0, 1) := by decide +kernel
theorem dX13_meeting_9 : decode cX13_meeting 9 = .ok (.iload_n 2, 1) := by decide +kernel
theorem dX13_meeting_10 : decode cX13_meeting 10 = .ok (.invokevirtual 449, 3) := by decide +kernel
theorem dX13_meeting_13 : decode cX13_meeting 13 = .ok (.ifCond .eq 15, 3) := by decide +kernel
theorem dX13_meeting_16 : decode cX13_meeting 16 = .ok (.iload_n 3, 1) := by decide +kernel
theorem dX13_meeting_17 : decode cX13_meeting 17 = .ok (.i2l, 1) := by decide +kernel
theorem dX13_meeting_18 : decode cX13_meeting 18 = .ok (.lconst 0, 1) := by decide +kernel
theorem dX13_meeting_19 : decode cX13_meeting 19 = .ok (.ldc2_w 335, 3) := by decide +kernel
theorem dX13_meeting_22 : decode cX13_meeting 22 = .ok (.invokestatic 66, 3) := by decide +kernel
theorem dX13_meeting_25 : decode cX13_meeting 25 = .ok (.ifCond .ne 6, 3) := by decide +kernel
theorem dX13_meeting_28 : decode cX13_meeting 28 = .ok (.bipush (-2), 2) := by decide +kernel
theorem dX13_meeting_30 : decode cX13_meeting 30 = .ok (.ireturn, 1) := by decide +kernel
theorem dX13_meeting_31 : decode cX13_meeting 31 = .ok (.aload_n 0, 1) := by decide +kernel
theorem dX13_meeting_32 : decode cX13_meeting 32 = .ok (.iload_n 1, 1) := by decide +kernel
theorem dX13_meeting_33 : decode cX13_meeting 33 = .ok (.invokevirtual 458, 3) := by decide +kernel
theorem dX13_meeting_36 : decode cX13_meeting 36 = .ok (.ifCond .ne 6, 3) := by decide +kernel
theorem dX13_meeting_39 : decode cX13_meeting 39 = .ok (.bipush (-4), 2) := by decide +kernel
theorem dX13_meeting_41 : decode cX13_meeting 41 = .ok (.ireturn, 1) := by decide +kernel
theorem dX13_meeting_42 : decode cX13_meeting 42 = .ok (.aload_n 0, 1) := by decide +kernel
theorem dX13_meeting_43 : decode cX13_meeting 43 = .ok (.iload_n 2, 1) := by decide +kernel
theorem dX13_meeting_44 : decode cX13_meeting 44 = .ok (.invokevirtual 503, 3) := by decide +kernel
theorem dX13_meeting_47 : decode cX13_meeting 47 = .ok (.iload_n 3, 1) := by decide +kernel
theorem dX13_meeting_48 : decode cX13_meeting 48 = .ok (.tableswitch 77 0 2 #[28, 35, 62], 28) := by decide +kernel
theorem dX13_meeting_76 : decode cX13_meeting 76 = .ok (.aload_n 0, 1) := by decide +kernel
theorem dX13_meeting_77 : decode cX13_meeting 77 = .ok (.getfield 268, 3) := by decide +kernel
theorem dX13_meeting_80 : decode cX13_meeting 80 = .ok (.iload_n 1, 1) := by decide +kernel
theorem dX13_meeting_81 : decode cX13_meeting 81 = .ok (.iaload, 1) := by decide +kernel
theorem dX13_meeting_82 : decode cX13_meeting 82 = .ok (.ireturn, 1) := by decide +kernel
theorem dX13_meeting_83 : decode cX13_meeting 83 = .ok (.aload_n 0, 1) := by decide +kernel
theorem dX13_meeting_84 : decode cX13_meeting 84 = .ok (.getfield 292, 3) := by decide +kernel
theorem dX13_meeting_87 : decode cX13_meeting 87 = .ok (.iload_n 1, 1) := by decide +kernel
theorem dX13_meeting_88 : decode cX13_meeting 88 = .ok (.baload, 1) := by decide +kernel
theorem dX13_meeting_89 : decode cX13_meeting 89 = .ok (.ifCond .eq 7, 3) := by decide +kernel
theorem dX13_meeting_92 : decode cX13_meeting 92 = .ok (.iconst (-1), 1) := by decide +kernel
theorem dX13_meeting_93 : decode cX13_meeting 93 = .ok (.goto 16, 3) := by decide +kernel
theorem dX13_meeting_96 : decode cX13_meeting 96 = .ok (.aload_n 0, 1) := by decide +kernel
theorem dX13_meeting_97 : decode cX13_meeting 97 = .ok (.getfield 268, 3) := by decide +kernel
theorem dX13_meeting_100 : decode cX13_meeting 100 = .ok (.iload_n 1, 1) := by decide +kernel
theorem dX13_meeting_101 : decode cX13_meeting 101 = .ok (.iaload, 1) := by decide +kernel
theorem dX13_meeting_102 : decode cX13_meeting 102 = .ok (.aload_n 0, 1) := by decide +kernel
theorem dX13_meeting_103 : decode cX13_meeting 103 = .ok (.getfield 271, 3) := by decide +kernel
theorem dX13_meeting_106 : decode cX13_meeting 106 = .ok (.iload_n 1, 1) := by decide +kernel
theorem dX13_meeting_107 : decode cX13_meeting 107 = .ok (.iaload, 1) := by decide +kernel
theorem dX13_meeting_108 : decode cX13_meeting 108 = .ok (.iadd, 1) := by decide +kernel
theorem dX13_meeting_109 : decode cX13_meeting 109 = .ok (.ireturn, 1) := by decide +kernel
theorem dX13_meeting_110 : decode cX13_meeting 110 = .ok (.aload_n 0, 1) := by decide +kernel
theorem dX13_meeting_111 : decode cX13_meeting 111 = .ok (.getfield 292, 3) := by decide +kernel
theorem dX13_meeting_114 : decode cX13_meeting 114 = .ok (.iload_n 1, 1) := by decide +kernel
theorem dX13_meeting_115 : decode cX13_meeting 115 = .ok (.baload, 1) := by decide +kernel
theorem dX13_meeting_116 : decode cX13_meeting 116 = .ok (.ifCond .eq 7, 3) := by decide +kernel
theorem dX13_meeting_119 : decode cX13_meeting 119 = .ok (.iconst 1, 1) := by decide +kernel
theorem dX13_meeting_120 : decode cX13_meeting 120 = .ok (.goto 4, 3) := by decide +kernel
theorem dX13_meeting_123 : decode cX13_meeting 123 = .ok (.iconst 0, 1) := by decide +kernel
theorem dX13_meeting_124 : decode cX13_meeting 124 = .ok (.ireturn, 1) := by decide +kernel
theorem dX13_meeting_125 : decode cX13_meeting 125 = .ok (.aload_n 0, 1) := by decide +kernel
theorem dX13_meeting_126 : decode cX13_meeting 126 = .ok (.getfield 271, 3) := by decide +kernel
theorem dX13_meeting_129 : decode cX13_meeting 129 = .ok (.iload_n 1, 1) := by decide +kernel
theorem dX13_meeting_130 : decode cX13_meeting 130 = .ok (.iaload, 1) := by decide +kernel
theorem dX13_meeting_131 : decode cX13_meeting 131 = .ok (.ireturn, 1) := by decide +kernel
noncomputable def tX13_meeting_14 : qT (Int32 × qM) :=
  oC (.int (-2 : Int32)) (eI)
noncomputable def wX13_meeting_14 (k : qM → Option (Int32 × qM)) : qT (Int32 × qM) := fun lo st m => match lo, st with
  | [_, _, _, _], [] => k m
  | _, _ => none
set_option maxRecDepth 20000 in
theorem sX13_meeting_14 {C : qCx} {w : qWp} (h : qOk C w RX13 cX13_meeting 4 7 155 155) (hm : qMt C (some .int)) (hx : qNx C) : qSnd C w 4 155 (qQf C w 155 155 jI) qfin 155 28 (tX13_meeting_14) :=
  cB (pc := 28) h dX13_meeting_28 rfl (zI (pc := 30) h hm (Nat.le_refl _) dX13_meeting_30)
set_option maxRecDepth 20000 in
theorem lX13_meeting_14 (m : qM) : tX13_meeting_14 [none, none, none, none] [] m = fX13_meeting_14 m := rfl
theorem bX13_meeting_14 {C : qCx} {w : qWp} (h : qOk C w RX13 cX13_meeting 4 7 155 155) (hm : qMt C (some .int)) (hx : qNx C) : qSnd C w 4 155 (qQf C w 155 155 jI) qfin 155 28 (wX13_meeting_14 fX13_meeting_14) :=
  qSnd_of (fun lo st m x hr0 => by
    unfold wX13_meeting_14 at hr0
    split at hr0
    · exact ⟨_, (qsub_n (qsub_n (qsub_n (qsub_n qsub_nil)))), (lX13_meeting_14 _).trans hr0⟩
    · cases hr0) (sX13_meeting_14 h hm hx)
noncomputable def tX13_meeting_48 : qT (Int32 × qM) :=
  eI
noncomputable def wX13_meeting_48 (k : Int32 → qM → Option (Int32 × qM)) : qT (Int32 × qM) := fun lo st m => match lo, st with
  | [_, _, _, _], [.int s0] => k s0 m
  | _, _ => none
set_option maxRecDepth 20000 in
theorem sX13_meeting_48 {C : qCx} {w : qWp} (h : qOk C w RX13 cX13_meeting 4 7 155 155) (hm : qMt C (some .int)) (hx : qNx C) : qSnd C w 4 155 (qQf C w 155 155 jI) qfin 155 109 (tX13_meeting_48) :=
  zI (pc := 109) h hm (Nat.le_refl _) dX13_meeting_109
set_option maxRecDepth 20000 in
theorem lX13_meeting_48 (s0 : Int32) (m : qM) : tX13_meeting_48 [none, none, none, none] [(.int s0)] m = fX13_meeting_48 s0 m := rfl
theorem bX13_meeting_48 {C : qCx} {w : qWp} (h : qOk C w RX13 cX13_meeting 4 7 155 155) (hm : qMt C (some .int)) (hx : qNx C) : qSnd C w 4 155 (qQf C w 155 155 jI) qfin 155 109 (wX13_meeting_48 fX13_meeting_48) :=
  qSnd_of (fun lo st m x hr0 => by
    unfold wX13_meeting_48 at hr0
    split at hr0
    · exact ⟨_, (qsub_n (qsub_n (qsub_n (qsub_n qsub_nil)))), (lX13_meeting_48 _ _).trans hr0⟩
    · cases hr0) (sX13_meeting_48 h hm hx)
noncomputable def tX13_meeting_57 : qT (Int32 × qM) :=
  eI
noncomputable def wX13_meeting_57 (k : Int32 → qM → Option (Int32 × qM)) : qT (Int32 × qM) := fun lo st m => match lo, st with
  | [_, _, _, _], [.int s0] => k s0 m
  | _, _ => none
set_option maxRecDepth 20000 in
theorem sX13_meeting_57 {C : qCx} {w : qWp} (h : qOk C w RX13 cX13_meeting 4 7 155 155) (hm : qMt C (some .int)) (hx : qNx C) : qSnd C w 4 155 (qQf C w 155 155 jI) qfin 155 124 (tX13_meeting_57) :=
  zI (pc := 124) h hm (Nat.le_refl _) dX13_meeting_124
set_option maxRecDepth 20000 in
theorem lX13_meeting_57 (s0 : Int32) (m : qM) : tX13_meeting_57 [none, none, none, none] [(.int s0)] m = fX13_meeting_57 s0 m := rfl
theorem bX13_meeting_57 {C : qCx} {w : qWp} (h : qOk C w RX13 cX13_meeting 4 7 155 155) (hm : qMt C (some .int)) (hx : qNx C) : qSnd C w 4 155 (qQf C w 155 155 jI) qfin 155 124 (wX13_meeting_57 fX13_meeting_57) :=
  qSnd_of (fun lo st m x hr0 => by
    unfold wX13_meeting_57 at hr0
    split at hr0
    · exact ⟨_, (qsub_n (qsub_n (qsub_n (qsub_n qsub_nil)))), (lX13_meeting_57 _ _).trans hr0⟩
    · cases hr0) (sX13_meeting_57 h hm hx)
noncomputable def tX13_meeting_0 (j14 : qT (Int32 × qM)) (j48 : qT (Int32 × qM)) (j57 : qT (Int32 × qM)) : qT (Int32 × qM) :=
  oLa 0 (oLi 1 (oCi GX13_isAsk 2 (oEq (j14) (oLa 0 (oLi 2 (oCi GX13_isMinute 2 (oEq (j14) (oLi 3 (oI2l (oC (.long (0 : Int64)) (oC (.long (3 : Int64)) (oCi GX13_in 3 (oEq (j14) (oLa 0 (oLi 1 (oCi GX13_isMeeting 2 (oEq (oC (.int (-4 : Int32)) (eI)) (oLa 0 (oLi 2 (oCv GX13_goThrough 2 (oLi 3 (oSw (0 : Int32) (oLa 0 (oGf 98 61 142 (oLi 1 (oAi 142 40 (eI))))) [oLa 0 (oGf 98 60 141 (oLi 1 (oAi 141 40 (eI)))), oLa 0 (oGf 98 68 149 (oLi 1 (oAi 149 40 (oEq (oLa 0 (oGf 98 60 141 (oLi 1 (oAi 141 40 (oLa 0 (oGf 98 61 142 (oLi 1 (oAi 142 40 (o2 (· + ·) (j48)))))))))) (oC (.int (-1 : Int32)) (j48)))))), oLa 0 (oGf 98 68 149 (oLi 1 (oAi 149 40 (oEq (oC (.int (0 : Int32)) (j57)) (oC (.int (1 : Int32)) (j57))))))]))))))))))))))))))))))
set_option maxRecDepth 20000 in
theorem sX13_meeting_0 {C : qCx} {w : qWp} (h : qOk C w RX13 cX13_meeting 4 7 155 155) (hm : qMt C (some .int)) (hx : qNx C) {j14 : qT (Int32 × qM)} {j48 : qT (Int32 × qM)} {j57 : qT (Int32 × qM)} (k14 : qSnd C w 4 155 (qQf C w 155 155 jI) qfin 155 28 j14) (k48 : qSnd C w 4 155 (qQf C w 155 155 jI) qfin 155 109 j48) (k57 : qSnd C w 4 155 (qQf C w 155 155 jI) qfin 155 124 j57) : qSnd C w 4 155 (qQf C w 155 155 jI) qfin 155 0 (tX13_meeting_0 j14 j48 j57) :=
  cLa (pc := 0) h dX13_meeting_0 rfl (cLi (pc := 1) h dX13_meeting_1 rfl (kCi (pc := 2) h (kd_X13_372 h dX13_meeting_2) spX13_isAsk (by decide) (by decide) (by decide) (by decide) (jEq (pc := 5) h dX13_meeting_5 rfl (k14) (cLa (pc := 8) h dX13_meeting_8 rfl (cLi (pc := 9) h dX13_meeting_9 rfl (kCi (pc := 10) h (kd_X13_449 h dX13_meeting_10) spX13_isMinute (by decide) (by decide) (by decide) (by decide) (jEq (pc := 13) h dX13_meeting_13 rfl (k14) (cLi (pc := 16) h dX13_meeting_16 rfl (aI2l (pc := 17) h dX13_meeting_17 (cJ (pc := 18) h dX13_meeting_18 rfl (cKJ (pc := 19) h dX13_meeting_19 fc_X13_335 (kCi (pc := 22) h (kd_X13_66 h dX13_meeting_22) spX13_in (by decide) (by decide) (by decide) (by decide) (jNe (pc := 25) h dX13_meeting_25 rfl (cLa (pc := 31) h dX13_meeting_31 rfl (cLi (pc := 32) h dX13_meeting_32 rfl (kCi (pc := 33) h (kd_X13_458 h dX13_meeting_33) spX13_isMeeting (by decide) (by decide) (by decide) (by decide) (jNe (pc := 36) h dX13_meeting_36 rfl (cLa (pc := 42) h dX13_meeting_42 rfl (cLi (pc := 43) h dX13_meeting_43 rfl (kCv (pc := 44) h (kd_X13_503 h dX13_meeting_44) spX13_goThrough (by decide) (by decide) (by decide) (by decide) (cLi (pc := 47) h dX13_meeting_47 rfl (jSw (pc := 48) (a := 0) h dX13_meeting_48 rfl rfl rfl (by decide) rfl (cLa (pc := 125) h dX13_meeting_125 rfl (gGf (pc := 126) h dX13_meeting_126 ff_X13_271_98 (Nat.le_of_ble_eq_true rfl) (Nat.le_of_ble_eq_true rfl) rfl (cLi (pc := 129) h dX13_meeting_129 rfl (rAi (pc := 130) h dX13_meeting_130 rfl (Nat.le_of_ble_eq_true rfl) (Nat.le_of_ble_eq_true rfl) (zI (pc := 131) h hm (Nat.le_refl _) dX13_meeting_131))))) ⟨⟨_, rfl, cLa (pc := 76) h dX13_meeting_76 rfl (gGf (pc := 77) h dX13_meeting_77 ff_X13_268_98 (Nat.le_of_ble_eq_true rfl) (Nat.le_of_ble_eq_true rfl) rfl (cLi (pc := 80) h dX13_meeting_80 rfl (rAi (pc := 81) h dX13_meeting_81 rfl (Nat.le_of_ble_eq_true rfl) (Nat.le_of_ble_eq_true rfl) (zI (pc := 82) h hm (Nat.le_refl _) dX13_meeting_82))))⟩, ⟨⟨_, rfl, cLa (pc := 83) h dX13_meeting_83 rfl (gGf (pc := 84) h dX13_meeting_84 ff_X13_292_98 (Nat.le_of_ble_eq_true rfl) (Nat.le_of_ble_eq_true rfl) rfl (cLi (pc := 87) h dX13_meeting_87 rfl (rAz (pc := 88) h dX13_meeting_88 rfl (Nat.le_of_ble_eq_true rfl) (Nat.le_of_ble_eq_true rfl) (jEq (pc := 89) h dX13_meeting_89 rfl (cLa (pc := 96) h dX13_meeting_96 rfl (gGf (pc := 97) h dX13_meeting_97 ff_X13_268_98 (Nat.le_of_ble_eq_true rfl) (Nat.le_of_ble_eq_true rfl) rfl (cLi (pc := 100) h dX13_meeting_100 rfl (rAi (pc := 101) h dX13_meeting_101 rfl (Nat.le_of_ble_eq_true rfl) (Nat.le_of_ble_eq_true rfl) (cLa (pc := 102) h dX13_meeting_102 rfl (gGf (pc := 103) h dX13_meeting_103 ff_X13_271_98 (Nat.le_of_ble_eq_true rfl) (Nat.le_of_ble_eq_true rfl) rfl (cLi (pc := 106) h dX13_meeting_106 rfl (rAi (pc := 107) h dX13_meeting_107 rfl (Nat.le_of_ble_eq_true rfl) (Nat.le_of_ble_eq_true rfl) (aAdd (pc := 108) h dX13_meeting_108 (k48)))))))))) (cC (pc := 92) h dX13_meeting_92 rfl (jGo (pc := 93) h dX13_meeting_93 rfl (k48)))))))⟩, ⟨⟨_, rfl, cLa (pc := 110) h dX13_meeting_110 rfl (gGf (pc := 111) h dX13_meeting_111 ff_X13_292_98 (Nat.le_of_ble_eq_true rfl) (Nat.le_of_ble_eq_true rfl) rfl (cLi (pc := 114) h dX13_meeting_114 rfl (rAz (pc := 115) h dX13_meeting_115 rfl (Nat.le_of_ble_eq_true rfl) (Nat.le_of_ble_eq_true rfl) (jEq (pc := 116) h dX13_meeting_116 rfl (cC (pc := 123) h dX13_meeting_123 rfl (k57)) (cC (pc := 119) h dX13_meeting_119 rfl (jGo (pc := 120) h dX13_meeting_120 rfl (k57)))))))⟩, trivial⟩⟩⟩))))) (cB (pc := 39) h dX13_meeting_39 rfl (zI (pc := 41) h hm (Nat.le_refl _) dX13_meeting_41)))))) (k14))))))))))))))
set_option maxRecDepth 20000 in
theorem lX13_meeting_0 (a1 : Int32) (a2 : Int32) (a3 : Int32) (m : qM) : tX13_meeting_0 (wX13_meeting_14 fX13_meeting_14) (wX13_meeting_48 fX13_meeting_48) (wX13_meeting_57 fX13_meeting_57) [some (.ref 98), some (.int a1), some (.int a2), some (.int a3)] [] m = fX13_meeting_0 a1 a2 a3 m := rfl
noncomputable def GX13_meeting : qG Int32 := fun av m => match av with
  | [.ref 98, .int a1, .int a2, .int a3] => fX13_meeting a1 a2 a3 m
  | _ => none
theorem spX13_meeting : qSpI yX13_meeting (.code yX13_meeting cX13_meeting 4 (some .int)) 7 qfin 155 155 1 GX13_meeting := by
  intro av m x m' hG
  unfold GX13_meeting at hG
  split at hG
  · rename_i a1 a2 a3
    rw [fX13_meeting_d] at hG
    exact ⟨qmeet (J := jI) (r := (x, m')) (av := [.ref 98, .int a1, .int a2, .int a3]) (by decide +kernel) (Nat.le_of_ble_eq_true rfl) (fun C w h hm hx hn => sX13_meeting_0 h hm hx (bX13_meeting_14 h hm hx) (bX13_meeting_48 h hm hx) (bX13_meeting_57 h hm hx)) ((lX13_meeting_0 _ _ _ _).trans hG) (Nat.le_of_ble_eq_true rfl), Or.inl ⟨98, _, 13, _, _, rfl, by decide, rfl, qCk_13, rfl⟩⟩
  · cases hG
theorem mf_X13_295 : Jvm.Cond.fieldLink RX13 295 (qTb 13 69).1 (qTb 13 69).2.1 (qTb 13 69).2.2.1 ∈ qTw := qm7 (List.mem_of_getElem? (i := 47) (by decide +kernel)) (by decide +kernel)
theorem ff_X13_295_98 : qFd RX13 295 98 13 69 3 := ⟨mf_X13_295, rfl, by decide, rfl⟩
theorem dX13_off_0 : decode cX13_off 0 = .ok (.aload_n 0, 1) := by decide +kernel
theorem dX13_off_1 : decode cX13_off 1 = .ok (.iload_n 1, 1) := by decide +kernel
theorem dX13_off_2 : decode cX13_off 2 = .ok (.invokevirtual 449, 3) := by decide +kernel
theorem dX13_off_5 : decode cX13_off 5 = .ok (.ifCond .ne 6, 3) := by decide +kernel
theorem dX13_off_8 : decode cX13_off 8 = .ok (.bipush (-2), 2) := by decide +kernel
theorem dX13_off_10 : decode cX13_off 10 = .ok (.ireturn, 1) := by decide +kernel
theorem dX13_off_11 : decode cX13_off 11 = .ok (.aload_n 0, 1) := by decide +kernel
theorem dX13_off_12 : decode cX13_off 12 = .ok (.getfield 316, 3) := by decide +kernel
theorem dX13_off_15 : decode cX13_off 15 = .ok (.ifCond .ne 6, 3) := by decide +kernel
theorem dX13_off_18 : decode cX13_off 18 = .ok (.bipush (-4), 2) := by decide +kernel
theorem dX13_off_20 : decode cX13_off 20 = .ok (.ireturn, 1) := by decide +kernel
theorem dX13_off_21 : decode cX13_off 21 = .ok (.aload_n 0, 1) := by decide +kernel
theorem dX13_off_22 : decode cX13_off 22 = .ok (.iload_n 1, 1) := by decide +kernel
theorem dX13_off_23 : decode cX13_off 23 = .ok (.invokevirtual 503, 3) := by decide +kernel
theorem dX13_off_26 : decode cX13_off 26 = .ok (.iconst 0, 1) := by decide +kernel
theorem dX13_off_27 : decode cX13_off 27 = .ok (.istore_n 2, 1) := by decide +kernel
theorem dX13_off_28 : decode cX13_off 28 = .ok (.iload_n 2, 1) := by decide +kernel
theorem dX13_off_29 : decode cX13_off 29 = .ok (.aload_n 0, 1) := by decide +kernel
theorem dX13_off_30 : decode cX13_off 30 = .ok (.getfield 313, 3) := by decide +kernel
theorem dX13_off_33 : decode cX13_off 33 = .ok (.if_icmp .ge 21, 3) := by decide +kernel
theorem dX13_off_36 : decode cX13_off 36 = .ok (.aload_n 0, 1) := by decide +kernel
theorem dX13_off_37 : decode cX13_off 37 = .ok (.getfield 295, 3) := by decide +kernel
theorem dX13_off_40 : decode cX13_off 40 = .ok (.iload_n 2, 1) := by decide +kernel
theorem dX13_off_41 : decode cX13_off 41 = .ok (.aload_n 0, 1) := by decide +kernel
theorem dX13_off_42 : decode cX13_off 42 = .ok (.getfield 268, 3) := by decide +kernel
theorem dX13_off_45 : decode cX13_off 45 = .ok (.iload_n 2, 1) := by decide +kernel
theorem dX13_off_46 : decode cX13_off 46 = .ok (.iaload, 1) := by decide +kernel
theorem dX13_off_47 : decode cX13_off 47 = .ok (.iastore, 1) := by decide +kernel
theorem dX13_off_48 : decode cX13_off 48 = .ok (.iinc 2 1, 3) := by decide +kernel
theorem dX13_off_51 : decode cX13_off 51 = .ok (.goto (-23), 3) := by decide +kernel
theorem dX13_off_54 : decode cX13_off 54 = .ok (.aload_n 0, 1) := by decide +kernel
theorem dX13_off_55 : decode cX13_off 55 = .ok (.sipush 799, 3) := by decide +kernel
theorem dX13_off_58 : decode cX13_off 58 = .ok (.invokevirtual 503, 3) := by decide +kernel
theorem dX13_off_61 : decode cX13_off 61 = .ok (.iconst 0, 1) := by decide +kernel
theorem dX13_off_62 : decode cX13_off 62 = .ok (.istore_n 2, 1) := by decide +kernel
theorem dX13_off_63 : decode cX13_off 63 = .ok (.iconst 0, 1) := by decide +kernel
theorem dX13_off_64 : decode cX13_off 64 = .ok (.istore_n 3, 1) := by decide +kernel
theorem dX13_off_65 : decode cX13_off 65 = .ok (.iload_n 3, 1) := by decide +kernel
theorem dX13_off_66 : decode cX13_off 66 = .ok (.aload_n 0, 1) := by decide +kernel
theorem dX13_off_67 : decode cX13_off 67 = .ok (.getfield 313, 3) := by decide +kernel
theorem dX13_off_70 : decode cX13_off 70 = .ok (.if_icmp .ge 116, 3) := by decide +kernel
theorem dX13_off_73 : decode cX13_off 73 = .ok (.aload_n 0, 1) := by decide +kernel
theorem dX13_off_74 : decode cX13_off 74 = .ok (.getfield 221, 3) := by decide +kernel
theorem dX13_off_77 : decode cX13_off 77 = .ok (.iload_n 3, 1) := by decide +kernel
theorem dX13_off_78 : decode cX13_off 78 = .ok (.iaload, 1) := by decide +kernel
theorem dX13_off_79 : decode cX13_off 79 = .ok (.iconst (-1), 1) := by decide +kernel
theorem dX13_off_80 : decode cX13_off 80 = .ok (.if_icmp .eq 100, 3) := by decide +kernel
theorem dX13_off_83 : decode cX13_off 83 = .ok (.aload_n 0, 1) := by decide +kernel
theorem dX13_off_84 : decode cX13_off 84 = .ok (.getfield 295, 3) := by decide +kernel
theorem dX13_off_87 : decode cX13_off 87 = .ok (.iload_n 3, 1) := by decide +kernel
theorem dX13_off_88 : decode cX13_off 88 = .ok (.iaload, 1) := by decide +kernel
theorem dX13_off_89 : decode cX13_off 89 = .ok (.iconst (-1), 1) := by decide +kernel
theorem dX13_off_90 : decode cX13_off 90 = .ok (.if_icmp .eq 16, 3) := by decide +kernel
theorem dX13_off_93 : decode cX13_off 93 = .ok (.aload_n 0, 1) := by decide +kernel
theorem dX13_off_94 : decode cX13_off 94 = .ok (.getfield 295, 3) := by decide +kernel
theorem dX13_off_97 : decode cX13_off 97 = .ok (.iload_n 3, 1) := by decide +kernel
theorem dX13_off_98 : decode cX13_off 98 = .ok (.iaload, 1) := by decide +kernel
theorem dX13_off_99 : decode cX13_off 99 = .ok (.iload_n 1, 1) := by decide +kernel
theorem dX13_off_100 : decode cX13_off 100 = .ok (.if_icmp .gt 6, 3) := by decide +kernel
theorem dX13_off_103 : decode cX13_off 103 = .ok (.goto 77, 3) := by decide +kernel
theorem dX13_off_106 : decode cX13_off 106 = .ok (.aload_n 0, 1) := by decide +kernel
theorem dX13_off_107 : decode cX13_off 107 = .ok (.getfield 295, 3) := by decide +kernel
theorem dX13_off_110 : decode cX13_off 110 = .ok (.iload_n 3, 1) := by decide +kernel
theorem dX13_off_111 : decode cX13_off 111 = .ok (.iaload, 1) := by decide +kernel
theorem dX13_off_112 : decode cX13_off 112 = .ok (.iconst (-1), 1) := by decide +kernel
theorem dX13_off_113 : decode cX13_off 113 = .ok (.if_icmp .ne 7, 3) := by decide +kernel
theorem dX13_off_116 : decode cX13_off 116 = .ok (.iconst 1, 1) := by decide +kernel
theorem dX13_off_117 : decode cX13_off 117 = .ok (.goto 4, 3) := by decide +kernel
theorem dX13_off_120 : decode cX13_off 120 = .ok (.iconst 0, 1) := by decide +kernel
theorem dX13_off_121 : decode cX13_off 121 = .ok (.istore 4, 2) := by decide +kernel
theorem dX13_off_123 : decode cX13_off 123 = .ok (.aload_n 0, 1) := by decide +kernel
theorem dX13_off_124 : decode cX13_off 124 = .ok (.getfield 268, 3) := by decide +kernel
theorem dX13_off_127 : decode cX13_off 127 = .ok (.iload_n 3, 1) := by decide +kernel
theorem dX13_off_128 : decode cX13_off 128 = .ok (.iaload, 1) := by decide +kernel
theorem dX13_off_129 : decode cX13_off 129 = .ok (.iconst (-1), 1) := by decide +kernel
theorem dX13_off_130 : decode cX13_off 130 = .ok (.if_icmp .ne 7, 3) := by decide +kernel
theorem dX13_off_133 : decode cX13_off 133 = .ok (.iconst 1, 1) := by decide +kernel
theorem dX13_off_134 : decode cX13_off 134 = .ok (.goto 4, 3) := by decide +kernel
theorem dX13_off_137 : decode cX13_off 137 = .ok (.iconst 0, 1) := by decide +kernel
theorem dX13_off_138 : decode cX13_off 138 = .ok (.istore 5, 2) := by decide +kernel
theorem dX13_off_140 : decode cX13_off 140 = .ok (.iload_n 2, 1) := by decide +kernel
theorem dX13_off_141 : decode cX13_off 141 = .ok (.iload 4, 2) := by decide +kernel
theorem dX13_off_143 : decode cX13_off 143 = .ok (.iload 5, 2) := by decide +kernel
theorem dX13_off_145 : decode cX13_off 145 = .ok (.if_icmp .eq 8, 3) := by decide +kernel
theorem dX13_off_148 : decode cX13_off 148 = .ok (.bipush 30, 2) := by decide +kernel
theorem dX13_off_150 : decode cX13_off 150 = .ok (.goto 28, 3) := by decide +kernel
theorem dX13_off_153 : decode cX13_off 153 = .ok (.iload 4, 2) := by decide +kernel
theorem dX13_off_155 : decode cX13_off 155 = .ok (.ifCond .eq 7, 3) := by decide +kernel
theorem dX13_off_158 : decode cX13_off 158 = .ok (.iconst 0, 1) := by decide +kernel
theorem dX13_off_159 : decode cX13_off 159 = .ok (.goto 19, 3) := by decide +kernel
theorem dX13_off_162 : decode cX13_off 162 = .ok (.aload_n 0, 1) := by decide +kernel
theorem dX13_off_163 : decode cX13_off 163 = .ok (.getfield 295, 3) := by decide +kernel
theorem dX13_off_166 : decode cX13_off 166 = .ok (.iload_n 3, 1) := by decide +kernel
theorem dX13_off_167 : decode cX13_off 167 = .ok (.iaload, 1) := by decide +kernel
theorem dX13_off_168 : decode cX13_off 168 = .ok (.aload_n 0, 1) := by decide +kernel
theorem dX13_off_169 : decode cX13_off 169 = .ok (.getfield 268, 3) := by decide +kernel
theorem dX13_off_172 : decode cX13_off 172 = .ok (.iload_n 3, 1) := by decide +kernel
theorem dX13_off_173 : decode cX13_off 173 = .ok (.iaload, 1) := by decide +kernel
theorem dX13_off_174 : decode cX13_off 174 = .ok (.isub, 1) := by decide +kernel
theorem dX13_off_175 : decode cX13_off 175 = .ok (.invokestatic 361, 3) := by decide +kernel
theorem dX13_off_178 : decode cX13_off 178 = .ok (.iadd, 1) := by decide +kernel
theorem dX13_off_179 : decode cX13_off 179 = .ok (.istore_n 2, 1) := by decide +kernel
theorem dX13_off_180 : decode cX13_off 180 = .ok (.iinc 3 1, 3) := by decide +kernel
theorem dX13_off_183 : decode cX13_off 183 = .ok (.goto (-118), 3) := by decide +kernel
theorem dX13_off_186 : decode cX13_off 186 = .ok (.iload_n 2, 1) := by decide +kernel
theorem dX13_off_187 : decode cX13_off 187 = .ok (.ireturn, 1) := by decide +kernel
noncomputable def tX13_off_16 (j37 : qT (Int32 × qM)) (j16 : qT (Int32 × qM)) : qT (Int32 × qM) :=
  oLi 2 (oLa 0 (oGi 98 32 (oCGe (oLa 0 (oC (.int (799 : Int32)) (oCv GX13_goThrough 2 (oC (.int (0 : Int32)) (oSi 2 (oC (.int (0 : Int32)) (oSi 3 (j37)))))))) (oLa 0 (oGf 98 69 150 (oLi 2 (oLa 0 (oGf 98 60 141 (oLi 2 (oAi 141 40 (oWi 150 40 (oInc 2 (1 : Int32) (j16)))))))))))))
noncomputable def wX13_off_16 (k : Int32 → Int32 → qM → Option (Int32 × qM)) : qT (Int32 × qM) := fun lo st m => match lo, st with
  | [some (.ref 98), some (.int a1), some (.int a2), _, _, _], [] => k a1 a2 m
  | _, _ => none
noncomputable def wX13_off_37 (k : Int32 → Int32 → Int32 → qM → Option (Int32 × qM)) : qT (Int32 × qM) := fun lo st m => match lo, st with
  | [some (.ref 98), some (.int a1), some (.int a2), some (.int a3), _, _], [] => k a1 a2 a3 m
  | _, _ => none
set_option maxRecDepth 20000 in
theorem sX13_off_16 {C : qCx} {w : qWp} (h : qOk C w RX13 cX13_off 6 7 155 155) (hm : qMt C (some .int)) (hx : qNx C) {j37 : qT (Int32 × qM)} {j16 : qT (Int32 × qM)} (k37 : qSnd C w 6 155 (qQf C w 155 155 jI) qfin 155 65 j37) (k16 : qSnd C w 6 155 (qQf C w 155 155 jI) qfin 155 28 j16) : qSnd C w 6 155 (qQf C w 155 155 jI) qfin 155 28 (tX13_off_16 j37 j16) :=
  cLi (pc := 28) h dX13_off_28 rfl (cLa (pc := 29) h dX13_off_29 rfl (gGi (pc := 30) h dX13_off_30 ff_X13_313_98 (Nat.le_of_ble_eq_true rfl) (Nat.le_of_ble_eq_true rfl) (jCGe (pc := 33) h dX13_off_33 rfl (cLa (pc := 54) h dX13_off_54 rfl (cS (pc := 55) h dX13_off_55 rfl (kCv (pc := 58) h (kd_X13_503 h dX13_off_58) spX13_goThrough (by decide) (by decide) (by decide) (by decide) (cC (pc := 61) h dX13_off_61 rfl (cSi (pc := 62) h dX13_off_62 rfl (cC (pc := 63) h dX13_off_63 rfl (cSi (pc := 64) h dX13_off_64 rfl (k37)))))))) (cLa (pc := 36) h dX13_off_36 rfl (gGf (pc := 37) h dX13_off_37 ff_X13_295_98 (Nat.le_of_ble_eq_true rfl) (Nat.le_of_ble_eq_true rfl) rfl (cLi (pc := 40) h dX13_off_40 rfl (cLa (pc := 41) h dX13_off_41 rfl (gGf (pc := 42) h dX13_off_42 ff_X13_268_98 (Nat.le_of_ble_eq_true rfl) (Nat.le_of_ble_eq_true rfl) rfl (cLi (pc := 45) h dX13_off_45 rfl (rAi (pc := 46) h dX13_off_46 rfl (Nat.le_of_ble_eq_true rfl) (Nat.le_of_ble_eq_true rfl) (rWi (pc := 47) h dX13_off_47 rfl (Nat.le_of_ble_eq_true rfl) (Nat.le_of_ble_eq_true rfl) (cInc (pc := 48) h dX13_off_48 rfl (jGo (pc := 51) h dX13_off_51 rfl (k16))))))))))))))
set_option maxRecDepth 20000 in
theorem lX13_off_16 (k37 : Int32 → Int32 → Int32 → qM → Option (Int32 × qM)) (n : Nat) (a1 : Int32) (a2 : Int32) (m : qM) : tX13_off_16 (wX13_off_37 k37) (wX13_off_16 ((fX13_off_16 k37 n))) [some (.ref 98), some (.int a1), some (.int a2), none, none, none] [] m = fX13_off_16 k37 (n + 1) a1 a2 m := rfl
theorem bX13_off_16 {C : qCx} {w : qWp} (h : qOk C w RX13 cX13_off 6 7 155 155) (hm : qMt C (some .int)) (hx : qNx C) {k37 : Int32 → Int32 → Int32 → qM → Option (Int32 × qM)} (h37 : qSnd C w 6 155 (qQf C w 155 155 jI) qfin 155 65 (wX13_off_37 k37)) : ∀ n : Nat, qSnd C w 6 155 (qQf C w 155 155 jI) qfin 155 28 (wX13_off_16 (fX13_off_16 k37 n))
  | 0 => qSnd_of0 (fun lo st m x hr0 => by
    unfold wX13_off_16 at hr0
    split at hr0
    · cases hr0
    · cases hr0)
  | n + 1 => by
    have ih := bX13_off_16 h hm hx h37 n
    exact qSnd_of (fun lo st m x hr0 => by
    unfold wX13_off_16 at hr0
    split at hr0
    · exact ⟨_, (qsub_e (qsub_e (qsub_e (qsub_n (qsub_n (qsub_n qsub_nil)))))), (lX13_off_16 _ n _ _ _).trans hr0⟩
    · cases hr0) (sX13_off_16 h hm hx h37 ih)
noncomputable def tX13_off_102 (j37 : qT (Int32 × qM)) : qT (Int32 × qM) :=
  oInc 3 (1 : Int32) (j37)
noncomputable def wX13_off_102 (k : Int32 → Int32 → Int32 → qM → Option (Int32 × qM)) : qT (Int32 × qM) := fun lo st m => match lo, st with
  | [some (.ref 98), some (.int a1), some (.int a2), some (.int a3), _, _], [] => k a1 a2 a3 m
  | _, _ => none
set_option maxRecDepth 20000 in
theorem sX13_off_102 {C : qCx} {w : qWp} (h : qOk C w RX13 cX13_off 6 7 155 155) (hm : qMt C (some .int)) (hx : qNx C) {j37 : qT (Int32 × qM)} (k37 : qSnd C w 6 155 (qQf C w 155 155 jI) qfin 155 65 j37) : qSnd C w 6 155 (qQf C w 155 155 jI) qfin 155 180 (tX13_off_102 j37) :=
  cInc (pc := 180) h dX13_off_180 rfl (jGo (pc := 183) h dX13_off_183 rfl (k37))
set_option maxRecDepth 20000 in
theorem lX13_off_102 (k37 : Int32 → Int32 → Int32 → qM → Option (Int32 × qM)) (a1 : Int32) (a2 : Int32) (a3 : Int32) (m : qM) : tX13_off_102 (wX13_off_37 k37) [some (.ref 98), some (.int a1), some (.int a2), some (.int a3), none, none] [] m = fX13_off_102 k37 a1 a2 a3 m := rfl
theorem bX13_off_102 {C : qCx} {w : qWp} (h : qOk C w RX13 cX13_off 6 7 155 155) (hm : qMt C (some .int)) (hx : qNx C) {k37 : Int32 → Int32 → Int32 → qM → Option (Int32 × qM)} (h37 : qSnd C w 6 155 (qQf C w 155 155 jI) qfin 155 65 (wX13_off_37 k37)) : qSnd C w 6 155 (qQf C w 155 155 jI) qfin 155 180 (wX13_off_102 (fX13_off_102 k37)) :=
  qSnd_of (fun lo st m x hr0 => by
    unfold wX13_off_102 at hr0
    split at hr0
    · exact ⟨_, (qsub_e (qsub_e (qsub_e (qsub_e (qsub_n (qsub_n qsub_nil)))))), (lX13_off_102 _ _ _ _ _).trans hr0⟩
    · cases hr0) (sX13_off_102 h hm hx h37)
noncomputable def tX13_off_100 (j102 : qT (Int32 × qM)) : qT (Int32 × qM) :=
  o2 (· + ·) (oSi 2 (j102))
noncomputable def wX13_off_100 (k : Int32 → Int32 → Int32 → Int32 → qM → Option (Int32 × qM)) : qT (Int32 × qM) := fun lo st m => match lo, st with
  | [some (.ref 98), some (.int a1), _, some (.int a3), _, _], [.int s0, .int s1] => k a1 a3 s0 s1 m
  | _, _ => none
set_option maxRecDepth 20000 in
theorem sX13_off_100 {C : qCx} {w : qWp} (h : qOk C w RX13 cX13_off 6 7 155 155) (hm : qMt C (some .int)) (hx : qNx C) {j102 : qT (Int32 × qM)} (k102 : qSnd C w 6 155 (qQf C w 155 155 jI) qfin 155 180 j102) : qSnd C w 6 155 (qQf C w 155 155 jI) qfin 155 178 (tX13_off_100 j102) :=
  aAdd (pc := 178) h dX13_off_178 (cSi (pc := 179) h dX13_off_179 rfl (k102))
set_option maxRecDepth 20000 in
theorem lX13_off_100 (k37 : Int32 → Int32 → Int32 → qM → Option (Int32 × qM)) (a1 : Int32) (a3 : Int32) (s0 : Int32) (s1 : Int32) (m : qM) : tX13_off_100 (wX13_off_102 (fX13_off_102 k37)) [some (.ref 98), some (.int a1), none, some (.int a3), none, none] [(.int s0), (.int s1)] m = fX13_off_100 k37 a1 a3 s0 s1 m := rfl
theorem bX13_off_100 {C : qCx} {w : qWp} (h : qOk C w RX13 cX13_off 6 7 155 155) (hm : qMt C (some .int)) (hx : qNx C) {k37 : Int32 → Int32 → Int32 → qM → Option (Int32 × qM)} (h37 : qSnd C w 6 155 (qQf C w 155 155 jI) qfin 155 65 (wX13_off_37 k37)) : qSnd C w 6 155 (qQf C w 155 155 jI) qfin 155 178 (wX13_off_100 (fX13_off_100 k37)) :=
  qSnd_of (fun lo st m x hr0 => by
    unfold wX13_off_100 at hr0
    split at hr0
    · exact ⟨_, (qsub_e (qsub_e (qsub_n (qsub_e (qsub_n (qsub_n qsub_nil)))))), (lX13_off_100 _ _ _ _ _ _).trans hr0⟩
    · cases hr0) (sX13_off_100 h hm hx (bX13_off_102 h hm hx h37))
noncomputable def tX13_off_79 (j100 : qT (Int32 × qM)) : qT (Int32 × qM) :=
  oSi 5 (oLi 2 (oLi 4 (oLi 5 (oCEq (oLi 4 (oEq (oLa 0 (oGf 98 69 150 (oLi 3 (oAi 150 40 (oLa 0 (oGf 98 60 141 (oLi 3 (oAi 141 40 (o2 (· - ·) (oCi GJ9_abs_0f7a4 1 (j100))))))))))) (oC (.int (0 : Int32)) (j100)))) (oC (.int (30 : Int32)) (j100))))))
noncomputable def wX13_off_79 (k : Int32 → Int32 → Int32 → Int32 → Int32 → qM → Option (Int32 × qM)) : qT (Int32 × qM) := fun lo st m => match lo, st with
  | [some (.ref 98), some (.int a1), some (.int a2), some (.int a3), some (.int a4), _], [.int s0] => k a1 a2 a3 a4 s0 m
  | _, _ => none
set_option maxRecDepth 20000 in
theorem sX13_off_79 {C : qCx} {w : qWp} (h : qOk C w RX13 cX13_off 6 7 155 155) (hm : qMt C (some .int)) (hx : qNx C) {j100 : qT (Int32 × qM)} (k100 : qSnd C w 6 155 (qQf C w 155 155 jI) qfin 155 178 j100) : qSnd C w 6 155 (qQf C w 155 155 jI) qfin 155 138 (tX13_off_79 j100) :=
  cSI (pc := 138) h dX13_off_138 (cLi (pc := 140) h dX13_off_140 rfl (cLI (pc := 141) h dX13_off_141 (cLI (pc := 143) h dX13_off_143 (jCEq (pc := 145) h dX13_off_145 rfl (cLI (pc := 153) h dX13_off_153 (jEq (pc := 155) h dX13_off_155 rfl (cLa (pc := 162) h dX13_off_162 rfl (gGf (pc := 163) h dX13_off_163 ff_X13_295_98 (Nat.le_of_ble_eq_true rfl) (Nat.le_of_ble_eq_true rfl) rfl (cLi (pc := 166) h dX13_off_166 rfl (rAi (pc := 167) h dX13_off_167 rfl (Nat.le_of_ble_eq_true rfl) (Nat.le_of_ble_eq_true rfl) (cLa (pc := 168) h dX13_off_168 rfl (gGf (pc := 169) h dX13_off_169 ff_X13_268_98 (Nat.le_of_ble_eq_true rfl) (Nat.le_of_ble_eq_true rfl) rfl (cLi (pc := 172) h dX13_off_172 rfl (rAi (pc := 173) h dX13_off_173 rfl (Nat.le_of_ble_eq_true rfl) (Nat.le_of_ble_eq_true rfl) (aSub (pc := 174) h dX13_off_174 (kCi (pc := 175) h (kd_X13_361 h dX13_off_175) spJ9_abs_0f7a4 (by decide) (by decide) (by decide) (by decide) (k100))))))))))) (cC (pc := 158) h dX13_off_158 rfl (jGo (pc := 159) h dX13_off_159 rfl (k100))))) (cB (pc := 148) h dX13_off_148 rfl (jGo (pc := 150) h dX13_off_150 rfl (k100)))))))
set_option maxRecDepth 20000 in
theorem lX13_off_79 (k37 : Int32 → Int32 → Int32 → qM → Option (Int32 × qM)) (a1 : Int32) (a2 : Int32) (a3 : Int32) (a4 : Int32) (s0 : Int32) (m : qM) : tX13_off_79 (wX13_off_100 (fX13_off_100 k37)) [some (.ref 98), some (.int a1), some (.int a2), some (.int a3), some (.int a4), none] [(.int s0)] m = fX13_off_79 k37 a1 a2 a3 a4 s0 m := rfl
theorem bX13_off_79 {C : qCx} {w : qWp} (h : qOk C w RX13 cX13_off 6 7 155 155) (hm : qMt C (some .int)) (hx : qNx C) {k37 : Int32 → Int32 → Int32 → qM → Option (Int32 × qM)} (h37 : qSnd C w 6 155 (qQf C w 155 155 jI) qfin 155 65 (wX13_off_37 k37)) : qSnd C w 6 155 (qQf C w 155 155 jI) qfin 155 138 (wX13_off_79 (fX13_off_79 k37)) :=
  qSnd_of (fun lo st m x hr0 => by
    unfold wX13_off_79 at hr0
    split at hr0
    · exact ⟨_, (qsub_e (qsub_e (qsub_e (qsub_e (qsub_e (qsub_n qsub_nil)))))), (lX13_off_79 _ _ _ _ _ _ _).trans hr0⟩
    · cases hr0) (sX13_off_79 h hm hx (bX13_off_100 h hm hx h37))
noncomputable def tX13_off_69 (j79 : qT (Int32 × qM)) : qT (Int32 × qM) :=
  oSi 4 (oLa 0 (oGf 98 60 141 (oLi 3 (oAi 141 40 (oC (.int (-1 : Int32)) (oCEq (oC (.int (1 : Int32)) (j79)) (oC (.int (0 : Int32)) (j79))))))))
noncomputable def wX13_off_69 (k : Int32 → Int32 → Int32 → Int32 → qM → Option (Int32 × qM)) : qT (Int32 × qM) := fun lo st m => match lo, st with
  | [some (.ref 98), some (.int a1), some (.int a2), some (.int a3), _, _], [.int s0] => k a1 a2 a3 s0 m
  | _, _ => none
set_option maxRecDepth 20000 in
theorem sX13_off_69 {C : qCx} {w : qWp} (h : qOk C w RX13 cX13_off 6 7 155 155) (hm : qMt C (some .int)) (hx : qNx C) {j79 : qT (Int32 × qM)} (k79 : qSnd C w 6 155 (qQf C w 155 155 jI) qfin 155 138 j79) : qSnd C w 6 155 (qQf C w 155 155 jI) qfin 155 121 (tX13_off_69 j79) :=
  cSI (pc := 121) h dX13_off_121 (cLa (pc := 123) h dX13_off_123 rfl (gGf (pc := 124) h dX13_off_124 ff_X13_268_98 (Nat.le_of_ble_eq_true rfl) (Nat.le_of_ble_eq_true rfl) rfl (cLi (pc := 127) h dX13_off_127 rfl (rAi (pc := 128) h dX13_off_128 rfl (Nat.le_of_ble_eq_true rfl) (Nat.le_of_ble_eq_true rfl) (cC (pc := 129) h dX13_off_129 rfl (jCNe (pc := 130) h dX13_off_130 rfl (cC (pc := 137) h dX13_off_137 rfl (k79)) (cC (pc := 133) h dX13_off_133 rfl (jGo (pc := 134) h dX13_off_134 rfl (k79)))))))))
set_option maxRecDepth 20000 in
theorem lX13_off_69 (k37 : Int32 → Int32 → Int32 → qM → Option (Int32 × qM)) (a1 : Int32) (a2 : Int32) (a3 : Int32) (s0 : Int32) (m : qM) : tX13_off_69 (wX13_off_79 (fX13_off_79 k37)) [some (.ref 98), some (.int a1), some (.int a2), some (.int a3), none, none] [(.int s0)] m = fX13_off_69 k37 a1 a2 a3 s0 m := rfl
theorem bX13_off_69 {C : qCx} {w : qWp} (h : qOk C w RX13 cX13_off 6 7 155 155) (hm : qMt C (some .int)) (hx : qNx C) {k37 : Int32 → Int32 → Int32 → qM → Option (Int32 × qM)} (h37 : qSnd C w 6 155 (qQf C w 155 155 jI) qfin 155 65 (wX13_off_37 k37)) : qSnd C w 6 155 (qQf C w 155 155 jI) qfin 155 121 (wX13_off_69 (fX13_off_69 k37)) :=
  qSnd_of (fun lo st m x hr0 => by
    unfold wX13_off_69 at hr0
    split at hr0
    · exact ⟨_, (qsub_e (qsub_e (qsub_e (qsub_e (qsub_n (qsub_n qsub_nil)))))), (lX13_off_69 _ _ _ _ _ _).trans hr0⟩
    · cases hr0) (sX13_off_69 h hm hx (bX13_off_79 h hm hx h37))
noncomputable def tX13_off_60 (j69 : qT (Int32 × qM)) : qT (Int32 × qM) :=
  oLa 0 (oGf 98 69 150 (oLi 3 (oAi 150 40 (oC (.int (-1 : Int32)) (oCEq (oC (.int (1 : Int32)) (j69)) (oC (.int (0 : Int32)) (j69)))))))
noncomputable def wX13_off_60 (k : Int32 → Int32 → Int32 → qM → Option (Int32 × qM)) : qT (Int32 × qM) := fun lo st m => match lo, st with
  | [some (.ref 98), some (.int a1), some (.int a2), some (.int a3), _, _], [] => k a1 a2 a3 m
  | _, _ => none
set_option maxRecDepth 20000 in
theorem sX13_off_60 {C : qCx} {w : qWp} (h : qOk C w RX13 cX13_off 6 7 155 155) (hm : qMt C (some .int)) (hx : qNx C) {j69 : qT (Int32 × qM)} (k69 : qSnd C w 6 155 (qQf C w 155 155 jI) qfin 155 121 j69) : qSnd C w 6 155 (qQf C w 155 155 jI) qfin 155 106 (tX13_off_60 j69) :=
  cLa (pc := 106) h dX13_off_106 rfl (gGf (pc := 107) h dX13_off_107 ff_X13_295_98 (Nat.le_of_ble_eq_true rfl) (Nat.le_of_ble_eq_true rfl) rfl (cLi (pc := 110) h dX13_off_110 rfl (rAi (pc := 111) h dX13_off_111 rfl (Nat.le_of_ble_eq_true rfl) (Nat.le_of_ble_eq_true rfl) (cC (pc := 112) h dX13_off_112 rfl (jCNe (pc := 113) h dX13_off_113 rfl (cC (pc := 120) h dX13_off_120 rfl (k69)) (cC (pc := 116) h dX13_off_116 rfl (jGo (pc := 117) h dX13_off_117 rfl (k69))))))))
set_option maxRecDepth 20000 in
theorem lX13_off_60 (k37 : Int32 → Int32 → Int32 → qM → Option (Int32 × qM)) (a1 : Int32) (a2 : Int32) (a3 : Int32) (m : qM) : tX13_off_60 (wX13_off_69 (fX13_off_69 k37)) [some (.ref 98), some (.int a1), some (.int a2), some (.int a3), none, none] [] m = fX13_off_60 k37 a1 a2 a3 m := rfl
theorem bX13_off_60 {C : qCx} {w : qWp} (h : qOk C w RX13 cX13_off 6 7 155 155) (hm : qMt C (some .int)) (hx : qNx C) {k37 : Int32 → Int32 → Int32 → qM → Option (Int32 × qM)} (h37 : qSnd C w 6 155 (qQf C w 155 155 jI) qfin 155 65 (wX13_off_37 k37)) : qSnd C w 6 155 (qQf C w 155 155 jI) qfin 155 106 (wX13_off_60 (fX13_off_60 k37)) :=
  qSnd_of (fun lo st m x hr0 => by
    unfold wX13_off_60 at hr0
    split at hr0
    · exact ⟨_, (qsub_e (qsub_e (qsub_e (qsub_e (qsub_n (qsub_n qsub_nil)))))), (lX13_off_60 _ _ _ _ _).trans hr0⟩
    · cases hr0) (sX13_off_60 h hm hx (bX13_off_69 h hm hx h37))
noncomputable def tX13_off_37 (j102 : qT (Int32 × qM)) (j60 : qT (Int32 × qM)) : qT (Int32 × qM) :=
  oLi 3 (oLa 0 (oGi 98 32 (oCGe (oLi 2 (eI)) (oLa 0 (oGf 98 36 125 (oLi 3 (oAi 125 40 (oC (.int (-1 : Int32)) (oCEq (j102) (oLa 0 (oGf 98 69 150 (oLi 3 (oAi 150 40 (oC (.int (-1 : Int32)) (oCEq (j60) (oLa 0 (oGf 98 69 150 (oLi 3 (oAi 150 40 (oLi 1 (oCGt (j60) (j102))))))))))))))))))))))
set_option maxRecDepth 20000 in
theorem sX13_off_37 {C : qCx} {w : qWp} (h : qOk C w RX13 cX13_off 6 7 155 155) (hm : qMt C (some .int)) (hx : qNx C) {j102 : qT (Int32 × qM)} {j60 : qT (Int32 × qM)} (k102 : qSnd C w 6 155 (qQf C w 155 155 jI) qfin 155 180 j102) (k60 : qSnd C w 6 155 (qQf C w 155 155 jI) qfin 155 106 j60) : qSnd C w 6 155 (qQf C w 155 155 jI) qfin 155 65 (tX13_off_37 j102 j60) :=
  cLi (pc := 65) h dX13_off_65 rfl (cLa (pc := 66) h dX13_off_66 rfl (gGi (pc := 67) h dX13_off_67 ff_X13_313_98 (Nat.le_of_ble_eq_true rfl) (Nat.le_of_ble_eq_true rfl) (jCGe (pc := 70) h dX13_off_70 rfl (cLi (pc := 186) h dX13_off_186 rfl (zI (pc := 187) h hm (Nat.le_refl _) dX13_off_187)) (cLa (pc := 73) h dX13_off_73 rfl (gGf (pc := 74) h dX13_off_74 ff_X13_221_98 (Nat.le_of_ble_eq_true rfl) (Nat.le_of_ble_eq_true rfl) rfl (cLi (pc := 77) h dX13_off_77 rfl (rAi (pc := 78) h dX13_off_78 rfl (Nat.le_of_ble_eq_true rfl) (Nat.le_of_ble_eq_true rfl) (cC (pc := 79) h dX13_off_79 rfl (jCEq (pc := 80) h dX13_off_80 rfl (k102) (cLa (pc := 83) h dX13_off_83 rfl (gGf (pc := 84) h dX13_off_84 ff_X13_295_98 (Nat.le_of_ble_eq_true rfl) (Nat.le_of_ble_eq_true rfl) rfl (cLi (pc := 87) h dX13_off_87 rfl (rAi (pc := 88) h dX13_off_88 rfl (Nat.le_of_ble_eq_true rfl) (Nat.le_of_ble_eq_true rfl) (cC (pc := 89) h dX13_off_89 rfl (jCEq (pc := 90) h dX13_off_90 rfl (k60) (cLa (pc := 93) h dX13_off_93 rfl (gGf (pc := 94) h dX13_off_94 ff_X13_295_98 (Nat.le_of_ble_eq_true rfl) (Nat.le_of_ble_eq_true rfl) rfl (cLi (pc := 97) h dX13_off_97 rfl (rAi (pc := 98) h dX13_off_98 rfl (Nat.le_of_ble_eq_true rfl) (Nat.le_of_ble_eq_true rfl) (cLi (pc := 99) h dX13_off_99 rfl (jCGt (pc := 100) h dX13_off_100 rfl (k60) (jGo (pc := 103) h dX13_off_103 rfl (k102)))))))))))))))))))))))
set_option maxRecDepth 20000 in
theorem lX13_off_37 (n : Nat) (a1 : Int32) (a2 : Int32) (a3 : Int32) (m : qM) : tX13_off_37 (wX13_off_102 (fX13_off_102 (fX13_off_37 n))) (wX13_off_60 (fX13_off_60 (fX13_off_37 n))) [some (.ref 98), some (.int a1), some (.int a2), some (.int a3), none, none] [] m = fX13_off_37 (n + 1) a1 a2 a3 m := rfl
theorem bX13_off_37 {C : qCx} {w : qWp} (h : qOk C w RX13 cX13_off 6 7 155 155) (hm : qMt C (some .int)) (hx : qNx C) : ∀ n : Nat, qSnd C w 6 155 (qQf C w 155 155 jI) qfin 155 65 (wX13_off_37 (fX13_off_37 n))
  | 0 => qSnd_of0 (fun lo st m x hr0 => by
    unfold wX13_off_37 at hr0
    split at hr0
    · cases hr0
    · cases hr0)
  | n + 1 => by
    have ih := bX13_off_37 h hm hx n
    exact qSnd_of (fun lo st m x hr0 => by
    unfold wX13_off_37 at hr0
    split at hr0
    · exact ⟨_, (qsub_e (qsub_e (qsub_e (qsub_e (qsub_n (qsub_n qsub_nil)))))), (lX13_off_37 n _ _ _ _).trans hr0⟩
    · cases hr0) (sX13_off_37 h hm hx (bX13_off_102 h hm hx ih) (bX13_off_60 h hm hx ih))
noncomputable def tX13_off_0 (j16 : qT (Int32 × qM)) : qT (Int32 × qM) :=
  oLa 0 (oLi 1 (oCi GX13_isMinute 2 (oEq (oC (.int (-2 : Int32)) (eI)) (oLa 0 (oGi 98 33 (oEq (oC (.int (-4 : Int32)) (eI)) (oLa 0 (oLi 1 (oCv GX13_goThrough 2 (oC (.int (0 : Int32)) (oSi 2 (j16))))))))))))
set_option maxRecDepth 20000 in
theorem sX13_off_0 {C : qCx} {w : qWp} (h : qOk C w RX13 cX13_off 6 7 155 155) (hm : qMt C (some .int)) (hx : qNx C) {j16 : qT (Int32 × qM)} (k16 : qSnd C w 6 155 (qQf C w 155 155 jI) qfin 155 28 j16) : qSnd C w 6 155 (qQf C w 155 155 jI) qfin 155 0 (tX13_off_0 j16) :=
  cLa (pc := 0) h dX13_off_0 rfl (cLi (pc := 1) h dX13_off_1 rfl (kCi (pc := 2) h (kd_X13_449 h dX13_off_2) spX13_isMinute (by decide) (by decide) (by decide) (by decide) (jNe (pc := 5) h dX13_off_5 rfl (cLa (pc := 11) h dX13_off_11 rfl (gGz (pc := 12) h dX13_off_12 ff_X13_316_98 (Nat.le_of_ble_eq_true rfl) (Nat.le_of_ble_eq_true rfl) (jNe (pc := 15) h dX13_off_15 rfl (cLa (pc := 21) h dX13_off_21 rfl (cLi (pc := 22) h dX13_off_22 rfl (kCv (pc := 23) h (kd_X13_503 h dX13_off_23) spX13_goThrough (by decide) (by decide) (by decide) (by decide) (cC (pc := 26) h dX13_off_26 rfl (cSi (pc := 27) h dX13_off_27 rfl (k16)))))) (cB (pc := 18) h dX13_off_18 rfl (zI (pc := 20) h hm (Nat.le_refl _) dX13_off_20))))) (cB (pc := 8) h dX13_off_8 rfl (zI (pc := 10) h hm (Nat.le_refl _) dX13_off_10)))))
set_option maxRecDepth 20000 in
theorem lX13_off_0 (a1 : Int32) (m : qM) : tX13_off_0 (wX13_off_16 (fX13_off_16 (fX13_off_37 FU) FU)) [some (.ref 98), some (.int a1), none, none, none, none] [] m = fX13_off_0 a1 m := rfl
noncomputable def GX13_off : qG Int32 := fun av m => match av with
  | [.ref 98, .int a1] => fX13_off a1 m
  | _ => none
theorem spX13_off : qSpI yX13_off (.code yX13_off cX13_off 6 (some .int)) 7 qfin 155 155 1 GX13_off := by
  intro av m x m' hG
  unfold GX13_off at hG
  split at hG
  · rename_i a1
    rw [fX13_off_d] at hG
    exact ⟨qmeet (J := jI) (r := (x, m')) (av := [.ref 98, .int a1]) (by decide +kernel) (Nat.le_of_ble_eq_true rfl) (fun C w h hm hx hn => sX13_off_0 h hm hx (bX13_off_16 h hm hx (bX13_off_37 h hm hx FU) FU)) ((lX13_off_0 _ _).trans hG) (Nat.le_of_ble_eq_true rfl), Or.inl ⟨98, _, 13, _, _, rfl, by decide, rfl, qCk_13, rfl⟩⟩
  · cases hG
theorem dX13_nextOf_0 : decode cX13_nextOf 0 = .ok (.iconst (-1), 1) := by decide +kernel
theorem dX13_nextOf_1 : decode cX13_nextOf 1 = .ok (.istore_n 3, 1) := by decide +kernel
theorem dX13_nextOf_2 : decode cX13_nextOf 2 = .ok (.iconst 0, 1) := by decide +kernel
theorem dX13_nextOf_3 : decode cX13_nextOf 3 = .ok (.istore 4, 2) := by decide +kernel
theorem dX13_nextOf_5 : decode cX13_nextOf 5 = .ok (.iload 4, 2) := by decide +kernel
theorem dX13_nextOf_7 : decode cX13_nextOf 7 = .ok (.aload_n 0, 1) := by decide +kernel
theorem dX13_nextOf_8 : decode cX13_nextOf 8 = .ok (.getfield 313, 3) := by decide +kernel
theorem dX13_nextOf_11 : decode cX13_nextOf 11 = .ok (.if_icmp .ge 66, 3) := by decide +kernel
theorem dX13_nextOf_14 : decode cX13_nextOf 14 = .ok (.aload_n 0, 1) := by decide +kernel
theorem dX13_nextOf_15 : decode cX13_nextOf 15 = .ok (.getfield 215, 3) := by decide +kernel
theorem dX13_nextOf_18 : decode cX13_nextOf 18 = .ok (.iload 4, 2) := by decide +kernel
theorem dX13_nextOf_20 : decode cX13_nextOf 20 = .ok (.iaload, 1) := by decide +kernel
theorem dX13_nextOf_21 : decode cX13_nextOf 21 = .ok (.iload_n 1, 1) := by decide +kernel
theorem dX13_nextOf_22 : decode cX13_nextOf 22 = .ok (.if_icmp .ne 49, 3) := by decide +kernel
theorem dX13_nextOf_25 : decode cX13_nextOf 25 = .ok (.aload_n 0, 1) := by decide +kernel
theorem dX13_nextOf_26 : decode cX13_nextOf 26 = .ok (.getfield 221, 3) := by decide +kernel
theorem dX13_nextOf_29 : decode cX13_nextOf 29 = .ok (.iload 4, 2) := by decide +kernel
theorem dX13_nextOf_31 : decode cX13_nextOf 31 = .ok (.iaload, 1) := by decide +kernel
theorem dX13_nextOf_32 : decode cX13_nextOf 32 = .ok (.iconst (-1), 1) := by decide +kernel
theorem dX13_nextOf_33 : decode cX13_nextOf 33 = .ok (.if_icmp .eq 38, 3) := by decide +kernel
theorem dX13_nextOf_36 : decode cX13_nextOf 36 = .ok (.aload_n 0, 1) := by decide +kernel
theorem dX13_nextOf_37 : decode cX13_nextOf 37 = .ok (.getfield 268, 3) := by decide +kernel
theorem dX13_nextOf_40 : decode cX13_nextOf 40 = .ok (.iload 4, 2) := by decide +kernel
theorem dX13_nextOf_42 : decode cX13_nextOf 42 = .ok (.iaload, 1) := by decide +kernel
theorem dX13_nextOf_43 : decode cX13_nextOf 43 = .ok (.iload_n 2, 1) := by decide +kernel
theorem dX13_nextOf_44 : decode cX13_nextOf 44 = .ok (.if_icmp .le 27, 3) := by decide +kernel
theorem dX13_nextOf_47 : decode cX13_nextOf 47 = .ok (.iload_n 3, 1) := by decide +kernel
theorem dX13_nextOf_48 : decode cX13_nextOf 48 = .ok (.iconst (-1), 1) := by decide +kernel
theorem dX13_nextOf_49 : decode cX13_nextOf 49 = .ok (.if_icmp .eq 19, 3) := by decide +kernel
theorem dX13_nextOf_52 : decode cX13_nextOf 52 = .ok (.aload_n 0, 1) := by decide +kernel
theorem dX13_nextOf_53 : decode cX13_nextOf 53 = .ok (.getfield 268, 3) := by decide +kernel
theorem dX13_nextOf_56 : decode cX13_nextOf 56 = .ok (.iload 4, 2) := by decide +kernel
theorem dX13_nextOf_58 : decode cX13_nextOf 58 = .ok (.iaload, 1) := by decide +kernel
theorem dX13_nextOf_59 : decode cX13_nextOf 59 = .ok (.aload_n 0, 1) := by decide +kernel
theorem dX13_nextOf_60 : decode cX13_nextOf 60 = .ok (.getfield 268, 3) := by decide +kernel
theorem dX13_nextOf_63 : decode cX13_nextOf 63 = .ok (.iload_n 3, 1) := by decide +kernel
theorem dX13_nextOf_64 : decode cX13_nextOf 64 = .ok (.iaload, 1) := by decide +kernel
theorem dX13_nextOf_65 : decode cX13_nextOf 65 = .ok (.if_icmp .ge 6, 3) := by decide +kernel
theorem dX13_nextOf_68 : decode cX13_nextOf 68 = .ok (.iload 4, 2) := by decide +kernel
theorem dX13_nextOf_70 : decode cX13_nextOf 70 = .ok (.istore_n 3, 1) := by decide +kernel
theorem dX13_nextOf_71 : decode cX13_nextOf 71 = .ok (.iinc 4 1, 3) := by decide +kernel
theorem dX13_nextOf_74 : decode cX13_nextOf 74 = .ok (.goto (-69), 3) := by decide +kernel
theorem dX13_nextOf_77 : decode cX13_nextOf 77 = .ok (.iload_n 3, 1) := by decide +kernel
theorem dX13_nextOf_78 : decode cX13_nextOf 78 = .ok (.ireturn, 1) := by decide +kernel
noncomputable def tX13_nextOf_40 (j4 : qT (Int32 × qM)) : qT (Int32 × qM) :=
  oInc 4 (1 : Int32) (j4)
noncomputable def wX13_nextOf_40 (k : Int32 → Int32 → Int32 → Int32 → qM → Option (Int32 × qM)) : qT (Int32 × qM) := fun lo st m => match lo, st with
  | [some (.ref 98), some (.int a1), some (.int a2), some (.int a3), some (.int a4)], [] => k a1 a2 a3 a4 m
  | _, _ => none
noncomputable def wX13_nextOf_4 (k : Int32 → Int32 → Int32 → Int32 → qM → Option (Int32 × qM)) : qT (Int32 × qM) := fun lo st m => match lo, st with
  | [some (.ref 98), some (.int a1), some (.int a2), some (.int a3), some (.int a4)], [] => k a1 a2 a3 a4 m
  | _, _ => none
set_option maxRecDepth 20000 in
theorem sX13_nextOf_40 {C : qCx} {w : qWp} (h : qOk C w RX13 cX13_nextOf 5 0 155 155) (hm : qMt C (some .int)) (hx : qNx C) {j4 : qT (Int32 × qM)} (k4 : qSnd C w 5 155 (qQf C w 155 155 jI) qfin 155 5 j4) : qSnd C w 5 155 (qQf C w 155 155 jI) qfin 155 71 (tX13_nextOf_40 j4) :=
  cInc (pc := 71) h dX13_nextOf_71 rfl (jGo (pc := 74) h dX13_nextOf_74 rfl (k4))
set_option maxRecDepth 20000 in
theorem lX13_nextOf_40 (k4 : Int32 → Int32 → Int32 → Int32 → qM → Option (Int32 × qM)) (a1 : Int32) (a2 : Int32) (a3 : Int32) (a4 : Int32) (m : qM) : tX13_nextOf_40 (wX13_nextOf_4 k4) [some (.ref 98), some (.int a1), some (.int a2), some (.int a3), some (.int a4)] [] m = fX13_nextOf_40 k4 a1 a2 a3 a4 m := rfl
theorem bX13_nextOf_40 {C : qCx} {w : qWp} (h : qOk C w RX13 cX13_nextOf 5 0 155 155) (hm : qMt C (some .int)) (hx : qNx C) {k4 : Int32 → Int32 → Int32 → Int32 → qM → Option (Int32 × qM)} (h4 : qSnd C w 5 155 (qQf C w 155 155 jI) qfin 155 5 (wX13_nextOf_4 k4)) : qSnd C w 5 155 (qQf C w 155 155 jI) qfin 155 71 (wX13_nextOf_40 (fX13_nextOf_40 k4)) :=
  qSnd_of (fun lo st m x hr0 => by
    unfold wX13_nextOf_40 at hr0
    split at hr0
    · exact ⟨_, (qsub_e (qsub_e (qsub_e (qsub_e (qsub_e qsub_nil))))), (lX13_nextOf_40 _ _ _ _ _ _).trans hr0⟩
    · cases hr0) (sX13_nextOf_40 h hm hx h4)
noncomputable def tX13_nextOf_38 (j40 : qT (Int32 × qM)) : qT (Int32 × qM) :=
  oLi 4 (oSi 3 (j40))
noncomputable def wX13_nextOf_38 (k : Int32 → Int32 → Int32 → qM → Option (Int32 × qM)) : qT (Int32 × qM) := fun lo st m => match lo, st with
  | [some (.ref 98), some (.int a1), some (.int a2), _, some (.int a4)], [] => k a1 a2 a4 m
  | _, _ => none
set_option maxRecDepth 20000 in
theorem sX13_nextOf_38 {C : qCx} {w : qWp} (h : qOk C w RX13 cX13_nextOf 5 0 155 155) (hm : qMt C (some .int)) (hx : qNx C) {j40 : qT (Int32 × qM)} (k40 : qSnd C w 5 155 (qQf C w 155 155 jI) qfin 155 71 j40) : qSnd C w 5 155 (qQf C w 155 155 jI) qfin 155 68 (tX13_nextOf_38 j40) :=
  cLI (pc := 68) h dX13_nextOf_68 (cSi (pc := 70) h dX13_nextOf_70 rfl (k40))
set_option maxRecDepth 20000 in
theorem lX13_nextOf_38 (k4 : Int32 → Int32 → Int32 → Int32 → qM → Option (Int32 × qM)) (a1 : Int32) (a2 : Int32) (a4 : Int32) (m : qM) : tX13_nextOf_38 (wX13_nextOf_40 (fX13_nextOf_40 k4)) [some (.ref 98), some (.int a1), some (.int a2), none, some (.int a4)] [] m = fX13_nextOf_38 k4 a1 a2 a4 m := rfl
theorem bX13_nextOf_38 {C : qCx} {w : qWp} (h : qOk C w RX13 cX13_nextOf 5 0 155 155) (hm : qMt C (some .int)) (hx : qNx C) {k4 : Int32 → Int32 → Int32 → Int32 → qM → Option (Int32 × qM)} (h4 : qSnd C w 5 155 (qQf C w 155 155 jI) qfin 155 5 (wX13_nextOf_4 k4)) : qSnd C w 5 155 (qQf C w 155 155 jI) qfin 155 68 (wX13_nextOf_38 (fX13_nextOf_38 k4)) :=
  qSnd_of (fun lo st m x hr0 => by
    unfold wX13_nextOf_38 at hr0
    split at hr0
    · exact ⟨_, (qsub_e (qsub_e (qsub_e (qsub_n (qsub_e qsub_nil))))), (lX13_nextOf_38 _ _ _ _ _).trans hr0⟩
    · cases hr0) (sX13_nextOf_38 h hm hx (bX13_nextOf_40 h hm hx h4))
noncomputable def tX13_nextOf_4 (j40 : qT (Int32 × qM)) (j38 : qT (Int32 × qM)) : qT (Int32 × qM) :=
  oLi 4 (oLa 0 (oGi 98 32 (oCGe (oLi 3 (eI)) (oLa 0 (oGf 98 34 123 (oLi 4 (oAi 123 40 (oLi 1 (oCEq (oLa 0 (oGf 98 36 125 (oLi 4 (oAi 125 40 (oC (.int (-1 : Int32)) (oCEq (j40) (oLa 0 (oGf 98 60 141 (oLi 4 (oAi 141 40 (oLi 2 (oCLe (j40) (oLi 3 (oC (.int (-1 : Int32)) (oCEq (j38) (oLa 0 (oGf 98 60 141 (oLi 4 (oAi 141 40 (oLa 0 (oGf 98 60 141 (oLi 3 (oAi 141 40 (oCGe (j40) (j38))))))))))))))))))))))))) (j40))))))))))
set_option maxRecDepth 20000 in
theorem sX13_nextOf_4 {C : qCx} {w : qWp} (h : qOk C w RX13 cX13_nextOf 5 0 155 155) (hm : qMt C (some .int)) (hx : qNx C) {j40 : qT (Int32 × qM)} {j38 : qT (Int32 × qM)} (k40 : qSnd C w 5 155 (qQf C w 155 155 jI) qfin 155 71 j40) (k38 : qSnd C w 5 155 (qQf C w 155 155 jI) qfin 155 68 j38) : qSnd C w 5 155 (qQf C w 155 155 jI) qfin 155 5 (tX13_nextOf_4 j40 j38) :=
  cLI (pc := 5) h dX13_nextOf_5 (cLa (pc := 7) h dX13_nextOf_7 rfl (gGi (pc := 8) h dX13_nextOf_8 ff_X13_313_98 (Nat.le_of_ble_eq_true rfl) (Nat.le_of_ble_eq_true rfl) (jCGe (pc := 11) h dX13_nextOf_11 rfl (cLi (pc := 77) h dX13_nextOf_77 rfl (zI (pc := 78) h hm (Nat.le_refl _) dX13_nextOf_78)) (cLa (pc := 14) h dX13_nextOf_14 rfl (gGf (pc := 15) h dX13_nextOf_15 ff_X13_215_98 (Nat.le_of_ble_eq_true rfl) (Nat.le_of_ble_eq_true rfl) rfl (cLI (pc := 18) h dX13_nextOf_18 (rAi (pc := 20) h dX13_nextOf_20 rfl (Nat.le_of_ble_eq_true rfl) (Nat.le_of_ble_eq_true rfl) (cLi (pc := 21) h dX13_nextOf_21 rfl (jCNe (pc := 22) h dX13_nextOf_22 rfl (k40) (cLa (pc := 25) h dX13_nextOf_25 rfl (gGf (pc := 26) h dX13_nextOf_26 ff_X13_221_98 (Nat.le_of_ble_eq_true rfl) (Nat.le_of_ble_eq_true rfl) rfl (cLI (pc := 29) h dX13_nextOf_29 (rAi (pc := 31) h dX13_nextOf_31 rfl (Nat.le_of_ble_eq_true rfl) (Nat.le_of_ble_eq_true rfl) (cC (pc := 32) h dX13_nextOf_32 rfl (jCEq (pc := 33) h dX13_nextOf_33 rfl (k40) (cLa (pc := 36) h dX13_nextOf_36 rfl (gGf (pc := 37) h dX13_nextOf_37 ff_X13_268_98 (Nat.le_of_ble_eq_true rfl) (Nat.le_of_ble_eq_true rfl) rfl (cLI (pc := 40) h dX13_nextOf_40 (rAi (pc := 42) h dX13_nextOf_42 rfl (Nat.le_of_ble_eq_true rfl) (Nat.le_of_ble_eq_true rfl) (cLi (pc := 43) h dX13_nextOf_43 rfl (jCLe (pc := 44) h dX13_nextOf_44 rfl (k40) (cLi (pc := 47) h dX13_nextOf_47 rfl (cC (pc := 48) h dX13_nextOf_48 rfl (jCEq (pc := 49) h dX13_nextOf_49 rfl (k38) (cLa (pc := 52) h dX13_nextOf_52 rfl (gGf (pc := 53) h dX13_nextOf_53 ff_X13_268_98 (Nat.le_of_ble_eq_true rfl) (Nat.le_of_ble_eq_true rfl) rfl (cLI (pc := 56) h dX13_nextOf_56 (rAi (pc := 58) h dX13_nextOf_58 rfl (Nat.le_of_ble_eq_true rfl) (Nat.le_of_ble_eq_true rfl) (cLa (pc := 59) h dX13_nextOf_59 rfl (gGf (pc := 60) h dX13_nextOf_60 ff_X13_268_98 (Nat.le_of_ble_eq_true rfl) (Nat.le_of_ble_eq_true rfl) rfl (cLi (pc := 63) h dX13_nextOf_63 rfl (rAi (pc := 64) h dX13_nextOf_64 rfl (Nat.le_of_ble_eq_true rfl) (Nat.le_of_ble_eq_true rfl) (jCGe (pc := 65) h dX13_nextOf_65 rfl (k40) (k38))))))))))))))))))))))))))))))))))
set_option maxRecDepth 20000 in
theorem lX13_nextOf_4 (n : Nat) (a1 : Int32) (a2 : Int32) (a3 : Int32) (a4 : Int32) (m : qM) : tX13_nextOf_4 (wX13_nextOf_40 (fX13_nextOf_40 (fX13_nextOf_4 n))) (wX13_nextOf_38 (fX13_nextOf_38 (fX13_nextOf_4 n))) [some (.ref 98), some (.int a1), some (.int a2), some (.int a3), some (.int a4)] [] m = fX13_nextOf_4 (n + 1) a1 a2 a3 a4 m := rfl
theorem bX13_nextOf_4 {C : qCx} {w : qWp} (h : qOk C w RX13 cX13_nextOf 5 0 155 155) (hm : qMt C (some .int)) (hx : qNx C) : ∀ n : Nat, qSnd C w 5 155 (qQf C w 155 155 jI) qfin 155 5 (wX13_nextOf_4 (fX13_nextOf_4 n))
  | 0 => qSnd_of0 (fun lo st m x hr0 => by
    unfold wX13_nextOf_4 at hr0
    split at hr0
    · cases hr0
    · cases hr0)
  | n + 1 => by
    have ih := bX13_nextOf_4 h hm hx n
    exact qSnd_of (fun lo st m x hr0 => by
    unfold wX13_nextOf_4 at hr0
    split at hr0
    · exact ⟨_, (qsub_e (qsub_e (qsub_e (qsub_e (qsub_e qsub_nil))))), (lX13_nextOf_4 n _ _ _ _ _).trans hr0⟩
    · cases hr0) (sX13_nextOf_4 h hm hx (bX13_nextOf_40 h hm hx ih) (bX13_nextOf_38 h hm hx ih))
noncomputable def tX13_nextOf_0 (j4 : qT (Int32 × qM)) : qT (Int32 × qM) :=
  oC (.int (-1 : Int32)) (oSi 3 (oC (.int (0 : Int32)) (oSi 4 (j4))))
set_option maxRecDepth 20000 in
theorem sX13_nextOf_0 {C : qCx} {w : qWp} (h : qOk C w RX13 cX13_nextOf 5 0 155 155) (hm : qMt C (some .int)) (hx : qNx C) {j4 : qT (Int32 × qM)} (k4 : qSnd C w 5 155 (qQf C w 155 155 jI) qfin 155 5 j4) : qSnd C w 5 155 (qQf C w 155 155 jI) qfin 155 0 (tX13_nextOf_0 j4) :=
  cC (pc := 0) h dX13_nextOf_0 rfl (cSi (pc := 1) h dX13_nextOf_1 rfl (cC (pc := 2) h dX13_nextOf_2 rfl (cSI (pc := 3) h dX13_nextOf_3 (k4))))
set_option maxRecDepth 20000 in
theorem lX13_nextOf_0 (a1 : Int32) (a2 : Int32) (m : qM) : tX13_nextOf_0 (wX13_nextOf_4 (fX13_nextOf_4 FU)) [some (.ref 98), some (.int a1), some (.int a2), none, none] [] m = fX13_nextOf_0 a1 a2 m := rfl
noncomputable def GX13_nextOf : qG Int32 := fun av m => match av with
  | [.ref 98, .int a1, .int a2] => fX13_nextOf a1 a2 m
  | _ => none
theorem spX13_nextOf : qSpI yX13_nextOf (.code yX13_nextOf cX13_nextOf 5 (some .int)) 0 qfin 155 155 1 GX13_nextOf := by
  intro av m x m' hG
  unfold GX13_nextOf at hG
  split at hG
  · rename_i a1 a2
    rw [fX13_nextOf_d] at hG
    exact ⟨qmeet (J := jI) (r := (x, m')) (av := [.ref 98, .int a1, .int a2]) (by decide +kernel) (Nat.le_of_ble_eq_true rfl) (fun C w h hm hx hn => sX13_nextOf_0 h hm hx (bX13_nextOf_4 h hm hx FU)) ((lX13_nextOf_0 _ _ _).trans hG) (Nat.le_of_ble_eq_true rfl), Or.inl ⟨98, _, 13, _, _, rfl, by decide, rfl, qCk_13, rfl⟩⟩
  · cases hG

