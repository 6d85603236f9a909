/-! methods (by program): X13_scan, X13_is, X13_need, X13_number, X13_close, X13_open, X13_key, X13_most, X13_readRules, X13_readCond -/
theorem mf_X13_24 : Jvm.Cond.fieldLink RX13 24 (qTb 13 15).1 (qTb 13 15).2.1 (qTb 13 15).2.2.1 ∈ qTw := qm6 (List.mem_of_getElem? (i := 233) (by decide +kernel)) (by decide +kernel)
theorem ff_X13_24_98 : qFd RX13 24 98 13 15 0 := ⟨mf_X13_24, rfl, by decide, rfl⟩
theorem im_X13_byteAt : Jvm.Cond.instanceMethod yX13_byteAt ∈ qTw := qm8 (List.mem_of_getElem? (i := 4) (by decide +kernel)) (by decide +kernel)
theorem se_X13_byteAt : Jvm.Cond.selects yX13_byteAt.cls yX13_byteAt yX13_byteAt ∈ qTw := List.mem_filter.mpr ⟨List.mem_append_left _ (List.mem_of_getElem? (i := 41) (by decide +kernel)), rfl⟩
theorem in_ParentEveModel : Jvm.Cond.initialized "ParentEveModel" ∈ qTw := qm1 (List.mem_of_getElem? (i := 13) (by decide +kernel)) (by decide +kernel)
theorem co_X13_byteAt : Jvm.Cond.code yX13_byteAt cX13_byteAt 2 (some .int) ∈ qTw := qm8 (List.mem_of_getElem? (i := 5) (by decide +kernel)) (by decide +kernel)
theorem yk_X13_byteAt : qYk yX13_byteAt 1 := ⟨⟨by decide +kernel, by decide +kernel⟩, by decide +kernel⟩
theorem ml_X13_27 : Jvm.Cond.methodLink RX13 27 yX13_byteAt ∈ qTw := qm8 (List.mem_of_getElem? (i := 2) (by decide +kernel)) (by decide +kernel)
theorem kd_X13_27 {C : qCx} {w : qWp} {cc : ByteArray} {nL dp n0 n1 pc : Nat} (h : qOk C w RX13 cc nL dp n0 n1) (d : decode cc pc = .ok (.invokevirtual 27, 3)) : qCallOk C w nL dp n0 n1 pc 2 1 yX13_byteAt (.code yX13_byteAt cX13_byteAt 2 (some .int)) := kindV h d ml_X13_27 im_X13_byteAt se_X13_byteAt in_ParentEveModel co_X13_byteAt yk_X13_byteAt (by decide)
theorem im_X13_isSmall : Jvm.Cond.static yX13_isSmall ∈ qTw := qm8 (List.mem_of_getElem? (i := 7) (by decide +kernel)) (by decide +kernel)
theorem co_X13_isSmall : Jvm.Cond.code yX13_isSmall cX13_isSmall 1 (some .boolean) ∈ qTw := qm8 (List.mem_of_getElem? (i := 8) (by decide +kernel)) (by decide +kernel)
theorem yk_X13_isSmall : qYk yX13_isSmall 1 := ⟨⟨by decide +kernel, by decide +kernel⟩, by decide +kernel⟩
theorem ml_X13_34 : Jvm.Cond.methodLink RX13 34 yX13_isSmall ∈ qTw := qm8 (List.mem_of_getElem? (i := 6) (by decide +kernel)) (by decide +kernel)
theorem kd_X13_34 {C : qCx} {w : qWp} {cc : ByteArray} {nL dp n0 n1 pc : Nat} (h : qOk C w RX13 cc nL dp n0 n1) (d : decode cc pc = .ok (.invokestatic 34, 3)) : qCallOk C w nL dp n0 n1 pc 1 0 yX13_isSmall (.code yX13_isSmall cX13_isSmall 1 (some .boolean)) := kindS h d ml_X13_34 im_X13_isSmall in_ParentEveModel co_X13_isSmall yk_X13_isSmall (by decide)
theorem im_X13_isDigit : Jvm.Cond.static yX13_isDigit ∈ qTw := qm8 (List.mem_of_getElem? (i := 10) (by decide +kernel)) (by decide +kernel)
theorem co_X13_isDigit : Jvm.Cond.code yX13_isDigit cX13_isDigit 1 (some .boolean) ∈ qTw := qm8 (List.mem_of_getElem? (i := 11) (by decide +kernel)) (by decide +kernel)
theorem yk_X13_isDigit : qYk yX13_isDigit 1 := ⟨⟨by decide +kernel, by decide +kernel⟩, by decide +kernel⟩
theorem ml_X13_38 : Jvm.Cond.methodLink RX13 38 yX13_isDigit ∈ qTw := qm8 (List.mem_of_getElem? (i := 9) (by decide +kernel)) (by decide +kernel)
theorem kd_X13_38 {C : qCx} {w : qWp} {cc : ByteArray} {nL dp n0 n1 pc : Nat} (h : qOk C w RX13 cc nL dp n0 n1) (d : decode cc pc = .ok (.invokestatic 38, 3)) : qCallOk C w nL dp n0 n1 pc 1 0 yX13_isDigit (.code yX13_isDigit cX13_isDigit 1 (some .boolean)) := kindS h d ml_X13_38 im_X13_isDigit in_ParentEveModel co_X13_isDigit yk_X13_isDigit (by decide)
theorem mf_X13_41 : Jvm.Cond.fieldLink RX13 41 (qTb 13 17).1 (qTb 13 17).2.1 (qTb 13 17).2.2.1 ∈ qTw := qm6 (List.mem_of_getElem? (i := 235) (by decide +kernel)) (by decide +kernel)
theorem ff_X13_41_98 : qFd RX13 41 98 13 17 0 := ⟨mf_X13_41, rfl, by decide, rfl⟩
theorem mf_X13_31 : Jvm.Cond.fieldLink RX13 31 (qTb 13 16).1 (qTb 13 16).2.1 (qTb 13 16).2.2.1 ∈ qTw := qm6 (List.mem_of_getElem? (i := 234) (by decide +kernel)) (by decide +kernel)
theorem ff_X13_31_98 : qFd RX13 31 98 13 16 0 := ⟨mf_X13_31, rfl, by decide, rfl⟩
theorem dX13_scan_0 : decode cX13_scan 0 = .ok (.aload_n 0, 1) := by decide +kernel
theorem dX13_scan_1 : decode cX13_scan 1 = .ok (.getfield 24, 3) := by decide +kernel
theorem dX13_scan_4 : decode cX13_scan 4 = .ok (.aload_n 0, 1) := by decide +kernel
theorem dX13_scan_5 : decode cX13_scan 5 = .ok (.getfield 17, 3) := by decide +kernel
theorem dX13_scan_8 : decode cX13_scan 8 = .ok (.if_icmp .ge 44, 3) := by decide +kernel
theorem dX13_scan_11 : decode cX13_scan 11 = .ok (.aload_n 0, 1) := by decide +kernel
theorem dX13_scan_12 : decode cX13_scan 12 = .ok (.getfield 20, 3) := by decide +kernel
theorem dX13_scan_15 : decode cX13_scan 15 = .ok (.aload_n 0, 1) := by decide +kernel
theorem dX13_scan_16 : decode cX13_scan 16 = .ok (.getfield 24, 3) := by decide +kernel
theorem dX13_scan_19 : decode cX13_scan 19 = .ok (.baload, 1) := by decide +kernel
theorem dX13_scan_20 : decode cX13_scan 20 = .ok (.bipush 32, 2) := by decide +kernel
theorem dX13_scan_22 : decode cX13_scan 22 = .ok (.if_icmp .eq 17, 3) := by decide +kernel
theorem dX13_scan_25 : decode cX13_scan 25 = .ok (.aload_n 0, 1) := by decide +kernel
theorem dX13_scan_26 : decode cX13_scan 26 = .ok (.getfield 20, 3) := by decide +kernel
theorem dX13_scan_29 : decode cX13_scan 29 = .ok (.aload_n 0, 1) := by decide +kernel
theorem dX13_scan_30 : decode cX13_scan 30 = .ok (.getfield 24, 3) := by decide +kernel
theorem dX13_scan_33 : decode cX13_scan 33 = .ok (.baload, 1) := by decide +kernel
theorem dX13_scan_34 : decode cX13_scan 34 = .ok (.bipush 10, 2) := by decide +kernel
theorem dX13_scan_36 : decode cX13_scan 36 = .ok (.if_icmp .ne 16, 3) := by decide +kernel
theorem dX13_scan_39 : decode cX13_scan 39 = .ok (.aload_n 0, 1) := by decide +kernel
theorem dX13_scan_40 : decode cX13_scan 40 = .ok (.dup, 1) := by decide +kernel
theorem dX13_scan_41 : decode cX13_scan 41 = .ok (.getfield 24, 3) := by decide +kernel
theorem dX13_scan_44 : decode cX13_scan 44 = .ok (.iconst 1, 1) := by decide +kernel
theorem dX13_scan_45 : decode cX13_scan 45 = .ok (.iadd, 1) := by decide +kernel
theorem dX13_scan_46 : decode cX13_scan 46 = .ok (.putfield 24, 3) := by decide +kernel
theorem dX13_scan_49 : decode cX13_scan 49 = .ok (.goto (-49), 3) := by decide +kernel
theorem dX13_scan_52 : decode cX13_scan 52 = .ok (.aload_n 0, 1) := by decide +kernel
theorem dX13_scan_53 : decode cX13_scan 53 = .ok (.aload_n 0, 1) := by decide +kernel
theorem dX13_scan_54 : decode cX13_scan 54 = .ok (.getfield 24, 3) := by decide +kernel
theorem dX13_scan_57 : decode cX13_scan 57 = .ok (.putfield 7, 3) := by decide +kernel
theorem dX13_scan_60 : decode cX13_scan 60 = .ok (.aload_n 0, 1) := by decide +kernel
theorem dX13_scan_61 : decode cX13_scan 61 = .ok (.aload_n 0, 1) := by decide +kernel
theorem dX13_scan_62 : decode cX13_scan 62 = .ok (.getfield 7, 3) := by decide +kernel
theorem dX13_scan_65 : decode cX13_scan 65 = .ok (.invokevirtual 27, 3) := by decide +kernel
theorem dX13_scan_68 : decode cX13_scan 68 = .ok (.istore_n 1, 1) := by decide +kernel
theorem dX13_scan_69 : decode cX13_scan 69 = .ok (.aload_n 0, 1) := by decide +kernel
theorem dX13_scan_70 : decode cX13_scan 70 = .ok (.getfield 7, 3) := by decide +kernel
theorem dX13_scan_73 : decode cX13_scan 73 = .ok (.aload_n 0, 1) := by decide +kernel
theorem dX13_scan_74 : decode cX13_scan 74 = .ok (.getfield 17, 3) := by decide +kernel
theorem dX13_scan_77 : decode cX13_scan 77 = .ok (.if_icmp .ne 11, 3) := by decide +kernel
theorem dX13_scan_80 : decode cX13_scan 80 = .ok (.aload_n 0, 1) := by decide +kernel
theorem dX13_scan_81 : decode cX13_scan 81 = .ok (.iconst 0, 1) := by decide +kernel
theorem dX13_scan_82 : decode cX13_scan 82 = .ok (.putfield 31, 3) := by decide +kernel
theorem dX13_scan_85 : decode cX13_scan 85 = .ok (.goto 170, 3) := by decide +kernel
theorem dX13_scan_88 : decode cX13_scan 88 = .ok (.iload_n 1, 1) := by decide +kernel
theorem dX13_scan_89 : decode cX13_scan 89 = .ok (.invokestatic 34, 3) := by decide +kernel
theorem dX13_scan_92 : decode cX13_scan 92 = .ok (.ifCond .eq 38, 3) := by decide +kernel
theorem dX13_scan_95 : decode cX13_scan 95 = .ok (.aload_n 0, 1) := by decide +kernel
theorem dX13_scan_96 : decode cX13_scan 96 = .ok (.aload_n 0, 1) := by decide +kernel
theorem dX13_scan_97 : decode cX13_scan 97 = .ok (.getfield 24, 3) := by decide +kernel
theorem dX13_scan_100 : decode cX13_scan 100 = .ok (.invokevirtual 27, 3) := by decide +kernel
theorem dX13_scan_103 : decode cX13_scan 103 = .ok (.invokestatic 34, 3) := by decide +kernel
theorem dX13_scan_106 : decode cX13_scan 106 = .ok (.ifCond .eq 16, 3) := by decide +kernel
theorem dX13_scan_109 : decode cX13_scan 109 = .ok (.aload_n 0, 1) := by decide +kernel
theorem dX13_scan_110 : decode cX13_scan 110 = .ok (.dup, 1) := by decide +kernel
theorem dX13_scan_111 : decode cX13_scan 111 = .ok (.getfield 24, 3) := by decide +kernel
theorem dX13_scan_114 : decode cX13_scan 114 = .ok (.iconst 1, 1) := by decide +kernel
theorem dX13_scan_115 : decode cX13_scan 115 = .ok (.iadd, 1) := by decide +kernel
theorem dX13_scan_116 : decode cX13_scan 116 = .ok (.putfield 24, 3) := by decide +kernel
theorem dX13_scan_119 : decode cX13_scan 119 = .ok (.goto (-24), 3) := by decide +kernel
theorem dX13_scan_122 : decode cX13_scan 122 = .ok (.aload_n 0, 1) := by decide +kernel
theorem dX13_scan_123 : decode cX13_scan 123 = .ok (.iconst 1, 1) := by decide +kernel
theorem dX13_scan_124 : decode cX13_scan 124 = .ok (.putfield 31, 3) := by decide +kernel
theorem dX13_scan_127 : decode cX13_scan 127 = .ok (.goto 128, 3) := by decide +kernel
theorem dX13_scan_130 : decode cX13_scan 130 = .ok (.iload_n 1, 1) := by decide +kernel
theorem dX13_scan_131 : decode cX13_scan 131 = .ok (.invokestatic 38, 3) := by decide +kernel
theorem dX13_scan_134 : decode cX13_scan 134 = .ok (.ifCond .eq 96, 3) := by decide +kernel
theorem dX13_scan_137 : decode cX13_scan 137 = .ok (.aload_n 0, 1) := by decide +kernel
theorem dX13_scan_138 : decode cX13_scan 138 = .ok (.iconst 0, 1) := by decide +kernel
theorem dX13_scan_139 : decode cX13_scan 139 = .ok (.putfield 41, 3) := by decide +kernel
theorem dX13_scan_142 : decode cX13_scan 142 = .ok (.aload_n 0, 1) := by decide +kernel
theorem dX13_scan_143 : decode cX13_scan 143 = .ok (.aload_n 0, 1) := by decide +kernel
theorem dX13_scan_144 : decode cX13_scan 144 = .ok (.getfield 24, 3) := by decide +kernel
theorem dX13_scan_147 : decode cX13_scan 147 = .ok (.invokevirtual 27, 3) := by decide +kernel
theorem dX13_scan_150 : decode cX13_scan 150 = .ok (.invokestatic 38, 3) := by decide +kernel
theorem dX13_scan_153 : decode cX13_scan 153 = .ok (.ifCond .eq 52, 3) := by decide +kernel
theorem dX13_scan_156 : decode cX13_scan 156 = .ok (.aload_n 0, 1) := by decide +kernel
theorem dX13_scan_157 : decode cX13_scan 157 = .ok (.getfield 24, 3) := by decide +kernel
theorem dX13_scan_160 : decode cX13_scan 160 = .ok (.aload_n 0, 1) := by decide +kernel
theorem dX13_scan_161 : decode cX13_scan 161 = .ok (.getfield 7, 3) := by decide +kernel
theorem dX13_scan_164 : decode cX13_scan 164 = .ok (.isub, 1) := by decide +kernel
theorem dX13_scan_165 : decode cX13_scan 165 = .ok (.iconst 3, 1) := by decide +kernel
theorem dX13_scan_166 : decode cX13_scan 166 = .ok (.if_icmp .ge 26, 3) := by decide +kernel
theorem dX13_scan_169 : decode cX13_scan 169 = .ok (.aload_n 0, 1) := by decide +kernel
theorem dX13_scan_170 : decode cX13_scan 170 = .ok (.bipush 10, 2) := by decide +kernel
theorem dX13_scan_172 : decode cX13_scan 172 = .ok (.aload_n 0, 1) := by decide +kernel
theorem dX13_scan_173 : decode cX13_scan 173 = .ok (.getfield 41, 3) := by decide +kernel
theorem dX13_scan_176 : decode cX13_scan 176 = .ok (.imul, 1) := by decide +kernel
theorem dX13_scan_177 : decode cX13_scan 177 = .ok (.aload_n 0, 1) := by decide +kernel
theorem dX13_scan_178 : decode cX13_scan 178 = .ok (.aload_n 0, 1) := by decide +kernel
theorem dX13_scan_179 : decode cX13_scan 179 = .ok (.getfield 24, 3) := by decide +kernel
theorem dX13_scan_182 : decode cX13_scan 182 = .ok (.invokevirtual 27, 3) := by decide +kernel
theorem dX13_scan_185 : decode cX13_scan 185 = .ok (.iadd, 1) := by decide +kernel
theorem dX13_scan_186 : decode cX13_scan 186 = .ok (.bipush 48, 2) := by decide +kernel
theorem dX13_scan_188 : decode cX13_scan 188 = .ok (.isub, 1) := by decide +kernel
theorem dX13_scan_189 : decode cX13_scan 189 = .ok (.putfield 41, 3) := by decide +kernel
theorem dX13_scan_192 : decode cX13_scan 192 = .ok (.aload_n 0, 1) := by decide +kernel
theorem dX13_scan_193 : decode cX13_scan 193 = .ok (.dup, 1) := by decide +kernel
theorem dX13_scan_194 : decode cX13_scan 194 = .ok (.getfield 24, 3) := by decide +kernel
theorem dX13_scan_197 : decode cX13_scan 197 = .ok (.iconst 1, 1) := by decide +kernel
theorem dX13_scan_198 : decode cX13_scan 198 = .ok (.iadd, 1) := by decide +kernel
theorem dX13_scan_199 : decode cX13_scan 199 = .ok (.putfield 24, 3) := by decide +kernel
theorem dX13_scan_202 : decode cX13_scan 202 = .ok (.goto (-60), 3) := by decide +kernel
theorem dX13_scan_205 : decode cX13_scan 205 = .ok (.aload_n 0, 1) := by decide +kernel
theorem dX13_scan_206 : decode cX13_scan 206 = .ok (.aload_n 0, 1) := by decide +kernel
theorem dX13_scan_207 : decode cX13_scan 207 = .ok (.getfield 24, 3) := by decide +kernel
theorem dX13_scan_210 : decode cX13_scan 210 = .ok (.aload_n 0, 1) := by decide +kernel
theorem dX13_scan_211 : decode cX13_scan 211 = .ok (.getfield 7, 3) := by decide +kernel
theorem dX13_scan_214 : decode cX13_scan 214 = .ok (.isub, 1) := by decide +kernel
theorem dX13_scan_215 : decode cX13_scan 215 = .ok (.iconst 3, 1) := by decide +kernel
theorem dX13_scan_216 : decode cX13_scan 216 = .ok (.if_icmp .le 7, 3) := by decide +kernel
theorem dX13_scan_219 : decode cX13_scan 219 = .ok (.iconst 4, 1) := by decide +kernel
theorem dX13_scan_220 : decode cX13_scan 220 = .ok (.goto 4, 3) := by decide +kernel
theorem dX13_scan_223 : decode cX13_scan 223 = .ok (.iconst 2, 1) := by decide +kernel
theorem dX13_scan_224 : decode cX13_scan 224 = .ok (.putfield 31, 3) := by decide +kernel
theorem dX13_scan_227 : decode cX13_scan 227 = .ok (.goto 28, 3) := by decide +kernel
theorem dX13_scan_230 : decode cX13_scan 230 = .ok (.aload_n 0, 1) := by decide +kernel
theorem dX13_scan_231 : decode cX13_scan 231 = .ok (.iload_n 1, 1) := by decide +kernel
theorem dX13_scan_232 : decode cX13_scan 232 = .ok (.bipush 59, 2) := by decide +kernel
theorem dX13_scan_234 : decode cX13_scan 234 = .ok (.if_icmp .ne 7, 3) := by decide +kernel
theorem dX13_scan_237 : decode cX13_scan 237 = .ok (.iconst 3, 1) := by decide +kernel
theorem dX13_scan_238 : decode cX13_scan 238 = .ok (.goto 4, 3) := by decide +kernel
theorem dX13_scan_241 : decode cX13_scan 241 = .ok (.iconst 4, 1) := by decide +kernel
theorem dX13_scan_242 : decode cX13_scan 242 = .ok (.putfield 31, 3) := by decide +kernel
theorem dX13_scan_245 : decode cX13_scan 245 = .ok (.aload_n 0, 1) := by decide +kernel
theorem dX13_scan_246 : decode cX13_scan 246 = .ok (.dup, 1) := by decide +kernel
theorem dX13_scan_247 : decode cX13_scan 247 = .ok (.getfield 24, 3) := by decide +kernel
theorem dX13_scan_250 : decode cX13_scan 250 = .ok (.iconst 1, 1) := by decide +kernel
theorem dX13_scan_251 : decode cX13_scan 251 = .ok (.iadd, 1) := by decide +kernel
theorem dX13_scan_252 : decode cX13_scan 252 = .ok (.putfield 24, 3) := by decide +kernel
theorem dX13_scan_255 : decode cX13_scan 255 = .ok (.return_, 1) := by decide +kernel
noncomputable def tX13_scan_19 (j0 : qT (Unit × qM)) : qT (Unit × qM) :=
  oLa 0 (oDup (oGi 98 15 (oC (.int (1 : Int32)) (o2 (· + ·) (oPi 98 15 (j0))))))
noncomputable def wX13_scan_19 (k : qM → Option (Unit × qM)) : qT (Unit × qM) := fun lo st m => match lo, st with
  | [some (.ref 98), _], [] => k m
  | _, _ => none
noncomputable def wX13_scan_0 (k : qM → Option (Unit × qM)) : qT (Unit × qM) := fun lo st m => match lo, st with
  | [some (.ref 98), _], [] => k m
  | _, _ => none
set_option maxRecDepth 20000 in
theorem sX13_scan_19 {C : qCx} {w : qWp} (h : qOk C w RX13 cX13_scan 2 1 155 155) (hm : qMt C none) (hx : qNx C) {j0 : qT (Unit × qM)} (k0 : qSnd C w 2 155 (qQf C w 155 155 jV) qfin 155 0 j0) : qSnd C w 2 155 (qQf C w 155 155 jV) qfin 155 39 (tX13_scan_19 j0) :=
  cLa (pc := 39) h dX13_scan_39 rfl (aDup (pc := 40) h dX13_scan_40 (gGi (pc := 41) h dX13_scan_41 ff_X13_24_98 (Nat.le_of_ble_eq_true rfl) (Nat.le_of_ble_eq_true rfl) (cC (pc := 44) h dX13_scan_44 rfl (aAdd (pc := 45) h dX13_scan_45 (gPi (pc := 46) h dX13_scan_46 ff_X13_24_98 (Or.inl rfl) (Nat.le_of_ble_eq_true rfl) (Nat.le_of_ble_eq_true rfl) (jGo (pc := 49) h dX13_scan_49 rfl (k0)))))))
set_option maxRecDepth 20000 in
theorem lX13_scan_19 (k0 : qM → Option (Unit × qM)) (m : qM) : tX13_scan_19 (wX13_scan_0 k0) [some (.ref 98), none] [] m = fX13_scan_19 k0 m := rfl
theorem bX13_scan_19 {C : qCx} {w : qWp} (h : qOk C w RX13 cX13_scan 2 1 155 155) (hm : qMt C none) (hx : qNx C) {k0 : qM → Option (Unit × qM)} (h0 : qSnd C w 2 155 (qQf C w 155 155 jV) qfin 155 0 (wX13_scan_0 k0)) : qSnd C w 2 155 (qQf C w 155 155 jV) qfin 155 39 (wX13_scan_19 (fX13_scan_19 k0)) :=
  qSnd_of (fun lo st m x hr0 => by
    unfold wX13_scan_19 at hr0
    split at hr0
    · exact ⟨_, (qsub_e (qsub_n qsub_nil)), (lX13_scan_19 _ _).trans hr0⟩
    · cases hr0) (sX13_scan_19 h hm hx h0)
noncomputable def tX13_scan_0 (j26 : qT (Unit × qM)) (j19 : qT (Unit × qM)) : qT (Unit × qM) :=
  oLa 0 (oGi 98 15 (oLa 0 (oGi 98 13 (oCGe (j26) (oLa 0 (oGf 98 11 110 (oLa 0 (oGi 98 15 (oAi 110 400 (oC (.int (32 : Int32)) (oCEq (j19) (oLa 0 (oGf 98 11 110 (oLa 0 (oGi 98 15 (oAi 110 400 (oC (.int (10 : Int32)) (oCEq (j19) (j26)))))))))))))))))))
noncomputable def wX13_scan_26 (k : qM → Option (Unit × qM)) : qT (Unit × qM) := fun lo st m => match lo, st with
  | [some (.ref 98), _], [] => k m
  | _, _ => none
set_option maxRecDepth 20000 in
theorem sX13_scan_0 {C : qCx} {w : qWp} (h : qOk C w RX13 cX13_scan 2 1 155 155) (hm : qMt C none) (hx : qNx C) {j26 : qT (Unit × qM)} {j19 : qT (Unit × qM)} (k26 : qSnd C w 2 155 (qQf C w 155 155 jV) qfin 155 52 j26) (k19 : qSnd C w 2 155 (qQf C w 155 155 jV) qfin 155 39 j19) : qSnd C w 2 155 (qQf C w 155 155 jV) qfin 155 0 (tX13_scan_0 j26 j19) :=
  cLa (pc := 0) h dX13_scan_0 rfl (gGi (pc := 1) h dX13_scan_1 ff_X13_24_98 (Nat.le_of_ble_eq_true rfl) (Nat.le_of_ble_eq_true rfl) (cLa (pc := 4) h dX13_scan_4 rfl (gGi (pc := 5) h dX13_scan_5 ff_X13_17_98 (Nat.le_of_ble_eq_true rfl) (Nat.le_of_ble_eq_true rfl) (jCGe (pc := 8) h dX13_scan_8 rfl (k26) (cLa (pc := 11) h dX13_scan_11 rfl (gGf (pc := 12) h dX13_scan_12 ff_X13_20_98 (Nat.le_of_ble_eq_true rfl) (Nat.le_of_ble_eq_true rfl) rfl (cLa (pc := 15) h dX13_scan_15 rfl (gGi (pc := 16) h dX13_scan_16 ff_X13_24_98 (Nat.le_of_ble_eq_true rfl) (Nat.le_of_ble_eq_true rfl) (rAb (pc := 19) h dX13_scan_19 rfl (Nat.le_of_ble_eq_true rfl) (Nat.le_of_ble_eq_true rfl) (cB (pc := 20) h dX13_scan_20 rfl (jCEq (pc := 22) h dX13_scan_22 rfl (k19) (cLa (pc := 25) h dX13_scan_25 rfl (gGf (pc := 26) h dX13_scan_26 ff_X13_20_98 (Nat.le_of_ble_eq_true rfl) (Nat.le_of_ble_eq_true rfl) rfl (cLa (pc := 29) h dX13_scan_29 rfl (gGi (pc := 30) h dX13_scan_30 ff_X13_24_98 (Nat.le_of_ble_eq_true rfl) (Nat.le_of_ble_eq_true rfl) (rAb (pc := 33) h dX13_scan_33 rfl (Nat.le_of_ble_eq_true rfl) (Nat.le_of_ble_eq_true rfl) (cB (pc := 34) h dX13_scan_34 rfl (jCNe (pc := 36) h dX13_scan_36 rfl (k26) (k19)))))))))))))))))))
set_option maxRecDepth 20000 in
theorem lX13_scan_0 (k26 : qM → Option (Unit × qM)) (n : Nat) (m : qM) : tX13_scan_0 (wX13_scan_26 k26) (wX13_scan_19 (fX13_scan_19 (fX13_scan_0 k26 n))) [some (.ref 98), none] [] m = fX13_scan_0 k26 (n + 1) m := rfl
theorem bX13_scan_0 {C : qCx} {w : qWp} (h : qOk C w RX13 cX13_scan 2 1 155 155) (hm : qMt C none) (hx : qNx C) {k26 : qM → Option (Unit × qM)} (h26 : qSnd C w 2 155 (qQf C w 155 155 jV) qfin 155 52 (wX13_scan_26 k26)) : ∀ n : Nat, qSnd C w 2 155 (qQf C w 155 155 jV) qfin 155 0 (wX13_scan_0 (fX13_scan_0 k26 n))
  | 0 => qSnd_of0 (fun lo st m x hr0 => by
    unfold wX13_scan_0 at hr0
    split at hr0
    · cases hr0
    · cases hr0)
  | n + 1 => by
    have ih := bX13_scan_0 h hm hx h26 n
    exact qSnd_of (fun lo st m x hr0 => by
    unfold wX13_scan_0 at hr0
    split at hr0
    · exact ⟨_, (qsub_e (qsub_n qsub_nil)), (lX13_scan_0 _ n _).trans hr0⟩
    · cases hr0) (sX13_scan_0 h hm hx h26 (bX13_scan_19 h hm hx ih))
noncomputable def tX13_scan_130 : qT (Unit × qM) :=
  eV
noncomputable def wX13_scan_130 (k : qM → Option (Unit × qM)) : qT (Unit × qM) := fun lo st m => match lo, st with
  | [_, _], [] => k m
  | _, _ => none
set_option maxRecDepth 20000 in
theorem sX13_scan_130 {C : qCx} {w : qWp} (h : qOk C w RX13 cX13_scan 2 1 155 155) (hm : qMt C none) (hx : qNx C) : qSnd C w 2 155 (qQf C w 155 155 jV) qfin 155 255 (tX13_scan_130) :=
  zV (pc := 255) h hm (Nat.le_refl _) dX13_scan_255
set_option maxRecDepth 20000 in
theorem lX13_scan_130 (m : qM) : tX13_scan_130 [none, none] [] m = fX13_scan_130 m := rfl
theorem bX13_scan_130 {C : qCx} {w : qWp} (h : qOk C w RX13 cX13_scan 2 1 155 155) (hm : qMt C none) (hx : qNx C) : qSnd C w 2 155 (qQf C w 155 155 jV) qfin 155 255 (wX13_scan_130 fX13_scan_130) :=
  qSnd_of (fun lo st m x hr0 => by
    unfold wX13_scan_130 at hr0
    split at hr0
    · exact ⟨_, (qsub_n (qsub_n qsub_nil)), (lX13_scan_130 _).trans hr0⟩
    · cases hr0) (sX13_scan_130 h hm hx)
noncomputable def tX13_scan_123 (j130 : qT (Unit × qM)) : qT (Unit × qM) :=
  oPi 98 16 (oLa 0 (oDup (oGi 98 15 (oC (.int (1 : Int32)) (o2 (· + ·) (oPi 98 15 (j130)))))))
noncomputable def wX13_scan_123 (k : Int32 → qM → Option (Unit × qM)) : qT (Unit × qM) := fun lo st m => match lo, st with
  | [some (.ref 98), _], [.int s0, .ref 98] => k s0 m
  | _, _ => none
set_option maxRecDepth 20000 in
theorem sX13_scan_123 {C : qCx} {w : qWp} (h : qOk C w RX13 cX13_scan 2 1 155 155) (hm : qMt C none) (hx : qNx C) {j130 : qT (Unit × qM)} (k130 : qSnd C w 2 155 (qQf C w 155 155 jV) qfin 155 255 j130) : qSnd C w 2 155 (qQf C w 155 155 jV) qfin 155 242 (tX13_scan_123 j130) :=
  gPi (pc := 242) h dX13_scan_242 ff_X13_31_98 (Or.inl rfl) (Nat.le_of_ble_eq_true rfl) (Nat.le_of_ble_eq_true rfl) (cLa (pc := 245) h dX13_scan_245 rfl (aDup (pc := 246) h dX13_scan_246 (gGi (pc := 247) h dX13_scan_247 ff_X13_24_98 (Nat.le_of_ble_eq_true rfl) (Nat.le_of_ble_eq_true rfl) (cC (pc := 250) h dX13_scan_250 rfl (aAdd (pc := 251) h dX13_scan_251 (gPi (pc := 252) h dX13_scan_252 ff_X13_24_98 (Or.inl rfl) (Nat.le_of_ble_eq_true rfl) (Nat.le_of_ble_eq_true rfl) (k130)))))))
set_option maxRecDepth 20000 in
theorem lX13_scan_123 (s0 : Int32) (m : qM) : tX13_scan_123 (wX13_scan_130 fX13_scan_130) [some (.ref 98), none] [(.int s0), (.ref 98)] m = fX13_scan_123 s0 m := rfl
theorem bX13_scan_123 {C : qCx} {w : qWp} (h : qOk C w RX13 cX13_scan 2 1 155 155) (hm : qMt C none) (hx : qNx C) : qSnd C w 2 155 (qQf C w 155 155 jV) qfin 155 242 (wX13_scan_123 fX13_scan_123) :=
  qSnd_of (fun lo st m x hr0 => by
    unfold wX13_scan_123 at hr0
    split at hr0
    · exact ⟨_, (qsub_e (qsub_n qsub_nil)), (lX13_scan_123 _ _).trans hr0⟩
    · cases hr0) (sX13_scan_123 h hm hx (bX13_scan_130 h hm hx))
noncomputable def tX13_scan_96 (j70 : qT (Unit × qM)) : qT (Unit × qM) :=
  oLa 0 (oDup (oGi 98 15 (oC (.int (1 : Int32)) (o2 (· + ·) (oPi 98 15 (j70))))))
noncomputable def wX13_scan_96 (k : qM → Option (Unit × qM)) : qT (Unit × qM) := fun lo st m => match lo, st with
  | [some (.ref 98), _], [] => k m
  | _, _ => none
noncomputable def wX13_scan_70 (k : qM → Option (Unit × qM)) : qT (Unit × qM) := fun lo st m => match lo, st with
  | [some (.ref 98), _], [] => k m
  | _, _ => none
set_option maxRecDepth 20000 in
theorem sX13_scan_96 {C : qCx} {w : qWp} (h : qOk C w RX13 cX13_scan 2 1 155 155) (hm : qMt C none) (hx : qNx C) {j70 : qT (Unit × qM)} (k70 : qSnd C w 2 155 (qQf C w 155 155 jV) qfin 155 142 j70) : qSnd C w 2 155 (qQf C w 155 155 jV) qfin 155 192 (tX13_scan_96 j70) :=
  cLa (pc := 192) h dX13_scan_192 rfl (aDup (pc := 193) h dX13_scan_193 (gGi (pc := 194) h dX13_scan_194 ff_X13_24_98 (Nat.le_of_ble_eq_true rfl) (Nat.le_of_ble_eq_true rfl) (cC (pc := 197) h dX13_scan_197 rfl (aAdd (pc := 198) h dX13_scan_198 (gPi (pc := 199) h dX13_scan_199 ff_X13_24_98 (Or.inl rfl) (Nat.le_of_ble_eq_true rfl) (Nat.le_of_ble_eq_true rfl) (jGo (pc := 202) h dX13_scan_202 rfl (k70)))))))
set_option maxRecDepth 20000 in
theorem lX13_scan_96 (k70 : qM → Option (Unit × qM)) (m : qM) : tX13_scan_96 (wX13_scan_70 k70) [some (.ref 98), none] [] m = fX13_scan_96 k70 m := rfl
theorem bX13_scan_96 {C : qCx} {w : qWp} (h : qOk C w RX13 cX13_scan 2 1 155 155) (hm : qMt C none) (hx : qNx C) {k70 : qM → Option (Unit × qM)} (h70 : qSnd C w 2 155 (qQf C w 155 155 jV) qfin 155 142 (wX13_scan_70 k70)) : qSnd C w 2 155 (qQf C w 155 155 jV) qfin 155 192 (wX13_scan_96 (fX13_scan_96 k70)) :=
  qSnd_of (fun lo st m x hr0 => by
    unfold wX13_scan_96 at hr0
    split at hr0
    · exact ⟨_, (qsub_e (qsub_n qsub_nil)), (lX13_scan_96 _ _).trans hr0⟩
    · cases hr0) (sX13_scan_96 h hm hx h70)
noncomputable def tX13_scan_70 (j114 : qT (Unit × qM)) (j96 : qT (Unit × qM)) : qT (Unit × qM) :=
  oLa 0 (oLa 0 (oGi 98 15 (oCi GX13_byteAt 2 (oCi GX13_isDigit 1 (oEq (oLa 0 (oLa 0 (oGi 98 15 (oLa 0 (oGi 98 14 (o2 (· - ·) (oC (.int (3 : Int32)) (oCLe (oC (.int (2 : Int32)) (j114)) (oC (.int (4 : Int32)) (j114)))))))))) (oLa 0 (oGi 98 15 (oLa 0 (oGi 98 14 (o2 (· - ·) (oC (.int (3 : Int32)) (oCGe (j96) (oLa 0 (oC (.int (10 : Int32)) (oLa 0 (oGi 98 17 (o2 (· * ·) (oLa 0 (oLa 0 (oGi 98 15 (oCi GX13_byteAt 2 (o2 (· + ·) (oC (.int (48 : Int32)) (o2 (· - ·) (oPi 98 17 (j96))))))))))))))))))))))))))
noncomputable def wX13_scan_114 (k : Int32 → qM → Option (Unit × qM)) : qT (Unit × qM) := fun lo st m => match lo, st with
  | [_, _], [.int s0, .ref 98] => k s0 m
  | _, _ => none
set_option maxRecDepth 20000 in
theorem sX13_scan_70 {C : qCx} {w : qWp} (h : qOk C w RX13 cX13_scan 2 1 155 155) (hm : qMt C none) (hx : qNx C) {j114 : qT (Unit × qM)} {j96 : qT (Unit × qM)} (k114 : qSnd C w 2 155 (qQf C w 155 155 jV) qfin 155 224 j114) (k96 : qSnd C w 2 155 (qQf C w 155 155 jV) qfin 155 192 j96) : qSnd C w 2 155 (qQf C w 155 155 jV) qfin 155 142 (tX13_scan_70 j114 j96) :=
  cLa (pc := 142) h dX13_scan_142 rfl (cLa (pc := 143) h dX13_scan_143 rfl (gGi (pc := 144) h dX13_scan_144 ff_X13_24_98 (Nat.le_of_ble_eq_true rfl) (Nat.le_of_ble_eq_true rfl) (kCi (pc := 147) h (kd_X13_27 h dX13_scan_147) spX13_byteAt (by decide) (by decide) (by decide) (by decide) (kCi (pc := 150) h (kd_X13_38 h dX13_scan_150) spX13_isDigit (by decide) (by decide) (by decide) (by decide) (jEq (pc := 153) h dX13_scan_153 rfl (cLa (pc := 205) h dX13_scan_205 rfl (cLa (pc := 206) h dX13_scan_206 rfl (gGi (pc := 207) h dX13_scan_207 ff_X13_24_98 (Nat.le_of_ble_eq_true rfl) (Nat.le_of_ble_eq_true rfl) (cLa (pc := 210) h dX13_scan_210 rfl (gGi (pc := 211) h dX13_scan_211 ff_X13_7_98 (Nat.le_of_ble_eq_true rfl) (Nat.le_of_ble_eq_true rfl) (aSub (pc := 214) h dX13_scan_214 (cC (pc := 215) h dX13_scan_215 rfl (jCLe (pc := 216) h dX13_scan_216 rfl (cC (pc := 223) h dX13_scan_223 rfl (k114)) (cC (pc := 219) h dX13_scan_219 rfl (jGo (pc := 220) h dX13_scan_220 rfl (k114))))))))))) (cLa (pc := 156) h dX13_scan_156 rfl (gGi (pc := 157) h dX13_scan_157 ff_X13_24_98 (Nat.le_of_ble_eq_true rfl) (Nat.le_of_ble_eq_true rfl) (cLa (pc := 160) h dX13_scan_160 rfl (gGi (pc := 161) h dX13_scan_161 ff_X13_7_98 (Nat.le_of_ble_eq_true rfl) (Nat.le_of_ble_eq_true rfl) (aSub (pc := 164) h dX13_scan_164 (cC (pc := 165) h dX13_scan_165 rfl (jCGe (pc := 166) h dX13_scan_166 rfl (k96) (cLa (pc := 169) h dX13_scan_169 rfl (cB (pc := 170) h dX13_scan_170 rfl (cLa (pc := 172) h dX13_scan_172 rfl (gGi (pc := 173) h dX13_scan_173 ff_X13_41_98 (Nat.le_of_ble_eq_true rfl) (Nat.le_of_ble_eq_true rfl) (aMul (pc := 176) h dX13_scan_176 (cLa (pc := 177) h dX13_scan_177 rfl (cLa (pc := 178) h dX13_scan_178 rfl (gGi (pc := 179) h dX13_scan_179 ff_X13_24_98 (Nat.le_of_ble_eq_true rfl) (Nat.le_of_ble_eq_true rfl) (kCi (pc := 182) h (kd_X13_27 h dX13_scan_182) spX13_byteAt (by decide) (by decide) (by decide) (by decide) (aAdd (pc := 185) h dX13_scan_185 (cB (pc := 186) h dX13_scan_186 rfl (aSub (pc := 188) h dX13_scan_188 (gPi (pc := 189) h dX13_scan_189 ff_X13_41_98 (Or.inl rfl) (Nat.le_of_ble_eq_true rfl) (Nat.le_of_ble_eq_true rfl) (k96))))))))))))))))))))))))))
set_option maxRecDepth 20000 in
theorem lX13_scan_70 (k114 : Int32 → qM → Option (Unit × qM)) (n : Nat) (m : qM) : tX13_scan_70 (wX13_scan_114 k114) (wX13_scan_96 (fX13_scan_96 (fX13_scan_70 k114 n))) [some (.ref 98), none] [] m = fX13_scan_70 k114 (n + 1) m := rfl
theorem bX13_scan_70 {C : qCx} {w : qWp} (h : qOk C w RX13 cX13_scan 2 1 155 155) (hm : qMt C none) (hx : qNx C) {k114 : Int32 → qM → Option (Unit × qM)} (h114 : qSnd C w 2 155 (qQf C w 155 155 jV) qfin 155 224 (wX13_scan_114 k114)) : ∀ n : Nat, qSnd C w 2 155 (qQf C w 155 155 jV) qfin 155 142 (wX13_scan_70 (fX13_scan_70 k114 n))
  | 0 => qSnd_of0 (fun lo st m x hr0 => by
    unfold wX13_scan_70 at hr0
    split at hr0
    · cases hr0
    · cases hr0)
  | n + 1 => by
    have ih := bX13_scan_70 h hm hx h114 n
    exact qSnd_of (fun lo st m x hr0 => by
    unfold wX13_scan_70 at hr0
    split at hr0
    · exact ⟨_, (qsub_e (qsub_n qsub_nil)), (lX13_scan_70 _ n _).trans hr0⟩
    · cases hr0) (sX13_scan_70 h hm hx h114 (bX13_scan_96 h hm hx ih))
noncomputable def tX13_scan_114 (j130 : qT (Unit × qM)) : qT (Unit × qM) :=
  oPi 98 16 (j130)
set_option maxRecDepth 20000 in
theorem sX13_scan_114 {C : qCx} {w : qWp} (h : qOk C w RX13 cX13_scan 2 1 155 155) (hm : qMt C none) (hx : qNx C) {j130 : qT (Unit × qM)} (k130 : qSnd C w 2 155 (qQf C w 155 155 jV) qfin 155 255 j130) : qSnd C w 2 155 (qQf C w 155 155 jV) qfin 155 224 (tX13_scan_114 j130) :=
  gPi (pc := 224) h dX13_scan_224 ff_X13_31_98 (Or.inl rfl) (Nat.le_of_ble_eq_true rfl) (Nat.le_of_ble_eq_true rfl) (jGo (pc := 227) h dX13_scan_227 rfl (k130))
set_option maxRecDepth 20000 in
theorem lX13_scan_114 (s0 : Int32) (m : qM) : tX13_scan_114 (wX13_scan_130 fX13_scan_130) [none, none] [(.int s0), (.ref 98)] m = fX13_scan_114 s0 m := rfl
theorem bX13_scan_114 {C : qCx} {w : qWp} (h : qOk C w RX13 cX13_scan 2 1 155 155) (hm : qMt C none) (hx : qNx C) : qSnd C w 2 155 (qQf C w 155 155 jV) qfin 155 224 (wX13_scan_114 fX13_scan_114) :=
  qSnd_of (fun lo st m x hr0 => by
    unfold wX13_scan_114 at hr0
    split at hr0
    · exact ⟨_, (qsub_n (qsub_n qsub_nil)), (lX13_scan_114 _ _).trans hr0⟩
    · cases hr0) (sX13_scan_114 h hm hx (bX13_scan_130 h hm hx))
noncomputable def tX13_scan_47 (j130 : qT (Unit × qM)) (j47 : qT (Unit × qM)) : qT (Unit × qM) :=
  oLa 0 (oLa 0 (oGi 98 15 (oCi GX13_byteAt 2 (oCi GX13_isSmall 1 (oEq (oLa 0 (oC (.int (1 : Int32)) (oPi 98 16 (j130)))) (oLa 0 (oDup (oGi 98 15 (oC (.int (1 : Int32)) (o2 (· + ·) (oPi 98 15 (j47))))))))))))
noncomputable def wX13_scan_47 (k : qM → Option (Unit × qM)) : qT (Unit × qM) := fun lo st m => match lo, st with
  | [some (.ref 98), _], [] => k m
  | _, _ => none
set_option maxRecDepth 20000 in
theorem sX13_scan_47 {C : qCx} {w : qWp} (h : qOk C w RX13 cX13_scan 2 1 155 155) (hm : qMt C none) (hx : qNx C) {j130 : qT (Unit × qM)} {j47 : qT (Unit × qM)} (k130 : qSnd C w 2 155 (qQf C w 155 155 jV) qfin 155 255 j130) (k47 : qSnd C w 2 155 (qQf C w 155 155 jV) qfin 155 95 j47) : qSnd C w 2 155 (qQf C w 155 155 jV) qfin 155 95 (tX13_scan_47 j130 j47) :=
  cLa (pc := 95) h dX13_scan_95 rfl (cLa (pc := 96) h dX13_scan_96 rfl (gGi (pc := 97) h dX13_scan_97 ff_X13_24_98 (Nat.le_of_ble_eq_true rfl) (Nat.le_of_ble_eq_true rfl) (kCi (pc := 100) h (kd_X13_27 h dX13_scan_100) spX13_byteAt (by decide) (by decide) (by decide) (by decide) (kCi (pc := 103) h (kd_X13_34 h dX13_scan_103) spX13_isSmall (by decide) (by decide) (by decide) (by decide) (jEq (pc := 106) h dX13_scan_106 rfl (cLa (pc := 122) h dX13_scan_122 rfl (cC (pc := 123) h dX13_scan_123 rfl (gPi (pc := 124) h dX13_scan_124 ff_X13_31_98 (Or.inl rfl) (Nat.le_of_ble_eq_true rfl) (Nat.le_of_ble_eq_true rfl) (jGo (pc := 127) h dX13_scan_127 rfl (k130))))) (cLa (pc := 109) h dX13_scan_109 rfl (aDup (pc := 110) h dX13_scan_110 (gGi (pc := 111) h dX13_scan_111 ff_X13_24_98 (Nat.le_of_ble_eq_true rfl) (Nat.le_of_ble_eq_true rfl) (cC (pc := 114) h dX13_scan_114 rfl (aAdd (pc := 115) h dX13_scan_115 (gPi (pc := 116) h dX13_scan_116 ff_X13_24_98 (Or.inl rfl) (Nat.le_of_ble_eq_true rfl) (Nat.le_of_ble_eq_true rfl) (jGo (pc := 119) h dX13_scan_119 rfl (k47)))))))))))))
set_option maxRecDepth 20000 in
theorem lX13_scan_47 (k130 : qM → Option (Unit × qM)) (n : Nat) (m : qM) : tX13_scan_47 (wX13_scan_130 k130) (wX13_scan_47 ((fX13_scan_47 k130 n))) [some (.ref 98), none] [] m = fX13_scan_47 k130 (n + 1) m := rfl
theorem bX13_scan_47 {C : qCx} {w : qWp} (h : qOk C w RX13 cX13_scan 2 1 155 155) (hm : qMt C none) (hx : qNx C) {k130 : qM → Option (Unit × qM)} (h130 : qSnd C w 2 155 (qQf C w 155 155 jV) qfin 155 255 (wX13_scan_130 k130)) : ∀ n : Nat, qSnd C w 2 155 (qQf C w 155 155 jV) qfin 155 95 (wX13_scan_47 (fX13_scan_47 k130 n))
  | 0 => qSnd_of0 (fun lo st m x hr0 => by
    unfold wX13_scan_47 at hr0
    split at hr0
    · cases hr0
    · cases hr0)
  | n + 1 => by
    have ih := bX13_scan_47 h hm hx h130 n
    exact qSnd_of (fun lo st m x hr0 => by
    unfold wX13_scan_47 at hr0
    split at hr0
    · exact ⟨_, (qsub_e (qsub_n qsub_nil)), (lX13_scan_47 _ n _).trans hr0⟩
    · cases hr0) (sX13_scan_47 h hm hx h130 ih)
noncomputable def tX13_scan_26 (j123 : qT (Unit × qM)) (j70 : qT (Unit × qM)) (j47 : qT (Unit × qM)) (j130 : qT (Unit × qM)) : qT (Unit × qM) :=
  oLa 0 (oLa 0 (oGi 98 15 (oPi 98 14 (oLa 0 (oLa 0 (oGi 98 14 (oCi GX13_byteAt 2 (oSi 1 (oLa 0 (oGi 98 14 (oLa 0 (oGi 98 13 (oCEq (oLa 0 (oC (.int (0 : Int32)) (oPi 98 16 (j130)))) (oLi 1 (oCi GX13_isSmall 1 (oEq (oLi 1 (oCi GX13_isDigit 1 (oEq (oLa 0 (oLi 1 (oC (.int (59 : Int32)) (oCEq (oC (.int (3 : Int32)) (j123)) (oC (.int (4 : Int32)) (j123)))))) (oLa 0 (oC (.int (0 : Int32)) (oPi 98 17 (j70))))))) (j47)))))))))))))))))
set_option maxRecDepth 20000 in
theorem sX13_scan_26 {C : qCx} {w : qWp} (h : qOk C w RX13 cX13_scan 2 1 155 155) (hm : qMt C none) (hx : qNx C) {j123 : qT (Unit × qM)} {j70 : qT (Unit × qM)} {j47 : qT (Unit × qM)} {j130 : qT (Unit × qM)} (k123 : qSnd C w 2 155 (qQf C w 155 155 jV) qfin 155 242 j123) (k70 : qSnd C w 2 155 (qQf C w 155 155 jV) qfin 155 142 j70) (k47 : qSnd C w 2 155 (qQf C w 155 155 jV) qfin 155 95 j47) (k130 : qSnd C w 2 155 (qQf C w 155 155 jV) qfin 155 255 j130) : qSnd C w 2 155 (qQf C w 155 155 jV) qfin 155 52 (tX13_scan_26 j123 j70 j47 j130) :=
  cLa (pc := 52) h dX13_scan_52 rfl (cLa (pc := 53) h dX13_scan_53 rfl (gGi (pc := 54) h dX13_scan_54 ff_X13_24_98 (Nat.le_of_ble_eq_true rfl) (Nat.le_of_ble_eq_true rfl) (gPi (pc := 57) h dX13_scan_57 ff_X13_7_98 (Or.inl rfl) (Nat.le_of_ble_eq_true rfl) (Nat.le_of_ble_eq_true rfl) (cLa (pc := 60) h dX13_scan_60 rfl (cLa (pc := 61) h dX13_scan_61 rfl (gGi (pc := 62) h dX13_scan_62 ff_X13_7_98 (Nat.le_of_ble_eq_true rfl) (Nat.le_of_ble_eq_true rfl) (kCi (pc := 65) h (kd_X13_27 h dX13_scan_65) spX13_byteAt (by decide) (by decide) (by decide) (by decide) (cSi (pc := 68) h dX13_scan_68 rfl (cLa (pc := 69) h dX13_scan_69 rfl (gGi (pc := 70) h dX13_scan_70 ff_X13_7_98 (Nat.le_of_ble_eq_true rfl) (Nat.le_of_ble_eq_true rfl) (cLa (pc := 73) h dX13_scan_73 rfl (gGi (pc := 74) h dX13_scan_74 ff_X13_17_98 (Nat.le_of_ble_eq_true rfl) (Nat.le_of_ble_eq_true rfl) (jCNe (pc := 77) h dX13_scan_77 rfl (cLi (pc := 88) h dX13_scan_88 rfl (kCi (pc := 89) h (kd_X13_34 h dX13_scan_89) spX13_isSmall (by decide) (by decide) (by decide) (by decide) (jEq (pc := 92) h dX13_scan_92 rfl (cLi (pc := 130) h dX13_scan_130 rfl (kCi (pc := 131) h (kd_X13_38 h dX13_scan_131) spX13_isDigit (by decide) (by decide) (by decide) (by decide) (jEq (pc := 134) h dX13_scan_134 rfl (cLa (pc := 230) h dX13_scan_230 rfl (cLi (pc := 231) h dX13_scan_231 rfl (cB (pc := 232) h dX13_scan_232 rfl (jCNe (pc := 234) h dX13_scan_234 rfl (cC (pc := 241) h dX13_scan_241 rfl (k123)) (cC (pc := 237) h dX13_scan_237 rfl (jGo (pc := 238) h dX13_scan_238 rfl (k123))))))) (cLa (pc := 137) h dX13_scan_137 rfl (cC (pc := 138) h dX13_scan_138 rfl (gPi (pc := 139) h dX13_scan_139 ff_X13_41_98 (Or.inl rfl) (Nat.le_of_ble_eq_true rfl) (Nat.le_of_ble_eq_true rfl) (k70))))))) (k47)))) (cLa (pc := 80) h dX13_scan_80 rfl (cC (pc := 81) h dX13_scan_81 rfl (gPi (pc := 82) h dX13_scan_82 ff_X13_31_98 (Or.inl rfl) (Nat.le_of_ble_eq_true rfl) (Nat.le_of_ble_eq_true rfl) (jGo (pc := 85) h dX13_scan_85 rfl (k130))))))))))))))))))
set_option maxRecDepth 20000 in
theorem lX13_scan_26 (m : qM) : tX13_scan_26 (wX13_scan_123 fX13_scan_123) (wX13_scan_70 (fX13_scan_70 fX13_scan_114 FU)) (wX13_scan_47 (fX13_scan_47 fX13_scan_130 FU)) (wX13_scan_130 fX13_scan_130) [some (.ref 98), none] [] m = fX13_scan_26 m := rfl
theorem bX13_scan_26 {C : qCx} {w : qWp} (h : qOk C w RX13 cX13_scan 2 1 155 155) (hm : qMt C none) (hx : qNx C) : qSnd C w 2 155 (qQf C w 155 155 jV) qfin 155 52 (wX13_scan_26 fX13_scan_26) :=
  qSnd_of (fun lo st m x hr0 => by
    unfold wX13_scan_26 at hr0
    split at hr0
    · exact ⟨_, (qsub_e (qsub_n qsub_nil)), (lX13_scan_26 _).trans hr0⟩
    · cases hr0) (sX13_scan_26 h hm hx (bX13_scan_123 h hm hx) (bX13_scan_70 h hm hx (bX13_scan_114 h hm hx) FU) (bX13_scan_47 h hm hx (bX13_scan_130 h hm hx) FU) (bX13_scan_130 h hm hx))
noncomputable def tX13_scan_e (j0 : qT (Unit × qM)) : qT (Unit × qM) :=
  j0
set_option maxRecDepth 20000 in
theorem sX13_scan_e {C : qCx} {w : qWp} (h : qOk C w RX13 cX13_scan 2 1 155 155) (hm : qMt C none) (hx : qNx C) {j0 : qT (Unit × qM)} (k0 : qSnd C w 2 155 (qQf C w 155 155 jV) qfin 155 0 j0) : qSnd C w 2 155 (qQf C w 155 155 jV) qfin 155 0 (tX13_scan_e j0) :=
  k0
set_option maxRecDepth 20000 in
theorem lX13_scan_e (m : qM) : tX13_scan_e (wX13_scan_0 (fX13_scan_0 fX13_scan_26 FU)) [some (.ref 98), none] [] m = fX13_scan_e m := rfl
noncomputable def GX13_scan : qG Unit := fun av m => match av with
  | [.ref 98] => fX13_scan m
  | _ => none
theorem spX13_scan : qSpV yX13_scan (.code yX13_scan cX13_scan 2 none) 1 qfin 155 155 1 GX13_scan := by
  intro av m m' hG
  unfold GX13_scan at hG
  split at hG
  · rw [fX13_scan_d] at hG
    exact ⟨qmeet (J := jV) (r := ((), m')) (av := [.ref 98]) (by decide +kernel) (Nat.le_of_ble_eq_true rfl) (fun C w h hm hx hn => sX13_scan_e h hm hx (bX13_scan_0 h hm hx (bX13_scan_26 h hm hx) FU)) ((lX13_scan_e _).trans hG) (Nat.le_of_ble_eq_true rfl), Or.inl ⟨98, _, 13, _, _, rfl, by decide, rfl, qCk_13, rfl⟩⟩
  · cases hG
theorem ml_X13_44 : Jvm.Cond.methodLink RX13 44 yJ0_length_8abf5 ∈ qTw := qm8 (List.mem_of_getElem? (i := 25) (by decide +kernel)) (by decide +kernel)
theorem kd_X13_44 {C : qCx} {w : qWp} {cc : ByteArray} {nL dp n0 n1 pc : Nat} (h : qOk C w RX13 cc nL dp n0 n1) (d : decode cc pc = .ok (.invokevirtual 44, 3)) : qCallOk C w nL dp n0 n1 pc 1 1 yJ0_length_8abf5 (.code yJ0_length_8abf5 cJ0_length_8abf5 1 (some .int)) := kindV h d ml_X13_44 im_J0_length_8abf5 se_J0_length_8abf5 in_java_lang_String co_J0_length_8abf5 yk_J0_length_8abf5 (by decide)
theorem ml_X13_50 : Jvm.Cond.methodLink RX13 50 yJ0_charAt_5068e ∈ qTw := qm8 (List.mem_of_getElem? (i := 26) (by decide +kernel)) (by decide +kernel)
theorem kd_X13_50 {C : qCx} {w : qWp} {cc : ByteArray} {nL dp n0 n1 pc : Nat} (h : qOk C w RX13 cc nL dp n0 n1) (d : decode cc pc = .ok (.invokevirtual 50, 3)) : qCallOk C w nL dp n0 n1 pc 2 1 yJ0_charAt_5068e (.code yJ0_charAt_5068e cJ0_charAt_5068e 2 (some .char)) := kindV h d ml_X13_50 im_J0_charAt_5068e se_J0_charAt_5068e in_java_lang_String co_J0_charAt_5068e yk_J0_charAt_5068e (by decide)
theorem dX13_is_0 : decode cX13_is 0 = .ok (.aload_n 0, 1) := by decide +kernel
theorem dX13_is_1 : decode cX13_is 1 = .ok (.getfield 31, 3) := by decide +kernel
theorem dX13_is_4 : decode cX13_is 4 = .ok (.iconst 1, 1) := by decide +kernel
theorem dX13_is_5 : decode cX13_is 5 = .ok (.if_icmp .ne 23, 3) := by decide +kernel
theorem dX13_is_8 : decode cX13_is 8 = .ok (.aload_n 0, 1) := by decide +kernel
theorem dX13_is_9 : decode cX13_is 9 = .ok (.getfield 24, 3) := by decide +kernel
theorem dX13_is_12 : decode cX13_is 12 = .ok (.aload_n 0, 1) := by decide +kernel
theorem dX13_is_13 : decode cX13_is 13 = .ok (.getfield 7, 3) := by decide +kernel
theorem dX13_is_16 : decode cX13_is 16 = .ok (.isub, 1) := by decide +kernel
theorem dX13_is_17 : decode cX13_is 17 = .ok (.aload_n 1, 1) := by decide +kernel
theorem dX13_is_18 : decode cX13_is 18 = .ok (.invokevirtual 44, 3) := by decide +kernel
theorem dX13_is_21 : decode cX13_is 21 = .ok (.if_icmp .ne 7, 3) := by decide +kernel
theorem dX13_is_24 : decode cX13_is 24 = .ok (.iconst 1, 1) := by decide +kernel
theorem dX13_is_25 : decode cX13_is 25 = .ok (.goto 4, 3) := by decide +kernel
theorem dX13_is_28 : decode cX13_is 28 = .ok (.iconst 0, 1) := by decide +kernel
theorem dX13_is_29 : decode cX13_is 29 = .ok (.istore_n 2, 1) := by decide +kernel
theorem dX13_is_30 : decode cX13_is 30 = .ok (.iconst 0, 1) := by decide +kernel
theorem dX13_is_31 : decode cX13_is 31 = .ok (.istore_n 3, 1) := by decide +kernel
theorem dX13_is_32 : decode cX13_is 32 = .ok (.iload_n 3, 1) := by decide +kernel
theorem dX13_is_33 : decode cX13_is 33 = .ok (.aload_n 1, 1) := by decide +kernel
theorem dX13_is_34 : decode cX13_is 34 = .ok (.invokevirtual 44, 3) := by decide +kernel
theorem dX13_is_37 : decode cX13_is 37 = .ok (.if_icmp .ge 38, 3) := by decide +kernel
theorem dX13_is_40 : decode cX13_is 40 = .ok (.iload_n 2, 1) := by decide +kernel
theorem dX13_is_41 : decode cX13_is 41 = .ok (.ifCond .eq 34, 3) := by decide +kernel
theorem dX13_is_44 : decode cX13_is 44 = .ok (.aload_n 0, 1) := by decide +kernel
theorem dX13_is_45 : decode cX13_is 45 = .ok (.getfield 20, 3) := by decide +kernel
theorem dX13_is_48 : decode cX13_is 48 = .ok (.aload_n 0, 1) := by decide +kernel
theorem dX13_is_49 : decode cX13_is 49 = .ok (.getfield 7, 3) := by decide +kernel
theorem dX13_is_52 : decode cX13_is 52 = .ok (.iload_n 3, 1) := by decide +kernel
theorem dX13_is_53 : decode cX13_is 53 = .ok (.iadd, 1) := by decide +kernel
theorem dX13_is_54 : decode cX13_is 54 = .ok (.baload, 1) := by decide +kernel
theorem dX13_is_55 : decode cX13_is 55 = .ok (.aload_n 1, 1) := by decide +kernel
theorem dX13_is_56 : decode cX13_is 56 = .ok (.iload_n 3, 1) := by decide +kernel
theorem dX13_is_57 : decode cX13_is 57 = .ok (.invokevirtual 50, 3) := by decide +kernel
theorem dX13_is_60 : decode cX13_is 60 = .ok (.if_icmp .ne 7, 3) := by decide +kernel
theorem dX13_is_63 : decode cX13_is 63 = .ok (.iconst 1, 1) := by decide +kernel
theorem dX13_is_64 : decode cX13_is 64 = .ok (.goto 4, 3) := by decide +kernel
theorem dX13_is_67 : decode cX13_is 67 = .ok (.iconst 0, 1) := by decide +kernel
theorem dX13_is_68 : decode cX13_is 68 = .ok (.istore_n 2, 1) := by decide +kernel
theorem dX13_is_69 : decode cX13_is 69 = .ok (.iinc 3 1, 3) := by decide +kernel
theorem dX13_is_72 : decode cX13_is 72 = .ok (.goto (-40), 3) := by decide +kernel
theorem dX13_is_75 : decode cX13_is 75 = .ok (.iload_n 2, 1) := by decide +kernel
theorem dX13_is_76 : decode cX13_is 76 = .ok (.ireturn, 1) := by decide +kernel
noncomputable def tX13_is_38 (j18 : qT (Int32 × qM)) : qT (Int32 × qM) :=
  oSi 2 (oInc 3 (1 : Int32) (j18))
noncomputable def wX13_is_38 (k : Nat → Int32 → Int32 → qM → Option (Int32 × qM)) : qT (Int32 × qM) := fun lo st m => match lo, st with
  | [some (.ref 98), some (.ref a1), _, some (.int a3)], [.int s0] => k a1 a3 s0 m
  | _, _ => none
noncomputable def wX13_is_18 (k : Nat → Int32 → Int32 → qM → Option (Int32 × qM)) : qT (Int32 × qM) := fun lo st m => match lo, st with
  | [some (.ref 98), some (.ref a1), some (.int a2), some (.int a3)], [] => k a1 a2 a3 m
  | _, _ => none
set_option maxRecDepth 20000 in
theorem sX13_is_38 {C : qCx} {w : qWp} (h : qOk C w RX13 cX13_is 4 4 155 155) (hm : qMt C (some .boolean)) (hx : qNx C) {j18 : qT (Int32 × qM)} (k18 : qSnd C w 4 155 (qQf C w 155 155 jI) qfin 155 32 j18) : qSnd C w 4 155 (qQf C w 155 155 jI) qfin 155 68 (tX13_is_38 j18) :=
  cSi (pc := 68) h dX13_is_68 rfl (cInc (pc := 69) h dX13_is_69 rfl (jGo (pc := 72) h dX13_is_72 rfl (k18)))
set_option maxRecDepth 20000 in
theorem lX13_is_38 (k18 : Nat → Int32 → Int32 → qM → Option (Int32 × qM)) (a1 : Nat) (a3 : Int32) (s0 : Int32) (m : qM) : tX13_is_38 (wX13_is_18 k18) [some (.ref 98), some (.ref a1), none, some (.int a3)] [(.int s0)] m = fX13_is_38 k18 a1 a3 s0 m := rfl
theorem bX13_is_38 {C : qCx} {w : qWp} (h : qOk C w RX13 cX13_is 4 4 155 155) (hm : qMt C (some .boolean)) (hx : qNx C) {k18 : Nat → Int32 → Int32 → qM → Option (Int32 × qM)} (h18 : qSnd C w 4 155 (qQf C w 155 155 jI) qfin 155 32 (wX13_is_18 k18)) : qSnd C w 4 155 (qQf C w 155 155 jI) qfin 155 68 (wX13_is_38 (fX13_is_38 k18)) :=
  qSnd_of (fun lo st m x hr0 => by
    unfold wX13_is_38 at hr0
    split at hr0
    · exact ⟨_, (qsub_e (qsub_e (qsub_n (qsub_e qsub_nil)))), (lX13_is_38 _ _ _ _ _).trans hr0⟩
    · cases hr0) (sX13_is_38 h hm hx h18)
noncomputable def tX13_is_18 (j41 : qT (Int32 × qM)) (j38 : qT (Int32 × qM)) : qT (Int32 × qM) :=
  oLi 3 (oLa 1 (oCi GJ0_length_8abf5 1 (oCGe (j41) (oLi 2 (oEq (j41) (oLa 0 (oGf 98 11 110 (oLa 0 (oGi 98 14 (oLi 3 (o2 (· + ·) (oAi 110 400 (oLa 1 (oLi 3 (oCi GJ0_charAt_5068e 2 (oCEq (oC (.int (1 : Int32)) (j38)) (oC (.int (0 : Int32)) (j38))))))))))))))))))
noncomputable def wX13_is_41 (k : Int32 → qM → Option (Int32 × qM)) : qT (Int32 × qM) := fun lo st m => match lo, st with
  | [_, _, some (.int a2), _], [] => k a2 m
  | _, _ => none
set_option maxRecDepth 20000 in
theorem sX13_is_18 {C : qCx} {w : qWp} (h : qOk C w RX13 cX13_is 4 4 155 155) (hm : qMt C (some .boolean)) (hx : qNx C) {j41 : qT (Int32 × qM)} {j38 : qT (Int32 × qM)} (k41 : qSnd C w 4 155 (qQf C w 155 155 jI) qfin 155 75 j41) (k38 : qSnd C w 4 155 (qQf C w 155 155 jI) qfin 155 68 j38) : qSnd C w 4 155 (qQf C w 155 155 jI) qfin 155 32 (tX13_is_18 j41 j38) :=
  cLi (pc := 32) h dX13_is_32 rfl (cLa (pc := 33) h dX13_is_33 rfl (kCi (pc := 34) h (kd_X13_44 h dX13_is_34) spJ0_length_8abf5 (by decide) (by decide) (by decide) (by decide) (jCGe (pc := 37) h dX13_is_37 rfl (k41) (cLi (pc := 40) h dX13_is_40 rfl (jEq (pc := 41) h dX13_is_41 rfl (k41) (cLa (pc := 44) h dX13_is_44 rfl (gGf (pc := 45) h dX13_is_45 ff_X13_20_98 (Nat.le_of_ble_eq_true rfl) (Nat.le_of_ble_eq_true rfl) rfl (cLa (pc := 48) h dX13_is_48 rfl (gGi (pc := 49) h dX13_is_49 ff_X13_7_98 (Nat.le_of_ble_eq_true rfl) (Nat.le_of_ble_eq_true rfl) (cLi (pc := 52) h dX13_is_52 rfl (aAdd (pc := 53) h dX13_is_53 (rAb (pc := 54) h dX13_is_54 rfl (Nat.le_of_ble_eq_true rfl) (Nat.le_of_ble_eq_true rfl) (cLa (pc := 55) h dX13_is_55 rfl (cLi (pc := 56) h dX13_is_56 rfl (kCi (pc := 57) h (kd_X13_50 h dX13_is_57) spJ0_charAt_5068e (by decide) (by decide) (by decide) (by decide) (jCNe (pc := 60) h dX13_is_60 rfl (cC (pc := 67) h dX13_is_67 rfl (k38)) (cC (pc := 63) h dX13_is_63 rfl (jGo (pc := 64) h dX13_is_64 rfl (k38)))))))))))))))))))
set_option maxRecDepth 20000 in
theorem lX13_is_18 (k41 : Int32 → qM → Option (Int32 × qM)) (n : Nat) (a1 : Nat) (a2 : Int32) (a3 : Int32) (m : qM) : tX13_is_18 (wX13_is_41 k41) (wX13_is_38 (fX13_is_38 (fX13_is_18 k41 n))) [some (.ref 98), some (.ref a1), some (.int a2), some (.int a3)] [] m = fX13_is_18 k41 (n + 1) a1 a2 a3 m := rfl
theorem bX13_is_18 {C : qCx} {w : qWp} (h : qOk C w RX13 cX13_is 4 4 155 155) (hm : qMt C (some .boolean)) (hx : qNx C) {k41 : Int32 → qM → Option (Int32 × qM)} (h41 : qSnd C w 4 155 (qQf C w 155 155 jI) qfin 155 75 (wX13_is_41 k41)) : ∀ n : Nat, qSnd C w 4 155 (qQf C w 155 155 jI) qfin 155 32 (wX13_is_18 (fX13_is_18 k41 n))
  | 0 => qSnd_of0 (fun lo st m x hr0 => by
    unfold wX13_is_18 at hr0
    split at hr0
    · cases hr0
    · cases hr0)
  | n + 1 => by
    have ih := bX13_is_18 h hm hx h41 n
    exact qSnd_of (fun lo st m x hr0 => by
    unfold wX13_is_18 at hr0
    split at hr0
    · exact ⟨_, (qsub_e (qsub_e (qsub_e (qsub_e qsub_nil)))), (lX13_is_18 _ n _ _ _ _).trans hr0⟩
    · cases hr0) (sX13_is_18 h hm hx h41 (bX13_is_38 h hm hx ih))
noncomputable def tX13_is_41 : qT (Int32 × qM) :=
  oLi 2 (eZ)
set_option maxRecDepth 20000 in
theorem sX13_is_41 {C : qCx} {w : qWp} (h : qOk C w RX13 cX13_is 4 4 155 155) (hm : qMt C (some .boolean)) (hx : qNx C) : qSnd C w 4 155 (qQf C w 155 155 jI) qfin 155 75 (tX13_is_41) :=
  cLi (pc := 75) h dX13_is_75 rfl (zZ (pc := 76) h hm (Nat.le_refl _) dX13_is_76)
set_option maxRecDepth 20000 in
theorem lX13_is_41 (a2 : Int32) (m : qM) : tX13_is_41 [none, none, some (.int a2), none] [] m = fX13_is_41 a2 m := rfl
theorem bX13_is_41 {C : qCx} {w : qWp} (h : qOk C w RX13 cX13_is 4 4 155 155) (hm : qMt C (some .boolean)) (hx : qNx C) : qSnd C w 4 155 (qQf C w 155 155 jI) qfin 155 75 (wX13_is_41 fX13_is_41) :=
  qSnd_of (fun lo st m x hr0 => by
    unfold wX13_is_41 at hr0
    split at hr0
    · exact ⟨_, (qsub_n (qsub_n (qsub_e (qsub_n qsub_nil)))), (lX13_is_41 _ _).trans hr0⟩
    · cases hr0) (sX13_is_41 h hm hx)
noncomputable def tX13_is_15 (j18 : qT (Int32 × qM)) : qT (Int32 × qM) :=
  oSi 2 (oC (.int (0 : Int32)) (oSi 3 (j18)))
noncomputable def wX13_is_15 (k : Nat → Int32 → qM → Option (Int32 × qM)) : qT (Int32 × qM) := fun lo st m => match lo, st with
  | [some (.ref 98), some (.ref a1), _, _], [.int s0] => k a1 s0 m
  | _, _ => none
set_option maxRecDepth 20000 in
theorem sX13_is_15 {C : qCx} {w : qWp} (h : qOk C w RX13 cX13_is 4 4 155 155) (hm : qMt C (some .boolean)) (hx : qNx C) {j18 : qT (Int32 × qM)} (k18 : qSnd C w 4 155 (qQf C w 155 155 jI) qfin 155 32 j18) : qSnd C w 4 155 (qQf C w 155 155 jI) qfin 155 29 (tX13_is_15 j18) :=
  cSi (pc := 29) h dX13_is_29 rfl (cC (pc := 30) h dX13_is_30 rfl (cSi (pc := 31) h dX13_is_31 rfl (k18)))
set_option maxRecDepth 20000 in
theorem lX13_is_15 (a1 : Nat) (s0 : Int32) (m : qM) : tX13_is_15 (wX13_is_18 (fX13_is_18 fX13_is_41 FU)) [some (.ref 98), some (.ref a1), none, none] [(.int s0)] m = fX13_is_15 a1 s0 m := rfl
theorem bX13_is_15 {C : qCx} {w : qWp} (h : qOk C w RX13 cX13_is 4 4 155 155) (hm : qMt C (some .boolean)) (hx : qNx C) : qSnd C w 4 155 (qQf C w 155 155 jI) qfin 155 29 (wX13_is_15 fX13_is_15) :=
  qSnd_of (fun lo st m x hr0 => by
    unfold wX13_is_15 at hr0
    split at hr0
    · exact ⟨_, (qsub_e (qsub_e (qsub_n (qsub_n qsub_nil)))), (lX13_is_15 _ _ _).trans hr0⟩
    · cases hr0) (sX13_is_15 h hm hx (bX13_is_18 h hm hx (bX13_is_41 h hm hx) FU))
noncomputable def tX13_is_14 (j15 : qT (Int32 × qM)) : qT (Int32 × qM) :=
  oC (.int (0 : Int32)) (j15)
noncomputable def wX13_is_14 (k : Nat → qM → Option (Int32 × qM)) : qT (Int32 × qM) := fun lo st m => match lo, st with
  | [some (.ref 98), some (.ref a1), _, _], [] => k a1 m
  | _, _ => none
set_option maxRecDepth 20000 in
theorem sX13_is_14 {C : qCx} {w : qWp} (h : qOk C w RX13 cX13_is 4 4 155 155) (hm : qMt C (some .boolean)) (hx : qNx C) {j15 : qT (Int32 × qM)} (k15 : qSnd C w 4 155 (qQf C w 155 155 jI) qfin 155 29 j15) : qSnd C w 4 155 (qQf C w 155 155 jI) qfin 155 28 (tX13_is_14 j15) :=
  cC (pc := 28) h dX13_is_28 rfl (k15)
set_option maxRecDepth 20000 in
theorem lX13_is_14 (a1 : Nat) (m : qM) : tX13_is_14 (wX13_is_15 fX13_is_15) [some (.ref 98), some (.ref a1), none, none] [] m = fX13_is_14 a1 m := rfl
theorem bX13_is_14 {C : qCx} {w : qWp} (h : qOk C w RX13 cX13_is 4 4 155 155) (hm : qMt C (some .boolean)) (hx : qNx C) : qSnd C w 4 155 (qQf C w 155 155 jI) qfin 155 28 (wX13_is_14 fX13_is_14) :=
  qSnd_of (fun lo st m x hr0 => by
    unfold wX13_is_14 at hr0
    split at hr0
    · exact ⟨_, (qsub_e (qsub_e (qsub_n (qsub_n qsub_nil)))), (lX13_is_14 _ _).trans hr0⟩
    · cases hr0) (sX13_is_14 h hm hx (bX13_is_15 h hm hx))
noncomputable def tX13_is_0 (j14 : qT (Int32 × qM)) (j15 : qT (Int32 × qM)) : qT (Int32 × qM) :=
  oLa 0 (oGi 98 16 (oC (.int (1 : Int32)) (oCEq (oLa 0 (oGi 98 15 (oLa 0 (oGi 98 14 (o2 (· - ·) (oLa 1 (oCi GJ0_length_8abf5 1 (oCEq (oC (.int (1 : Int32)) (j15)) (j14))))))))) (j14))))
set_option maxRecDepth 20000 in
theorem sX13_is_0 {C : qCx} {w : qWp} (h : qOk C w RX13 cX13_is 4 4 155 155) (hm : qMt C (some .boolean)) (hx : qNx C) {j14 : qT (Int32 × qM)} {j15 : qT (Int32 × qM)} (k14 : qSnd C w 4 155 (qQf C w 155 155 jI) qfin 155 28 j14) (k15 : qSnd C w 4 155 (qQf C w 155 155 jI) qfin 155 29 j15) : qSnd C w 4 155 (qQf C w 155 155 jI) qfin 155 0 (tX13_is_0 j14 j15) :=
  cLa (pc := 0) h dX13_is_0 rfl (gGi (pc := 1) h dX13_is_1 ff_X13_31_98 (Nat.le_of_ble_eq_true rfl) (Nat.le_of_ble_eq_true rfl) (cC (pc := 4) h dX13_is_4 rfl (jCNe (pc := 5) h dX13_is_5 rfl (k14) (cLa (pc := 8) h dX13_is_8 rfl (gGi (pc := 9) h dX13_is_9 ff_X13_24_98 (Nat.le_of_ble_eq_true rfl) (Nat.le_of_ble_eq_true rfl) (cLa (pc := 12) h dX13_is_12 rfl (gGi (pc := 13) h dX13_is_13 ff_X13_7_98 (Nat.le_of_ble_eq_true rfl) (Nat.le_of_ble_eq_true rfl) (aSub (pc := 16) h dX13_is_16 (cLa (pc := 17) h dX13_is_17 rfl (kCi (pc := 18) h (kd_X13_44 h dX13_is_18) spJ0_length_8abf5 (by decide) (by decide) (by decide) (by decide) (jCNe (pc := 21) h dX13_is_21 rfl (k14) (cC (pc := 24) h dX13_is_24 rfl (jGo (pc := 25) h dX13_is_25 rfl (k15))))))))))))))
set_option maxRecDepth 20000 in
theorem lX13_is_0 (a1 : Nat) (m : qM) : tX13_is_0 (wX13_is_14 fX13_is_14) (wX13_is_15 fX13_is_15) [some (.ref 98), some (.ref a1), none, none] [] m = fX13_is_0 a1 m := rfl
noncomputable def GX13_is : qG Int32 := fun av m => match av with
  | [.ref 98, .ref a1] => fX13_is a1 m
  | _ => none
theorem spX13_is : qSpI yX13_is (.code yX13_is cX13_is 4 (some .boolean)) 4 qfin 155 155 1 GX13_is := by
  intro av m x m' hG
  unfold GX13_is at hG
  split at hG
  · rename_i a1
    rw [fX13_is_d] at hG
    exact ⟨qmeet (J := jI) (r := (x, m')) (av := [.ref 98, .ref a1]) (by decide +kernel) (Nat.le_of_ble_eq_true rfl) (fun C w h hm hx hn => sX13_is_0 h hm hx (bX13_is_14 h hm hx) (bX13_is_15 h hm hx)) ((lX13_is_0 _ _).trans hG) (Nat.le_of_ble_eq_true rfl), Or.inl ⟨98, _, 13, _, _, rfl, by decide, rfl, qCk_13, rfl⟩⟩
  · cases hG
theorem im_X13_is : Jvm.Cond.instanceMethod yX13_is ∈ qTw := qm8 (List.mem_of_getElem? (i := 23) (by decide +kernel)) (by decide +kernel)
theorem se_X13_is : Jvm.Cond.selects yX13_is.cls yX13_is yX13_is ∈ qTw := List.mem_filter.mpr ⟨List.mem_append_left _ (List.mem_of_getElem? (i := 44) (by decide +kernel)), rfl⟩
theorem co_X13_is : Jvm.Cond.code yX13_is cX13_is 4 (some .boolean) ∈ qTw := qm8 (List.mem_of_getElem? (i := 24) (by decide +kernel)) (by decide +kernel)
theorem yk_X13_is : qYk yX13_is 1 := ⟨⟨by decide +kernel, by decide +kernel⟩, by decide +kernel⟩
theorem ml_X13_54 : Jvm.Cond.methodLink RX13 54 yX13_is ∈ qTw := qm8 (List.mem_of_getElem? (i := 21) (by decide +kernel)) (by decide +kernel)
theorem kd_X13_54 {C : qCx} {w : qWp} {cc : ByteArray} {nL dp n0 n1 pc : Nat} (h : qOk C w RX13 cc nL dp n0 n1) (d : decode cc pc = .ok (.invokevirtual 54, 3)) : qCallOk C w nL dp n0 n1 pc 2 1 yX13_is (.code yX13_is cX13_is 4 (some .boolean)) := kindV h d ml_X13_54 im_X13_is se_X13_is in_ParentEveModel co_X13_is yk_X13_is (by decide)
theorem im_X13_scan : Jvm.Cond.instanceMethod yX13_scan ∈ qTw := qm8 (List.mem_of_getElem? (i := 0) (by decide +kernel)) (by decide +kernel)
theorem se_X13_scan : Jvm.Cond.selects yX13_scan.cls yX13_scan yX13_scan ∈ qTw := List.mem_filter.mpr ⟨List.mem_append_left _ (List.mem_of_getElem? (i := 40) (by decide +kernel)), rfl⟩
theorem co_X13_scan : Jvm.Cond.code yX13_scan cX13_scan 2 none ∈ qTw := qm8 (List.mem_of_getElem? (i := 1) (by decide +kernel)) (by decide +kernel)
theorem yk_X13_scan : qYk yX13_scan 0 := ⟨⟨by decide +kernel, by decide +kernel⟩, by decide +kernel⟩
theorem ml_X13_62 : Jvm.Cond.methodLink RX13 62 yX13_scan ∈ qTw := qm7 (List.mem_of_getElem? (i := 238) (by decide +kernel)) (by decide +kernel)
theorem kd_X13_62 {C : qCx} {w : qWp} {cc : ByteArray} {nL dp n0 n1 pc : Nat} (h : qOk C w RX13 cc nL dp n0 n1) (d : decode cc pc = .ok (.invokevirtual 62, 3)) : qCallOk C w nL dp n0 n1 pc 1 1 yX13_scan (.code yX13_scan cX13_scan 2 none) := kindV h d ml_X13_62 im_X13_scan se_X13_scan in_ParentEveModel co_X13_scan yk_X13_scan (by decide)
theorem im_X13_wrong : Jvm.Cond.instanceMethod yX13_wrong ∈ qTw := qm8 (List.mem_of_getElem? (i := 34) (by decide +kernel)) (by decide +kernel)
theorem se_X13_wrong : Jvm.Cond.selects yX13_wrong.cls yX13_wrong yX13_wrong ∈ qTw := List.mem_filter.mpr ⟨List.mem_append_left _ (List.mem_of_getElem? (i := 45) (by decide +kernel)), rfl⟩
theorem co_X13_wrong : Jvm.Cond.code yX13_wrong cX13_wrong 2 (some (.object "ParentEveModel$Stop")) ∈ qTw := qm8 (List.mem_of_getElem? (i := 35) (by decide +kernel)) (by decide +kernel)
theorem yk_X13_wrong : qYk yX13_wrong 1 := ⟨⟨by decide +kernel, by decide +kernel⟩, by decide +kernel⟩
theorem ml_X13_58 : Jvm.Cond.methodLink RX13 58 yX13_wrong ∈ qTw := qm8 (List.mem_of_getElem? (i := 32) (by decide +kernel)) (by decide +kernel)
theorem kd_X13_58 {C : qCx} {w : qWp} {cc : ByteArray} {nL dp n0 n1 pc : Nat} (h : qOk C w RX13 cc nL dp n0 n1) (d : decode cc pc = .ok (.invokevirtual 58, 3)) : qCallOk C w nL dp n0 n1 pc 2 1 yX13_wrong (.code yX13_wrong cX13_wrong 2 (some (.object "ParentEveModel$Stop"))) := kindV h d ml_X13_58 im_X13_wrong se_X13_wrong in_ParentEveModel co_X13_wrong yk_X13_wrong (by decide)
theorem dX13_need_0 : decode cX13_need 0 = .ok (.aload_n 0, 1) := by decide +kernel
theorem dX13_need_1 : decode cX13_need 1 = .ok (.aload_n 1, 1) := by decide +kernel
theorem dX13_need_2 : decode cX13_need 2 = .ok (.invokevirtual 54, 3) := by decide +kernel
theorem dX13_need_5 : decode cX13_need 5 = .ok (.ifCond .ne 9, 3) := by decide +kernel
theorem dX13_need_8 : decode cX13_need 8 = .ok (.aload_n 0, 1) := by decide +kernel
theorem dX13_need_9 : decode cX13_need 9 = .ok (.iconst 1, 1) := by decide +kernel
theorem dX13_need_10 : decode cX13_need 10 = .ok (.invokevirtual 58, 3) := by decide +kernel
theorem dX13_need_13 : decode cX13_need 13 = .ok (.athrow, 1) := by decide +kernel
theorem dX13_need_14 : decode cX13_need 14 = .ok (.aload_n 0, 1) := by decide +kernel
theorem dX13_need_15 : decode cX13_need 15 = .ok (.invokevirtual 62, 3) := by decide +kernel
theorem dX13_need_18 : decode cX13_need 18 = .ok (.return_, 1) := by decide +kernel
noncomputable def tX13_need_0 : qT (Option Unit × qM) :=
  oLa 0 (oLa 1 (oCi GX13_is 2 (oEq (oLa 0 (oC (.int (1 : Int32)) (oCr GX13_wrong 2 (eTv)))) (oLa 0 (oCv GX13_scan 1 (eVX))))))
set_option maxRecDepth 20000 in
theorem sX13_need_0 {C : qCx} {w : qWp} (h : qOk C w RX13 cX13_need 2 5 155 155) (hm : qMt C none) (hx : qNx C) : qSnd C w 2 155 (qQf C w 155 155 jVX) qfin 155 0 (tX13_need_0) :=
  cLa (pc := 0) h dX13_need_0 rfl (cLa (pc := 1) h dX13_need_1 rfl (kCi (pc := 2) h (kd_X13_54 h dX13_need_2) spX13_is (by decide) (by decide) (by decide) (by decide) (jNe (pc := 5) h dX13_need_5 rfl (cLa (pc := 14) h dX13_need_14 rfl (kCv (pc := 15) h (kd_X13_62 h dX13_need_15) spX13_scan (by decide) (by decide) (by decide) (by decide) (zVX (pc := 18) h hm (Nat.le_refl _) dX13_need_18))) (cLa (pc := 8) h dX13_need_8 rfl (cC (pc := 9) h dX13_need_9 rfl (kCr (pc := 10) h (kd_X13_58 h dX13_need_10) spX13_wrong (by decide) (by decide) (by decide) (by decide) (zT2 (pc := 13) eTv_J h hm hx (Nat.le_refl _) (by decide) (by decide) dX13_need_13)))))))
set_option maxRecDepth 20000 in
theorem lX13_need_0 (a1 : Nat) (m : qM) : tX13_need_0 [some (.ref 98), some (.ref a1)] [] m = fX13_need_0 a1 m := rfl
noncomputable def GX13_need : qG (Option Unit) := fun av m => match av with
  | [.ref 98, .ref a1] => fX13_need a1 m
  | _ => none
theorem spX13_need : qSpVX yX13_need (.code yX13_need cX13_need 2 none) 5 qfin 155 155 1 GX13_need := by
  intro av m x m' hG
  unfold GX13_need at hG
  split at hG
  · rename_i a1
    rw [fX13_need_d] at hG
    exact ⟨qmeet (J := jVX) (r := (x, m')) (av := [.ref 98, .ref a1]) (by decide +kernel) (Nat.le_of_ble_eq_true rfl) (fun C w h hm hx hn => sX13_need_0 h hm hx) ((lX13_need_0 _ _).trans hG) (Nat.le_of_ble_eq_true rfl), Or.inl ⟨98, _, 13, _, _, rfl, by decide, rfl, qCk_13, rfl⟩⟩
  · cases hG
theorem im_X13_in : Jvm.Cond.static yX13_in ∈ qTw := qm7 (List.mem_of_getElem? (i := 220) (by decide +kernel)) (by decide +kernel)
theorem co_X13_in : Jvm.Cond.code yX13_in cX13_in 6 (some .boolean) ∈ qTw := qm7 (List.mem_of_getElem? (i := 221) (by decide +kernel)) (by decide +kernel)
theorem yk_X13_in : qYk yX13_in 3 := ⟨⟨by decide +kernel, by decide +kernel⟩, by decide +kernel⟩
theorem ml_X13_66 : Jvm.Cond.methodLink RX13 66 yX13_in ∈ qTw := qm7 (List.mem_of_getElem? (i := 219) (by decide +kernel)) (by decide +kernel)
theorem kd_X13_66 {C : qCx} {w : qWp} {cc : ByteArray} {nL dp n0 n1 pc : Nat} (h : qOk C w RX13 cc nL dp n0 n1) (d : decode cc pc = .ok (.invokestatic 66, 3)) : qCallOk C w nL dp n0 n1 pc 3 0 yX13_in (.code yX13_in cX13_in 6 (some .boolean)) := kindS h d ml_X13_66 im_X13_in in_ParentEveModel co_X13_in yk_X13_in (by decide)
theorem dX13_number_0 : decode cX13_number 0 = .ok (.aload_n 0, 1) := by decide +kernel
theorem dX13_number_1 : decode cX13_number 1 = .ok (.getfield 31, 3) := by decide +kernel
theorem dX13_number_4 : decode cX13_number 4 = .ok (.iconst 2, 1) := by decide +kernel
theorem dX13_number_5 : decode cX13_number 5 = .ok (.if_icmp .eq 9, 3) := by decide +kernel
theorem dX13_number_8 : decode cX13_number 8 = .ok (.aload_n 0, 1) := by decide +kernel
theorem dX13_number_9 : decode cX13_number 9 = .ok (.iconst 1, 1) := by decide +kernel
theorem dX13_number_10 : decode cX13_number 10 = .ok (.invokevirtual 58, 3) := by decide +kernel
theorem dX13_number_13 : decode cX13_number 13 = .ok (.athrow, 1) := by decide +kernel
theorem dX13_number_14 : decode cX13_number 14 = .ok (.aload_n 0, 1) := by decide +kernel
theorem dX13_number_15 : decode cX13_number 15 = .ok (.getfield 41, 3) := by decide +kernel
theorem dX13_number_18 : decode cX13_number 18 = .ok (.i2l, 1) := by decide +kernel
theorem dX13_number_19 : decode cX13_number 19 = .ok (.iload_n 1, 1) := by decide +kernel
theorem dX13_number_20 : decode cX13_number 20 = .ok (.i2l, 1) := by decide +kernel
theorem dX13_number_21 : decode cX13_number 21 = .ok (.iload_n 2, 1) := by decide +kernel
theorem dX13_number_22 : decode cX13_number 22 = .ok (.i2l, 1) := by decide +kernel
theorem dX13_number_23 : decode cX13_number 23 = .ok (.invokestatic 66, 3) := by decide +kernel
theorem dX13_number_26 : decode cX13_number 26 = .ok (.ifCond .ne 9, 3) := by decide +kernel
theorem dX13_number_29 : decode cX13_number 29 = .ok (.aload_n 0, 1) := by decide +kernel
theorem dX13_number_30 : decode cX13_number 30 = .ok (.iconst 2, 1) := by decide +kernel
theorem dX13_number_31 : decode cX13_number 31 = .ok (.invokevirtual 58, 3) := by decide +kernel
theorem dX13_number_34 : decode cX13_number 34 = .ok (.athrow, 1) := by decide +kernel
theorem dX13_number_35 : decode cX13_number 35 = .ok (.aload_n 0, 1) := by decide +kernel
theorem dX13_number_36 : decode cX13_number 36 = .ok (.getfield 41, 3) := by decide +kernel
theorem dX13_number_39 : decode cX13_number 39 = .ok (.istore_n 3, 1) := by decide +kernel
theorem dX13_number_40 : decode cX13_number 40 = .ok (.aload_n 0, 1) := by decide +kernel
theorem dX13_number_41 : decode cX13_number 41 = .ok (.invokevirtual 62, 3) := by decide +kernel
theorem dX13_number_44 : decode cX13_number 44 = .ok (.iload_n 3, 1) := by decide +kernel
theorem dX13_number_45 : decode cX13_number 45 = .ok (.ireturn, 1) := by decide +kernel
noncomputable def tX13_number_0 : qT (Option Int32 × qM) :=
  oLa 0 (oGi 98 16 (oC (.int (2 : Int32)) (oCEq (oLa 0 (oGi 98 17 (oI2l (oLi 1 (oI2l (oLi 2 (oI2l (oCi GX13_in 3 (oEq (oLa 0 (oC (.int (2 : Int32)) (oCr GX13_wrong 2 (eTi)))) (oLa 0 (oGi 98 17 (oSi 3 (oLa 0 (oCv GX13_scan 1 (oLi 3 (eIX)))))))))))))))) (oLa 0 (oC (.int (1 : Int32)) (oCr GX13_wrong 2 (eTi)))))))
set_option maxRecDepth 20000 in
theorem sX13_number_0 {C : qCx} {w : qWp} (h : qOk C w RX13 cX13_number 4 2 155 155) (hm : qMt C (some .int)) (hx : qNx C) : qSnd C w 4 155 (qQf C w 155 155 jIX) qfin 155 0 (tX13_number_0) :=
  cLa (pc := 0) h dX13_number_0 rfl (gGi (pc := 1) h dX13_number_1 ff_X13_31_98 (Nat.le_of_ble_eq_true rfl) (Nat.le_of_ble_eq_true rfl) (cC (pc := 4) h dX13_number_4 rfl (jCEq (pc := 5) h dX13_number_5 rfl (cLa (pc := 14) h dX13_number_14 rfl (gGi (pc := 15) h dX13_number_15 ff_X13_41_98 (Nat.le_of_ble_eq_true rfl) (Nat.le_of_ble_eq_true rfl) (aI2l (pc := 18) h dX13_number_18 (cLi (pc := 19) h dX13_number_19 rfl (aI2l (pc := 20) h dX13_number_20 (cLi (pc := 21) h dX13_number_21 rfl (aI2l (pc := 22) h dX13_number_22 (kCi (pc := 23) h (kd_X13_66 h dX13_number_23) spX13_in (by decide) (by decide) (by decide) (by decide) (jNe (pc := 26) h dX13_number_26 rfl (cLa (pc := 35) h dX13_number_35 rfl (gGi (pc := 36) h dX13_number_36 ff_X13_41_98 (Nat.le_of_ble_eq_true rfl) (Nat.le_of_ble_eq_true rfl) (cSi (pc := 39) h dX13_number_39 rfl (cLa (pc := 40) h dX13_number_40 rfl (kCv (pc := 41) h (kd_X13_62 h dX13_number_41) spX13_scan (by decide) (by decide) (by decide) (by decide) (cLi (pc := 44) h dX13_number_44 rfl (zIX (pc := 45) h hm (Nat.le_refl _) dX13_number_45))))))) (cLa (pc := 29) h dX13_number_29 rfl (cC (pc := 30) h dX13_number_30 rfl (kCr (pc := 31) h (kd_X13_58 h dX13_number_31) spX13_wrong (by decide) (by decide) (by decide) (by decide) (zT2 (pc := 34) eTi_J h hm hx (Nat.le_refl _) (by decide) (by decide) dX13_number_34))))))))))))) (cLa (pc := 8) h dX13_number_8 rfl (cC (pc := 9) h dX13_number_9 rfl (kCr (pc := 10) h (kd_X13_58 h dX13_number_10) spX13_wrong (by decide) (by decide) (by decide) (by decide) (zT2 (pc := 13) eTi_J h hm hx (Nat.le_refl _) (by decide) (by decide) dX13_number_13)))))))
set_option maxRecDepth 20000 in
theorem lX13_number_0 (a1 : Int32) (a2 : Int32) (m : qM) : tX13_number_0 [some (.ref 98), some (.int a1), some (.int a2), none] [] m = fX13_number_0 a1 a2 m := rfl
noncomputable def GX13_number : qG (Option Int32) := fun av m => match av with
  | [.ref 98, .int a1, .int a2] => fX13_number a1 a2 m
  | _ => none
theorem spX13_number : qSpIX yX13_number (.code yX13_number cX13_number 4 (some .int)) 2 qfin 155 155 1 GX13_number := by
  intro av m x m' hG
  unfold GX13_number at hG
  split at hG
  · rename_i a1 a2
    rw [fX13_number_d] at hG
    exact ⟨qmeet (J := jIX) (r := (x, m')) (av := [.ref 98, .int a1, .int a2]) (by decide +kernel) (Nat.le_of_ble_eq_true rfl) (fun C w h hm hx hn => sX13_number_0 h hm hx) ((lX13_number_0 _ _ _).trans hG) (Nat.le_of_ble_eq_true rfl), Or.inl ⟨98, _, 13, _, _, rfl, by decide, rfl, qCk_13, rfl⟩⟩
  · cases hG
theorem dX13_close_0 : decode cX13_close 0 = .ok (.aload_n 0, 1) := by decide +kernel
theorem dX13_close_1 : decode cX13_close 1 = .ok (.getfield 31, 3) := by decide +kernel
theorem dX13_close_4 : decode cX13_close 4 = .ok (.iconst 3, 1) := by decide +kernel
theorem dX13_close_5 : decode cX13_close 5 = .ok (.if_icmp .eq 9, 3) := by decide +kernel
theorem dX13_close_8 : decode cX13_close 8 = .ok (.aload_n 0, 1) := by decide +kernel
theorem dX13_close_9 : decode cX13_close 9 = .ok (.iconst 1, 1) := by decide +kernel
theorem dX13_close_10 : decode cX13_close 10 = .ok (.invokevirtual 58, 3) := by decide +kernel
theorem dX13_close_13 : decode cX13_close 13 = .ok (.athrow, 1) := by decide +kernel
theorem dX13_close_14 : decode cX13_close 14 = .ok (.aload_n 0, 1) := by decide +kernel
theorem dX13_close_15 : decode cX13_close 15 = .ok (.invokevirtual 62, 3) := by decide +kernel
theorem dX13_close_18 : decode cX13_close 18 = .ok (.return_, 1) := by decide +kernel
noncomputable def tX13_close_0 : qT (Option Unit × qM) :=
  oLa 0 (oGi 98 16 (oC (.int (3 : Int32)) (oCEq (oLa 0 (oCv GX13_scan 1 (eVX))) (oLa 0 (oC (.int (1 : Int32)) (oCr GX13_wrong 2 (eTv)))))))
set_option maxRecDepth 20000 in
theorem sX13_close_0 {C : qCx} {w : qWp} (h : qOk C w RX13 cX13_close 1 2 155 155) (hm : qMt C none) (hx : qNx C) : qSnd C w 1 155 (qQf C w 155 155 jVX) qfin 155 0 (tX13_close_0) :=
  cLa (pc := 0) h dX13_close_0 rfl (gGi (pc := 1) h dX13_close_1 ff_X13_31_98 (Nat.le_of_ble_eq_true rfl) (Nat.le_of_ble_eq_true rfl) (cC (pc := 4) h dX13_close_4 rfl (jCEq (pc := 5) h dX13_close_5 rfl (cLa (pc := 14) h dX13_close_14 rfl (kCv (pc := 15) h (kd_X13_62 h dX13_close_15) spX13_scan (by decide) (by decide) (by decide) (by decide) (zVX (pc := 18) h hm (Nat.le_refl _) dX13_close_18))) (cLa (pc := 8) h dX13_close_8 rfl (cC (pc := 9) h dX13_close_9 rfl (kCr (pc := 10) h (kd_X13_58 h dX13_close_10) spX13_wrong (by decide) (by decide) (by decide) (by decide) (zT2 (pc := 13) eTv_J h hm hx (Nat.le_refl _) (by decide) (by decide) dX13_close_13)))))))
set_option maxRecDepth 20000 in
theorem lX13_close_0 (m : qM) : tX13_close_0 [some (.ref 98)] [] m = fX13_close_0 m := rfl
noncomputable def GX13_close : qG (Option Unit) := fun av m => match av with
  | [.ref 98] => fX13_close m
  | _ => none
theorem spX13_close : qSpVX yX13_close (.code yX13_close cX13_close 1 none) 2 qfin 155 155 1 GX13_close := by
  intro av m x m' hG
  unfold GX13_close at hG
  split at hG
  · rw [fX13_close_d] at hG
    exact ⟨qmeet (J := jVX) (r := (x, m')) (av := [.ref 98]) (by decide +kernel) (Nat.le_of_ble_eq_true rfl) (fun C w h hm hx hn => sX13_close_0 h hm hx) ((lX13_close_0 _).trans hG) (Nat.le_of_ble_eq_true rfl), Or.inl ⟨98, _, 13, _, _, rfl, by decide, rfl, qCk_13, rfl⟩⟩
  · cases hG
theorem mf_X13_70 : Jvm.Cond.fieldLink RX13 70 (qTb 13 12).1 (qTb 13 12).2.1 (qTb 13 12).2.2.1 ∈ qTw := qm6 (List.mem_of_getElem? (i := 230) (by decide +kernel)) (by decide +kernel)
theorem ff_X13_70_98 : qFd RX13 70 98 13 12 0 := ⟨mf_X13_70, rfl, by decide, rfl⟩
theorem dX13_open_0 : decode cX13_open 0 = .ok (.aload_n 0, 1) := by decide +kernel
theorem dX13_open_1 : decode cX13_open 1 = .ok (.aload_n 0, 1) := by decide +kernel
theorem dX13_open_2 : decode cX13_open 2 = .ok (.getfield 70, 3) := by decide +kernel
theorem dX13_open_5 : decode cX13_open 5 = .ok (.putfield 17, 3) := by decide +kernel
theorem dX13_open_8 : decode cX13_open 8 = .ok (.aload_n 0, 1) := by decide +kernel
theorem dX13_open_9 : decode cX13_open 9 = .ok (.iconst 0, 1) := by decide +kernel
theorem dX13_open_10 : decode cX13_open 10 = .ok (.putfield 70, 3) := by decide +kernel
theorem dX13_open_13 : decode cX13_open 13 = .ok (.aload_n 0, 1) := by decide +kernel
theorem dX13_open_14 : decode cX13_open 14 = .ok (.iconst 0, 1) := by decide +kernel
theorem dX13_open_15 : decode cX13_open 15 = .ok (.putfield 24, 3) := by decide +kernel
theorem dX13_open_18 : decode cX13_open 18 = .ok (.return_, 1) := by decide +kernel
noncomputable def tX13_open_0 : qT (Unit × qM) :=
  oLa 0 (oLa 0 (oGi 98 12 (oPi 98 13 (oLa 0 (oC (.int (0 : Int32)) (oPi 98 12 (oLa 0 (oC (.int (0 : Int32)) (oPi 98 15 (eV))))))))))
set_option maxRecDepth 20000 in
theorem sX13_open_0 {C : qCx} {w : qWp} (h : qOk C w RX13 cX13_open 1 0 155 155) (hm : qMt C none) (hx : qNx C) : qSnd C w 1 155 (qQf C w 155 155 jV) qfin 155 0 (tX13_open_0) :=
  cLa (pc := 0) h dX13_open_0 rfl (cLa (pc := 1) h dX13_open_1 rfl (gGi (pc := 2) h dX13_open_2 ff_X13_70_98 (Nat.le_of_ble_eq_true rfl) (Nat.le_of_ble_eq_true rfl) (gPi (pc := 5) h dX13_open_5 ff_X13_17_98 (Or.inl rfl) (Nat.le_of_ble_eq_true rfl) (Nat.le_of_ble_eq_true rfl) (cLa (pc := 8) h dX13_open_8 rfl (cC (pc := 9) h dX13_open_9 rfl (gPi (pc := 10) h dX13_open_10 ff_X13_70_98 (Or.inl rfl) (Nat.le_of_ble_eq_true rfl) (Nat.le_of_ble_eq_true rfl) (cLa (pc := 13) h dX13_open_13 rfl (cC (pc := 14) h dX13_open_14 rfl (gPi (pc := 15) h dX13_open_15 ff_X13_24_98 (Or.inl rfl) (Nat.le_of_ble_eq_true rfl) (Nat.le_of_ble_eq_true rfl) (zV (pc := 18) h hm (Nat.le_refl _) dX13_open_18))))))))))
set_option maxRecDepth 20000 in
theorem lX13_open_0 (m : qM) : tX13_open_0 [some (.ref 98)] [] m = fX13_open_0 m := rfl
noncomputable def GX13_open : qG Unit := fun av m => match av with
  | [.ref 98] => fX13_open m
  | _ => none
theorem spX13_open : qSpV yX13_open (.code yX13_open cX13_open 1 none) 0 qfin 155 155 1 GX13_open := by
  intro av m m' hG
  unfold GX13_open at hG
  split at hG
  · rw [fX13_open_d] at hG
    exact ⟨qmeet (J := jV) (r := ((), m')) (av := [.ref 98]) (by decide +kernel) (Nat.le_of_ble_eq_true rfl) (fun C w h hm hx hn => sX13_open_0 h hm hx) ((lX13_open_0 _).trans hG) (Nat.le_of_ble_eq_true rfl), Or.inl ⟨98, _, 13, _, _, rfl, by decide, rfl, qCk_13, rfl⟩⟩
  · cases hG
theorem fs_X13_73 : (RX13, 73, "slot", 10106) ∈ qStr := by decide +kernel
theorem fs_X13_75 : (RX13, 75, "floor", 10107) ∈ qStr := by decide +kernel
theorem fs_X13_77 : (RX13, 77, "door", 10108) ∈ qStr := by decide +kernel
theorem fs_X13_79 : (RX13, 79, "late", 10109) ∈ qStr := by decide +kernel
theorem fs_X13_81 : (RX13, 81, "rest", 10110) ∈ qStr := by decide +kernel
theorem fs_X13_83 : (RX13, 83, "apart", 10111) ∈ qStr := by decide +kernel
theorem dX13_key_0 : decode cX13_key 0 = .ok (.aload_n 0, 1) := by decide +kernel
theorem dX13_key_1 : decode cX13_key 1 = .ok (.ldc 73, 2) := by decide +kernel
theorem dX13_key_3 : decode cX13_key 3 = .ok (.invokevirtual 54, 3) := by decide +kernel
theorem dX13_key_6 : decode cX13_key 6 = .ok (.ifCond .eq 5, 3) := by decide +kernel
theorem dX13_key_9 : decode cX13_key 9 = .ok (.iconst 0, 1) := by decide +kernel
theorem dX13_key_10 : decode cX13_key 10 = .ok (.ireturn, 1) := by decide +kernel
theorem dX13_key_11 : decode cX13_key 11 = .ok (.aload_n 0, 1) := by decide +kernel
theorem dX13_key_12 : decode cX13_key 12 = .ok (.ldc 75, 2) := by decide +kernel
theorem dX13_key_14 : decode cX13_key 14 = .ok (.invokevirtual 54, 3) := by decide +kernel
theorem dX13_key_17 : decode cX13_key 17 = .ok (.ifCond .eq 5, 3) := by decide +kernel
theorem dX13_key_20 : decode cX13_key 20 = .ok (.iconst 1, 1) := by decide +kernel
theorem dX13_key_21 : decode cX13_key 21 = .ok (.ireturn, 1) := by decide +kernel
theorem dX13_key_22 : decode cX13_key 22 = .ok (.aload_n 0, 1) := by decide +kernel
theorem dX13_key_23 : decode cX13_key 23 = .ok (.ldc 77, 2) := by decide +kernel
theorem dX13_key_25 : decode cX13_key 25 = .ok (.invokevirtual 54, 3) := by decide +kernel
theorem dX13_key_28 : decode cX13_key 28 = .ok (.ifCond .eq 5, 3) := by decide +kernel
theorem dX13_key_31 : decode cX13_key 31 = .ok (.iconst 2, 1) := by decide +kernel
theorem dX13_key_32 : decode cX13_key 32 = .ok (.ireturn, 1) := by decide +kernel
theorem dX13_key_33 : decode cX13_key 33 = .ok (.aload_n 0, 1) := by decide +kernel
theorem dX13_key_34 : decode cX13_key 34 = .ok (.ldc 79, 2) := by decide +kernel
theorem dX13_key_36 : decode cX13_key 36 = .ok (.invokevirtual 54, 3) := by decide +kernel
theorem dX13_key_39 : decode cX13_key 39 = .ok (.ifCond .eq 5, 3) := by decide +kernel
theorem dX13_key_42 : decode cX13_key 42 = .ok (.iconst 3, 1) := by decide +kernel
theorem dX13_key_43 : decode cX13_key 43 = .ok (.ireturn, 1) := by decide +kernel
theorem dX13_key_44 : decode cX13_key 44 = .ok (.aload_n 0, 1) := by decide +kernel
theorem dX13_key_45 : decode cX13_key 45 = .ok (.ldc 81, 2) := by decide +kernel
theorem dX13_key_47 : decode cX13_key 47 = .ok (.invokevirtual 54, 3) := by decide +kernel
theorem dX13_key_50 : decode cX13_key 50 = .ok (.ifCond .eq 5, 3) := by decide +kernel
theorem dX13_key_53 : decode cX13_key 53 = .ok (.iconst 4, 1) := by decide +kernel
theorem dX13_key_54 : decode cX13_key 54 = .ok (.ireturn, 1) := by decide +kernel
theorem dX13_key_55 : decode cX13_key 55 = .ok (.aload_n 0, 1) := by decide +kernel
theorem dX13_key_56 : decode cX13_key 56 = .ok (.ldc 83, 2) := by decide +kernel
theorem dX13_key_58 : decode cX13_key 58 = .ok (.invokevirtual 54, 3) := by decide +kernel
theorem dX13_key_61 : decode cX13_key 61 = .ok (.ifCond .eq 7, 3) := by decide +kernel
theorem dX13_key_64 : decode cX13_key 64 = .ok (.iconst 5, 1) := by decide +kernel
theorem dX13_key_65 : decode cX13_key 65 = .ok (.goto 4, 3) := by decide +kernel
theorem dX13_key_68 : decode cX13_key 68 = .ok (.iconst (-1), 1) := by decide +kernel
theorem dX13_key_69 : decode cX13_key 69 = .ok (.ireturn, 1) := by decide +kernel
noncomputable def tX13_key_37 : qT (Int32 × qM) :=
  eI
noncomputable def wX13_key_37 (k : Int32 → qM → Option (Int32 × qM)) : qT (Int32 × qM) := fun lo st m => match lo, st with
  | [_], [.int s0] => k s0 m
  | _, _ => none
set_option maxRecDepth 20000 in
theorem sX13_key_37 {C : qCx} {w : qWp} (h : qOk C w RX13 cX13_key 1 5 155 155) (hm : qMt C (some .int)) (hx : qNx C) : qSnd C w 1 155 (qQf C w 155 155 jI) qfin 155 69 (tX13_key_37) :=
  zI (pc := 69) h hm (Nat.le_refl _) dX13_key_69
set_option maxRecDepth 20000 in
theorem lX13_key_37 (s0 : Int32) (m : qM) : tX13_key_37 [none] [(.int s0)] m = fX13_key_37 s0 m := rfl
theorem bX13_key_37 {C : qCx} {w : qWp} (h : qOk C w RX13 cX13_key 1 5 155 155) (hm : qMt C (some .int)) (hx : qNx C) : qSnd C w 1 155 (qQf C w 155 155 jI) qfin 155 69 (wX13_key_37 fX13_key_37) :=
  qSnd_of (fun lo st m x hr0 => by
    unfold wX13_key_37 at hr0
    split at hr0
    · exact ⟨_, (qsub_n qsub_nil), (lX13_key_37 _ _).trans hr0⟩
    · cases hr0) (sX13_key_37 h hm hx)
noncomputable def tX13_key_0 (j37 : qT (Int32 × qM)) : qT (Int32 × qM) :=
  oLa 0 (oC (.ref 10106) (oCi GX13_is 2 (oEq (oLa 0 (oC (.ref 10107) (oCi GX13_is 2 (oEq (oLa 0 (oC (.ref 10108) (oCi GX13_is 2 (oEq (oLa 0 (oC (.ref 10109) (oCi GX13_is 2 (oEq (oLa 0 (oC (.ref 10110) (oCi GX13_is 2 (oEq (oLa 0 (oC (.ref 10111) (oCi GX13_is 2 (oEq (oC (.int (-1 : Int32)) (j37)) (oC (.int (5 : Int32)) (j37)))))) (oC (.int (4 : Int32)) (eI)))))) (oC (.int (3 : Int32)) (eI)))))) (oC (.int (2 : Int32)) (eI)))))) (oC (.int (1 : Int32)) (eI)))))) (oC (.int (0 : Int32)) (eI)))))
set_option maxRecDepth 20000 in
theorem sX13_key_0 {C : qCx} {w : qWp} (h : qOk C w RX13 cX13_key 1 5 155 155) (hm : qMt C (some .int)) (hx : qNx C) {j37 : qT (Int32 × qM)} (k37 : qSnd C w 1 155 (qQf C w 155 155 jI) qfin 155 69 j37) : qSnd C w 1 155 (qQf C w 155 155 jI) qfin 155 0 (tX13_key_0 j37) :=
  cLa (pc := 0) h dX13_key_0 rfl (cStr (pc := 1) h dX13_key_1 fs_X13_73 (kCi (pc := 3) h (kd_X13_54 h dX13_key_3) spX13_is (by decide) (by decide) (by decide) (by decide) (jEq (pc := 6) h dX13_key_6 rfl (cLa (pc := 11) h dX13_key_11 rfl (cStr (pc := 12) h dX13_key_12 fs_X13_75 (kCi (pc := 14) h (kd_X13_54 h dX13_key_14) spX13_is (by decide) (by decide) (by decide) (by decide) (jEq (pc := 17) h dX13_key_17 rfl (cLa (pc := 22) h dX13_key_22 rfl (cStr (pc := 23) h dX13_key_23 fs_X13_77 (kCi (pc := 25) h (kd_X13_54 h dX13_key_25) spX13_is (by decide) (by decide) (by decide) (by decide) (jEq (pc := 28) h dX13_key_28 rfl (cLa (pc := 33) h dX13_key_33 rfl (cStr (pc := 34) h dX13_key_34 fs_X13_79 (kCi (pc := 36) h (kd_X13_54 h dX13_key_36) spX13_is (by decide) (by decide) (by decide) (by decide) (jEq (pc := 39) h dX13_key_39 rfl (cLa (pc := 44) h dX13_key_44 rfl (cStr (pc := 45) h dX13_key_45 fs_X13_81 (kCi (pc := 47) h (kd_X13_54 h dX13_key_47) spX13_is (by decide) (by decide) (by decide) (by decide) (jEq (pc := 50) h dX13_key_50 rfl (cLa (pc := 55) h dX13_key_55 rfl (cStr (pc := 56) h dX13_key_56 fs_X13_83 (kCi (pc := 58) h (kd_X13_54 h dX13_key_58) spX13_is (by decide) (by decide) (by decide) (by decide) (jEq (pc := 61) h dX13_key_61 rfl (cC (pc := 68) h dX13_key_68 rfl (k37)) (cC (pc := 64) h dX13_key_64 rfl (jGo (pc := 65) h dX13_key_65 rfl (k37))))))) (cC (pc := 53) h dX13_key_53 rfl (zI (pc := 54) h hm (Nat.le_refl _) dX13_key_54)))))) (cC (pc := 42) h dX13_key_42 rfl (zI (pc := 43) h hm (Nat.le_refl _) dX13_key_43)))))) (cC (pc := 31) h dX13_key_31 rfl (zI (pc := 32) h hm (Nat.le_refl _) dX13_key_32)))))) (cC (pc := 20) h dX13_key_20 rfl (zI (pc := 21) h hm (Nat.le_refl _) dX13_key_21)))))) (cC (pc := 9) h dX13_key_9 rfl (zI (pc := 10) h hm (Nat.le_refl _) dX13_key_10)))))
set_option maxRecDepth 20000 in
theorem lX13_key_0 (m : qM) : tX13_key_0 (wX13_key_37 fX13_key_37) [some (.ref 98)] [] m = fX13_key_0 m := rfl
noncomputable def GX13_key : qG Int32 := fun av m => match av with
  | [.ref 98] => fX13_key m
  | _ => none
theorem spX13_key : qSpI yX13_key (.code yX13_key cX13_key 1 (some .int)) 5 qfin 155 155 1 GX13_key := by
  intro av m x m' hG
  unfold GX13_key at hG
  split at hG
  · rw [fX13_key_d] at hG
    exact ⟨qmeet (J := jI) (r := (x, m')) (av := [.ref 98]) (by decide +kernel) (Nat.le_of_ble_eq_true rfl) (fun C w h hm hx hn => sX13_key_0 h hm hx (bX13_key_37 h hm hx)) ((lX13_key_0 _).trans hG) (Nat.le_of_ble_eq_true rfl), Or.inl ⟨98, _, 13, _, _, rfl, by decide, rfl, qCk_13, rfl⟩⟩
  · cases hG
theorem dX13_most_0 : decode cX13_most 0 = .ok (.iload_n 0, 1) := by decide +kernel
theorem dX13_most_1 : decode cX13_most 1 = .ok (.ifCond .ne 8, 3) := by decide +kernel
theorem dX13_most_4 : decode cX13_most 4 = .ok (.bipush 30, 2) := by decide +kernel
theorem dX13_most_6 : decode cX13_most 6 = .ok (.goto 30, 3) := by decide +kernel
theorem dX13_most_9 : decode cX13_most 9 = .ok (.iload_n 0, 1) := by decide +kernel
theorem dX13_most_10 : decode cX13_most 10 = .ok (.iconst 1, 1) := by decide +kernel
theorem dX13_most_11 : decode cX13_most 11 = .ok (.if_icmp .eq 8, 3) := by decide +kernel
theorem dX13_most_14 : decode cX13_most 14 = .ok (.iload_n 0, 1) := by decide +kernel
theorem dX13_most_15 : decode cX13_most 15 = .ok (.iconst 2, 1) := by decide +kernel
theorem dX13_most_16 : decode cX13_most 16 = .ok (.if_icmp .ne 8, 3) := by decide +kernel
theorem dX13_most_19 : decode cX13_most 19 = .ok (.bipush 20, 2) := by decide +kernel
theorem dX13_most_21 : decode cX13_most 21 = .ok (.goto 15, 3) := by decide +kernel
theorem dX13_most_24 : decode cX13_most 24 = .ok (.iload_n 0, 1) := by decide +kernel
theorem dX13_most_25 : decode cX13_most 25 = .ok (.iconst 3, 1) := by decide +kernel
theorem dX13_most_26 : decode cX13_most 26 = .ok (.if_icmp .ne 8, 3) := by decide +kernel
theorem dX13_most_29 : decode cX13_most 29 = .ok (.bipush 99, 2) := by decide +kernel
theorem dX13_most_31 : decode cX13_most 31 = .ok (.goto 5, 3) := by decide +kernel
theorem dX13_most_34 : decode cX13_most 34 = .ok (.bipush 9, 2) := by decide +kernel
theorem dX13_most_36 : decode cX13_most 36 = .ok (.ireturn, 1) := by decide +kernel
noncomputable def tX13_most_18 : qT (Int32 × qM) :=
  eI
noncomputable def wX13_most_18 (k : Int32 → qM → Option (Int32 × qM)) : qT (Int32 × qM) := fun lo st m => match lo, st with
  | [_], [.int s0] => k s0 m
  | _, _ => none
set_option maxRecDepth 20000 in
theorem sX13_most_18 {C : qCx} {w : qWp} (h : qOk C w RX13 cX13_most 1 0 155 155) (hm : qMt C (some .int)) (hx : qNx C) : qSnd C w 1 155 (qQf C w 155 155 jI) qfin 155 36 (tX13_most_18) :=
  zI (pc := 36) h hm (Nat.le_refl _) dX13_most_36
set_option maxRecDepth 20000 in
theorem lX13_most_18 (s0 : Int32) (m : qM) : tX13_most_18 [none] [(.int s0)] m = fX13_most_18 s0 m := rfl
theorem bX13_most_18 {C : qCx} {w : qWp} (h : qOk C w RX13 cX13_most 1 0 155 155) (hm : qMt C (some .int)) (hx : qNx C) : qSnd C w 1 155 (qQf C w 155 155 jI) qfin 155 36 (wX13_most_18 fX13_most_18) :=
  qSnd_of (fun lo st m x hr0 => by
    unfold wX13_most_18 at hr0
    split at hr0
    · exact ⟨_, (qsub_n qsub_nil), (lX13_most_18 _ _).trans hr0⟩
    · cases hr0) (sX13_most_18 h hm hx)
noncomputable def tX13_most_10 (j18 : qT (Int32 × qM)) : qT (Int32 × qM) :=
  oC (.int (20 : Int32)) (j18)
noncomputable def wX13_most_10 (k : qM → Option (Int32 × qM)) : qT (Int32 × qM) := fun lo st m => match lo, st with
  | [_], [] => k m
  | _, _ => none
set_option maxRecDepth 20000 in
theorem sX13_most_10 {C : qCx} {w : qWp} (h : qOk C w RX13 cX13_most 1 0 155 155) (hm : qMt C (some .int)) (hx : qNx C) {j18 : qT (Int32 × qM)} (k18 : qSnd C w 1 155 (qQf C w 155 155 jI) qfin 155 36 j18) : qSnd C w 1 155 (qQf C w 155 155 jI) qfin 155 19 (tX13_most_10 j18) :=
  cB (pc := 19) h dX13_most_19 rfl (jGo (pc := 21) h dX13_most_21 rfl (k18))
set_option maxRecDepth 20000 in
theorem lX13_most_10 (m : qM) : tX13_most_10 (wX13_most_18 fX13_most_18) [none] [] m = fX13_most_10 m := rfl
theorem bX13_most_10 {C : qCx} {w : qWp} (h : qOk C w RX13 cX13_most 1 0 155 155) (hm : qMt C (some .int)) (hx : qNx C) : qSnd C w 1 155 (qQf C w 155 155 jI) qfin 155 19 (wX13_most_10 fX13_most_10) :=
  qSnd_of (fun lo st m x hr0 => by
    unfold wX13_most_10 at hr0
    split at hr0
    · exact ⟨_, (qsub_n qsub_nil), (lX13_most_10 _).trans hr0⟩
    · cases hr0) (sX13_most_10 h hm hx (bX13_most_18 h hm hx))
noncomputable def tX13_most_0 (j10 : qT (Int32 × qM)) (j18 : qT (Int32 × qM)) : qT (Int32 × qM) :=
  oLi 0 (oEq (oC (.int (30 : Int32)) (j18)) (oLi 0 (oC (.int (1 : Int32)) (oCEq (j10) (oLi 0 (oC (.int (2 : Int32)) (oCEq (j10) (oLi 0 (oC (.int (3 : Int32)) (oCEq (oC (.int (99 : Int32)) (j18)) (oC (.int (9 : Int32)) (j18))))))))))))
set_option maxRecDepth 20000 in
theorem sX13_most_0 {C : qCx} {w : qWp} (h : qOk C w RX13 cX13_most 1 0 155 155) (hm : qMt C (some .int)) (hx : qNx C) {j10 : qT (Int32 × qM)} {j18 : qT (Int32 × qM)} (k10 : qSnd C w 1 155 (qQf C w 155 155 jI) qfin 155 19 j10) (k18 : qSnd C w 1 155 (qQf C w 155 155 jI) qfin 155 36 j18) : qSnd C w 1 155 (qQf C w 155 155 jI) qfin 155 0 (tX13_most_0 j10 j18) :=
  cLi (pc := 0) h dX13_most_0 rfl (jNe (pc := 1) h dX13_most_1 rfl (cLi (pc := 9) h dX13_most_9 rfl (cC (pc := 10) h dX13_most_10 rfl (jCEq (pc := 11) h dX13_most_11 rfl (k10) (cLi (pc := 14) h dX13_most_14 rfl (cC (pc := 15) h dX13_most_15 rfl (jCNe (pc := 16) h dX13_most_16 rfl (cLi (pc := 24) h dX13_most_24 rfl (cC (pc := 25) h dX13_most_25 rfl (jCNe (pc := 26) h dX13_most_26 rfl (cB (pc := 34) h dX13_most_34 rfl (k18)) (cB (pc := 29) h dX13_most_29 rfl (jGo (pc := 31) h dX13_most_31 rfl (k18)))))) (k10))))))) (cB (pc := 4) h dX13_most_4 rfl (jGo (pc := 6) h dX13_most_6 rfl (k18))))
set_option maxRecDepth 20000 in
theorem lX13_most_0 (a0 : Int32) (m : qM) : tX13_most_0 (wX13_most_10 fX13_most_10) (wX13_most_18 fX13_most_18) [some (.int a0)] [] m = fX13_most_0 a0 m := rfl
noncomputable def GX13_most : qG Int32 := fun av m => match av with
  | [.int a0] => fX13_most a0 m
  | _ => none
theorem spX13_most : qSpI yX13_most (.code yX13_most cX13_most 1 (some .int)) 0 qfin 155 155 0 GX13_most := by
  intro av m x m' hG
  unfold GX13_most at hG
  split at hG
  · rename_i a0
    rw [fX13_most_d] at hG
    exact ⟨qmeet (J := jI) (r := (x, m')) (av := [.int a0]) (by decide +kernel) (Nat.le_of_ble_eq_true rfl) (fun C w h hm hx hn => sX13_most_0 h hm hx (bX13_most_10 h hm hx) (bX13_most_18 h hm hx)) ((lX13_most_0 _ _).trans hG) (Nat.le_of_ble_eq_true rfl), trivial⟩
  · cases hG
theorem mf_X13_85 : Jvm.Cond.fieldLink RX13 85 (qTb 13 1).1 (qTb 13 1).2.1 (qTb 13 1).2.2.1 ∈ qTw := qm6 (List.mem_of_getElem? (i := 219) (by decide +kernel)) (by decide +kernel)
theorem ff_X13_85_98 : qFd RX13 85 98 13 1 3 := ⟨mf_X13_85, rfl, by decide, rfl⟩
theorem mf_X13_89 : Jvm.Cond.fieldLink RX13 89 (qTb 13 20).1 (qTb 13 20).2.1 (qTb 13 20).2.2.1 ∈ qTw := qm6 (List.mem_of_getElem? (i := 238) (by decide +kernel)) (by decide +kernel)
theorem ff_X13_89_98 : qFd RX13 89 98 13 20 3 := ⟨mf_X13_89, rfl, by decide, rfl⟩
theorem im_X13_key : Jvm.Cond.instanceMethod yX13_key ∈ qTw := qm8 (List.mem_of_getElem? (i := 18) (by decide +kernel)) (by decide +kernel)
theorem se_X13_key : Jvm.Cond.selects yX13_key.cls yX13_key yX13_key ∈ qTw := List.mem_filter.mpr ⟨List.mem_append_left _ (List.mem_of_getElem? (i := 43) (by decide +kernel)), rfl⟩
theorem co_X13_key : Jvm.Cond.code yX13_key cX13_key 1 (some .int) ∈ qTw := qm8 (List.mem_of_getElem? (i := 19) (by decide +kernel)) (by decide +kernel)
theorem yk_X13_key : qYk yX13_key 0 := ⟨⟨by decide +kernel, by decide +kernel⟩, by decide +kernel⟩
theorem ml_X13_93 : Jvm.Cond.methodLink RX13 93 yX13_key ∈ qTw := qm8 (List.mem_of_getElem? (i := 16) (by decide +kernel)) (by decide +kernel)
theorem kd_X13_93 {C : qCx} {w : qWp} {cc : ByteArray} {nL dp n0 n1 pc : Nat} (h : qOk C w RX13 cc nL dp n0 n1) (d : decode cc pc = .ok (.invokevirtual 93, 3)) : qCallOk C w nL dp n0 n1 pc 1 1 yX13_key (.code yX13_key cX13_key 1 (some .int)) := kindV h d ml_X13_93 im_X13_key se_X13_key in_ParentEveModel co_X13_key yk_X13_key (by decide)
theorem im_X13_most : Jvm.Cond.static yX13_most ∈ qTw := qm8 (List.mem_of_getElem? (i := 37) (by decide +kernel)) (by decide +kernel)
theorem co_X13_most : Jvm.Cond.code yX13_most cX13_most 1 (some .int) ∈ qTw := qm8 (List.mem_of_getElem? (i := 38) (by decide +kernel)) (by decide +kernel)
theorem yk_X13_most : qYk yX13_most 1 := ⟨⟨by decide +kernel, by decide +kernel⟩, by decide +kernel⟩
theorem ml_X13_96 : Jvm.Cond.methodLink RX13 96 yX13_most ∈ qTw := qm8 (List.mem_of_getElem? (i := 36) (by decide +kernel)) (by decide +kernel)
theorem kd_X13_96 {C : qCx} {w : qWp} {cc : ByteArray} {nL dp n0 n1 pc : Nat} (h : qOk C w RX13 cc nL dp n0 n1) (d : decode cc pc = .ok (.invokestatic 96, 3)) : qCallOk C w nL dp n0 n1 pc 1 0 yX13_most (.code yX13_most cX13_most 1 (some .int)) := kindS h d ml_X13_96 im_X13_most in_ParentEveModel co_X13_most yk_X13_most (by decide)
theorem im_X13_number : Jvm.Cond.instanceMethod yX13_number ∈ qTw := qm8 (List.mem_of_getElem? (i := 41) (by decide +kernel)) (by decide +kernel)
theorem se_X13_number : Jvm.Cond.selects yX13_number.cls yX13_number yX13_number ∈ qTw := List.mem_filter.mpr ⟨List.mem_append_left _ (List.mem_of_getElem? (i := 46) (by decide +kernel)), rfl⟩
theorem co_X13_number : Jvm.Cond.code yX13_number cX13_number 4 (some .int) ∈ qTw := qm8 (List.mem_of_getElem? (i := 42) (by decide +kernel)) (by decide +kernel)
theorem yk_X13_number : qYk yX13_number 2 := ⟨⟨by decide +kernel, by decide +kernel⟩, by decide +kernel⟩
theorem ml_X13_99 : Jvm.Cond.methodLink RX13 99 yX13_number ∈ qTw := qm8 (List.mem_of_getElem? (i := 39) (by decide +kernel)) (by decide +kernel)
theorem kd_X13_99 {C : qCx} {w : qWp} {cc : ByteArray} {nL dp n0 n1 pc : Nat} (h : qOk C w RX13 cc nL dp n0 n1) (d : decode cc pc = .ok (.invokevirtual 99, 3)) : qCallOk C w nL dp n0 n1 pc 3 1 yX13_number (.code yX13_number cX13_number 4 (some .int)) := kindV h d ml_X13_99 im_X13_number se_X13_number in_ParentEveModel co_X13_number yk_X13_number (by decide)
theorem im_X13_close : Jvm.Cond.instanceMethod yX13_close ∈ qTw := qm8 (List.mem_of_getElem? (i := 45) (by decide +kernel)) (by decide +kernel)
theorem se_X13_close : Jvm.Cond.selects yX13_close.cls yX13_close yX13_close ∈ qTw := List.mem_filter.mpr ⟨List.mem_append_left _ (List.mem_of_getElem? (i := 47) (by decide +kernel)), rfl⟩
theorem co_X13_close : Jvm.Cond.code yX13_close cX13_close 1 none ∈ qTw := qm8 (List.mem_of_getElem? (i := 46) (by decide +kernel)) (by decide +kernel)
theorem yk_X13_close : qYk yX13_close 0 := ⟨⟨by decide +kernel, by decide +kernel⟩, by decide +kernel⟩
theorem ml_X13_103 : Jvm.Cond.methodLink RX13 103 yX13_close ∈ qTw := qm8 (List.mem_of_getElem? (i := 43) (by decide +kernel)) (by decide +kernel)
theorem kd_X13_103 {C : qCx} {w : qWp} {cc : ByteArray} {nL dp n0 n1 pc : Nat} (h : qOk C w RX13 cc nL dp n0 n1) (d : decode cc pc = .ok (.invokevirtual 103, 3)) : qCallOk C w nL dp n0 n1 pc 1 1 yX13_close (.code yX13_close cX13_close 1 none) := kindV h d ml_X13_103 im_X13_close se_X13_close in_ParentEveModel co_X13_close yk_X13_close (by decide)
theorem dX13_readRules_0 : decode cX13_readRules 0 = .ok (.aload_n 0, 1) := by decide +kernel
theorem dX13_readRules_1 : decode cX13_readRules 1 = .ok (.getfield 85, 3) := by decide +kernel
theorem dX13_readRules_4 : decode cX13_readRules 4 = .ok (.iconst 0, 1) := by decide +kernel
theorem dX13_readRules_5 : decode cX13_readRules 5 = .ok (.bipush 10, 2) := by decide +kernel
theorem dX13_readRules_7 : decode cX13_readRules 7 = .ok (.iastore, 1) := by decide +kernel
theorem dX13_readRules_8 : decode cX13_readRules 8 = .ok (.aload_n 0, 1) := by decide +kernel
theorem dX13_readRules_9 : decode cX13_readRules 9 = .ok (.getfield 85, 3) := by decide +kernel
theorem dX13_readRules_12 : decode cX13_readRules 12 = .ok (.iconst 1, 1) := by decide +kernel
theorem dX13_readRules_13 : decode cX13_readRules 13 = .ok (.iconst 2, 1) := by decide +kernel
theorem dX13_readRules_14 : decode cX13_readRules 14 = .ok (.iastore, 1) := by decide +kernel
theorem dX13_readRules_15 : decode cX13_readRules 15 = .ok (.aload_n 0, 1) := by decide +kernel
theorem dX13_readRules_16 : decode cX13_readRules 16 = .ok (.getfield 85, 3) := by decide +kernel
theorem dX13_readRules_19 : decode cX13_readRules 19 = .ok (.iconst 2, 1) := by decide +kernel
theorem dX13_readRules_20 : decode cX13_readRules 20 = .ok (.iconst 1, 1) := by decide +kernel
theorem dX13_readRules_21 : decode cX13_readRules 21 = .ok (.iastore, 1) := by decide +kernel
theorem dX13_readRules_22 : decode cX13_readRules 22 = .ok (.aload_n 0, 1) := by decide +kernel
theorem dX13_readRules_23 : decode cX13_readRules 23 = .ok (.getfield 85, 3) := by decide +kernel
theorem dX13_readRules_26 : decode cX13_readRules 26 = .ok (.iconst 3, 1) := by decide +kernel
theorem dX13_readRules_27 : decode cX13_readRules 27 = .ok (.bipush 15, 2) := by decide +kernel
theorem dX13_readRules_29 : decode cX13_readRules 29 = .ok (.iastore, 1) := by decide +kernel
theorem dX13_readRules_30 : decode cX13_readRules 30 = .ok (.aload_n 0, 1) := by decide +kernel
theorem dX13_readRules_31 : decode cX13_readRules 31 = .ok (.getfield 85, 3) := by decide +kernel
theorem dX13_readRules_34 : decode cX13_readRules 34 = .ok (.iconst 4, 1) := by decide +kernel
theorem dX13_readRules_35 : decode cX13_readRules 35 = .ok (.iconst 0, 1) := by decide +kernel
theorem dX13_readRules_36 : decode cX13_readRules 36 = .ok (.iastore, 1) := by decide +kernel
theorem dX13_readRules_37 : decode cX13_readRules 37 = .ok (.aload_n 0, 1) := by decide +kernel
theorem dX13_readRules_38 : decode cX13_readRules 38 = .ok (.getfield 85, 3) := by decide +kernel
theorem dX13_readRules_41 : decode cX13_readRules 41 = .ok (.iconst 5, 1) := by decide +kernel
theorem dX13_readRules_42 : decode cX13_readRules 42 = .ok (.iconst 0, 1) := by decide +kernel
theorem dX13_readRules_43 : decode cX13_readRules 43 = .ok (.iastore, 1) := by decide +kernel
theorem dX13_readRules_44 : decode cX13_readRules 44 = .ok (.iconst 0, 1) := by decide +kernel
theorem dX13_readRules_45 : decode cX13_readRules 45 = .ok (.istore_n 1, 1) := by decide +kernel
theorem dX13_readRules_46 : decode cX13_readRules 46 = .ok (.iload_n 1, 1) := by decide +kernel
theorem dX13_readRules_47 : decode cX13_readRules 47 = .ok (.bipush 6, 2) := by decide +kernel
theorem dX13_readRules_49 : decode cX13_readRules 49 = .ok (.if_icmp .ge 16, 3) := by decide +kernel
theorem dX13_readRules_52 : decode cX13_readRules 52 = .ok (.aload_n 0, 1) := by decide +kernel
theorem dX13_readRules_53 : decode cX13_readRules 53 = .ok (.getfield 89, 3) := by decide +kernel
theorem dX13_readRules_56 : decode cX13_readRules 56 = .ok (.iload_n 1, 1) := by decide +kernel
theorem dX13_readRules_57 : decode cX13_readRules 57 = .ok (.iconst 0, 1) := by decide +kernel
theorem dX13_readRules_58 : decode cX13_readRules 58 = .ok (.bastore, 1) := by decide +kernel
theorem dX13_readRules_59 : decode cX13_readRules 59 = .ok (.iinc 1 1, 3) := by decide +kernel
theorem dX13_readRules_62 : decode cX13_readRules 62 = .ok (.goto (-16), 3) := by decide +kernel
theorem dX13_readRules_65 : decode cX13_readRules 65 = .ok (.iconst 0, 1) := by decide +kernel
theorem dX13_readRules_66 : decode cX13_readRules 66 = .ok (.istore_n 1, 1) := by decide +kernel
theorem dX13_readRules_67 : decode cX13_readRules 67 = .ok (.aload_n 0, 1) := by decide +kernel
theorem dX13_readRules_68 : decode cX13_readRules 68 = .ok (.getfield 31, 3) := by decide +kernel
theorem dX13_readRules_71 : decode cX13_readRules 71 = .ok (.ifCond .eq 78, 3) := by decide +kernel
theorem dX13_readRules_74 : decode cX13_readRules 74 = .ok (.aload_n 0, 1) := by decide +kernel
theorem dX13_readRules_75 : decode cX13_readRules 75 = .ok (.invokevirtual 93, 3) := by decide +kernel
theorem dX13_readRules_78 : decode cX13_readRules 78 = .ok (.istore_n 2, 1) := by decide +kernel
theorem dX13_readRules_79 : decode cX13_readRules 79 = .ok (.iload_n 2, 1) := by decide +kernel
theorem dX13_readRules_80 : decode cX13_readRules 80 = .ok (.iconst (-1), 1) := by decide +kernel
theorem dX13_readRules_81 : decode cX13_readRules 81 = .ok (.if_icmp .ne 9, 3) := by decide +kernel
theorem dX13_readRules_84 : decode cX13_readRules 84 = .ok (.aload_n 0, 1) := by decide +kernel
theorem dX13_readRules_85 : decode cX13_readRules 85 = .ok (.iconst 1, 1) := by decide +kernel
theorem dX13_readRules_86 : decode cX13_readRules 86 = .ok (.invokevirtual 58, 3) := by decide +kernel
theorem dX13_readRules_89 : decode cX13_readRules 89 = .ok (.athrow, 1) := by decide +kernel
theorem dX13_readRules_90 : decode cX13_readRules 90 = .ok (.aload_n 0, 1) := by decide +kernel
theorem dX13_readRules_91 : decode cX13_readRules 91 = .ok (.getfield 89, 3) := by decide +kernel
theorem dX13_readRules_94 : decode cX13_readRules 94 = .ok (.iload_n 2, 1) := by decide +kernel
theorem dX13_readRules_95 : decode cX13_readRules 95 = .ok (.baload, 1) := by decide +kernel
theorem dX13_readRules_96 : decode cX13_readRules 96 = .ok (.ifCond .eq 9, 3) := by decide +kernel
theorem dX13_readRules_99 : decode cX13_readRules 99 = .ok (.aload_n 0, 1) := by decide +kernel
theorem dX13_readRules_100 : decode cX13_readRules 100 = .ok (.iconst 3, 1) := by decide +kernel
theorem dX13_readRules_101 : decode cX13_readRules 101 = .ok (.invokevirtual 58, 3) := by decide +kernel
theorem dX13_readRules_104 : decode cX13_readRules 104 = .ok (.athrow, 1) := by decide +kernel
theorem dX13_readRules_105 : decode cX13_readRules 105 = .ok (.aload_n 0, 1) := by decide +kernel
theorem dX13_readRules_106 : decode cX13_readRules 106 = .ok (.getfield 89, 3) := by decide +kernel
theorem dX13_readRules_109 : decode cX13_readRules 109 = .ok (.iload_n 2, 1) := by decide +kernel
theorem dX13_readRules_110 : decode cX13_readRules 110 = .ok (.iconst 1, 1) := by decide +kernel
theorem dX13_readRules_111 : decode cX13_readRules 111 = .ok (.bastore, 1) := by decide +kernel
theorem dX13_readRules_112 : decode cX13_readRules 112 = .ok (.aload_n 0, 1) := by decide +kernel
theorem dX13_readRules_113 : decode cX13_readRules 113 = .ok (.invokevirtual 62, 3) := by decide +kernel
theorem dX13_readRules_116 : decode cX13_readRules 116 = .ok (.aload_n 0, 1) := by decide +kernel
theorem dX13_readRules_117 : decode cX13_readRules 117 = .ok (.getfield 85, 3) := by decide +kernel
theorem dX13_readRules_120 : decode cX13_readRules 120 = .ok (.iload_n 2, 1) := by decide +kernel
theorem dX13_readRules_121 : decode cX13_readRules 121 = .ok (.aload_n 0, 1) := by decide +kernel
theorem dX13_readRules_122 : decode cX13_readRules 122 = .ok (.iload_n 2, 1) := by decide +kernel
theorem dX13_readRules_123 : decode cX13_readRules 123 = .ok (.ifCond .ne 7, 3) := by decide +kernel
theorem dX13_readRules_126 : decode cX13_readRules 126 = .ok (.iconst 1, 1) := by decide +kernel
theorem dX13_readRules_127 : decode cX13_readRules 127 = .ok (.goto 4, 3) := by decide +kernel
theorem dX13_readRules_130 : decode cX13_readRules 130 = .ok (.iconst 0, 1) := by decide +kernel
theorem dX13_readRules_131 : decode cX13_readRules 131 = .ok (.iload_n 2, 1) := by decide +kernel
theorem dX13_readRules_132 : decode cX13_readRules 132 = .ok (.invokestatic 96, 3) := by decide +kernel
theorem dX13_readRules_135 : decode cX13_readRules 135 = .ok (.invokevirtual 99, 3) := by decide +kernel
theorem dX13_readRules_138 : decode cX13_readRules 138 = .ok (.iastore, 1) := by decide +kernel
theorem dX13_readRules_139 : decode cX13_readRules 139 = .ok (.aload_n 0, 1) := by decide +kernel
theorem dX13_readRules_140 : decode cX13_readRules 140 = .ok (.invokevirtual 103, 3) := by decide +kernel
theorem dX13_readRules_143 : decode cX13_readRules 143 = .ok (.iinc 1 1, 3) := by decide +kernel
theorem dX13_readRules_146 : decode cX13_readRules 146 = .ok (.goto (-79), 3) := by decide +kernel
theorem dX13_readRules_149 : decode cX13_readRules 149 = .ok (.iload_n 1, 1) := by decide +kernel
theorem dX13_readRules_150 : decode cX13_readRules 150 = .ok (.ireturn, 1) := by decide +kernel
noncomputable def tX13_readRules_32 (j44 : qT (Option Int32 × qM)) (j32 : qT (Option Int32 × qM)) : qT (Option Int32 × qM) :=
  oLi 1 (oC (.int (6 : Int32)) (oCGe (oC (.int (0 : Int32)) (oSi 1 (j44))) (oLa 0 (oGf 98 20 111 (oLi 1 (oC (.int (0 : Int32)) (oWz 111 6 (oInc 1 (1 : Int32) (j32)))))))))
noncomputable def wX13_readRules_32 (k : Int32 → qM → Option (Option Int32 × qM)) : qT (Option Int32 × qM) := fun lo st m => match lo, st with
  | [some (.ref 98), some (.int a1), _], [] => k a1 m
  | _, _ => none
noncomputable def wX13_readRules_44 (k : Int32 → qM → Option (Option Int32 × qM)) : qT (Option Int32 × qM) := fun lo st m => match lo, st with
  | [some (.ref 98), some (.int a1), _], [] => k a1 m
  | _, _ => none
set_option maxRecDepth 20000 in
theorem sX13_readRules_32 {C : qCx} {w : qWp} (h : qOk C w RX13 cX13_readRules 3 6 155 155) (hm : qMt C (some .int)) (hx : qNx C) {j44 : qT (Option Int32 × qM)} {j32 : qT (Option Int32 × qM)} (k44 : qSnd C w 3 155 (qQf C w 155 155 jIX) qfin 155 67 j44) (k32 : qSnd C w 3 155 (qQf C w 155 155 jIX) qfin 155 46 j32) : qSnd C w 3 155 (qQf C w 155 155 jIX) qfin 155 46 (tX13_readRules_32 j44 j32) :=
  cLi (pc := 46) h dX13_readRules_46 rfl (cB (pc := 47) h dX13_readRules_47 rfl (jCGe (pc := 49) h dX13_readRules_49 rfl (cC (pc := 65) h dX13_readRules_65 rfl (cSi (pc := 66) h dX13_readRules_66 rfl (k44))) (cLa (pc := 52) h dX13_readRules_52 rfl (gGf (pc := 53) h dX13_readRules_53 ff_X13_89_98 (Nat.le_of_ble_eq_true rfl) (Nat.le_of_ble_eq_true rfl) rfl (cLi (pc := 56) h dX13_readRules_56 rfl (cC (pc := 57) h dX13_readRules_57 rfl (rWz (pc := 58) h dX13_readRules_58 rfl (Nat.le_of_ble_eq_true rfl) (Nat.le_of_ble_eq_true rfl) (cInc (pc := 59) h dX13_readRules_59 rfl (jGo (pc := 62) h dX13_readRules_62 rfl (k32))))))))))
set_option maxRecDepth 20000 in
theorem lX13_readRules_32 (k44 : Int32 → qM → Option (Option Int32 × qM)) (n : Nat) (a1 : Int32) (m : qM) : tX13_readRules_32 (wX13_readRules_44 k44) (wX13_readRules_32 ((fX13_readRules_32 k44 n))) [some (.ref 98), some (.int a1), none] [] m = fX13_readRules_32 k44 (n + 1) a1 m := rfl
theorem bX13_readRules_32 {C : qCx} {w : qWp} (h : qOk C w RX13 cX13_readRules 3 6 155 155) (hm : qMt C (some .int)) (hx : qNx C) {k44 : Int32 → qM → Option (Option Int32 × qM)} (h44 : qSnd C w 3 155 (qQf C w 155 155 jIX) qfin 155 67 (wX13_readRules_44 k44)) : ∀ n : Nat, qSnd C w 3 155 (qQf C w 155 155 jIX) qfin 155 46 (wX13_readRules_32 (fX13_readRules_32 k44 n))
  | 0 => qSnd_of0 (fun lo st m x hr0 => by
    unfold wX13_readRules_32 at hr0
    split at hr0
    · cases hr0
    · cases hr0)
  | n + 1 => by
    have ih := bX13_readRules_32 h hm hx h44 n
    exact qSnd_of (fun lo st m x hr0 => by
    unfold wX13_readRules_32 at hr0
    split at hr0
    · exact ⟨_, (qsub_e (qsub_e (qsub_n qsub_nil))), (lX13_readRules_32 _ n _ _).trans hr0⟩
    · cases hr0) (sX13_readRules_32 h hm hx h44 ih)
noncomputable def tX13_readRules_82 (j44 : qT (Option Int32 × qM)) : qT (Option Int32 × qM) :=
  oLi 2 (oCi GX13_most 1 (oCiX GX13_number 3 (oWi 100 6 (oLa 0 (oCvX GX13_close 1 (oInc 1 (1 : Int32) (j44)) eXi))) eXi))
noncomputable def wX13_readRules_82 (k : Int32 → Int32 → Int32 → Int32 → qM → Option (Option Int32 × qM)) : qT (Option Int32 × qM) := fun lo st m => match lo, st with
  | [some (.ref 98), some (.int a1), some (.int a2)], [.int s0, .ref 98, .int s2, .ref 100] => k a1 a2 s0 s2 m
  | _, _ => none
set_option maxRecDepth 20000 in
theorem sX13_readRules_82 {C : qCx} {w : qWp} (h : qOk C w RX13 cX13_readRules 3 6 155 155) (hm : qMt C (some .int)) (hx : qNx C) {j44 : qT (Option Int32 × qM)} (k44 : qSnd C w 3 155 (qQf C w 155 155 jIX) qfin 155 67 j44) : qSnd C w 3 155 (qQf C w 155 155 jIX) qfin 155 131 (tX13_readRules_82 j44) :=
  cLi (pc := 131) h dX13_readRules_131 rfl (kCi (pc := 132) h (kd_X13_96 h dX13_readRules_132) spX13_most (by decide) (by decide) (by decide) (by decide) (kCiX (pc := 135) h (kd_X13_99 h dX13_readRules_135) spX13_number (by decide) (by decide) (by decide) (by decide) (rWi (pc := 138) h dX13_readRules_138 rfl (Nat.le_of_ble_eq_true rfl) (Nat.le_of_ble_eq_true rfl) (cLa (pc := 139) h dX13_readRules_139 rfl (kCvX (pc := 140) h (kd_X13_103 h dX13_readRules_140) spX13_close (by decide) (by decide) (by decide) (by decide) (cInc (pc := 143) h dX13_readRules_143 rfl (jGo (pc := 146) h dX13_readRules_146 rfl (k44))) (zX2 (pc := 140) eXi_J h hm hx (Nat.le_refl _))))) (zX2 (pc := 135) eXi_J h hm hx (Nat.le_refl _))))
set_option maxRecDepth 20000 in
theorem lX13_readRules_82 (k44 : Int32 → qM → Option (Option Int32 × qM)) (a1 : Int32) (a2 : Int32) (s0 : Int32) (s2 : Int32) (m : qM) : tX13_readRules_82 (wX13_readRules_44 k44) [some (.ref 98), some (.int a1), some (.int a2)] [(.int s0), (.ref 98), (.int s2), (.ref 100)] m = fX13_readRules_82 k44 a1 a2 s0 s2 m := rfl
theorem bX13_readRules_82 {C : qCx} {w : qWp} (h : qOk C w RX13 cX13_readRules 3 6 155 155) (hm : qMt C (some .int)) (hx : qNx C) {k44 : Int32 → qM → Option (Option Int32 × qM)} (h44 : qSnd C w 3 155 (qQf C w 155 155 jIX) qfin 155 67 (wX13_readRules_44 k44)) : qSnd C w 3 155 (qQf C w 155 155 jIX) qfin 155 131 (wX13_readRules_82 (fX13_readRules_82 k44)) :=
  qSnd_of (fun lo st m x hr0 => by
    unfold wX13_readRules_82 at hr0
    split at hr0
    · exact ⟨_, (qsub_e (qsub_e (qsub_e qsub_nil))), (lX13_readRules_82 _ _ _ _ _ _).trans hr0⟩
    · cases hr0) (sX13_readRules_82 h hm hx h44)
noncomputable def tX13_readRules_44 (j82 : qT (Option Int32 × qM)) : qT (Option Int32 × qM) :=
  oLa 0 (oGi 98 16 (oEq (oLi 1 (eIX)) (oLa 0 (oCi GX13_key 1 (oSi 2 (oLi 2 (oC (.int (-1 : Int32)) (oCEq (oLa 0 (oC (.int (1 : Int32)) (oCr GX13_wrong 2 (eTi)))) (oLa 0 (oGf 98 20 111 (oLi 2 (oAi 111 6 (oEq (oLa 0 (oGf 98 20 111 (oLi 2 (oC (.int (1 : Int32)) (oWz 111 6 (oLa 0 (oCv GX13_scan 1 (oLa 0 (oGf 98 1 100 (oLi 2 (oLa 0 (oLi 2 (oEq (oC (.int (1 : Int32)) (j82)) (oC (.int (0 : Int32)) (j82))))))))))))))) (oLa 0 (oC (.int (3 : Int32)) (oCr GX13_wrong 2 (eTi)))))))))))))))))
set_option maxRecDepth 20000 in
theorem sX13_readRules_44 {C : qCx} {w : qWp} (h : qOk C w RX13 cX13_readRules 3 6 155 155) (hm : qMt C (some .int)) (hx : qNx C) {j82 : qT (Option Int32 × qM)} (k82 : qSnd C w 3 155 (qQf C w 155 155 jIX) qfin 155 131 j82) : qSnd C w 3 155 (qQf C w 155 155 jIX) qfin 155 67 (tX13_readRules_44 j82) :=
  cLa (pc := 67) h dX13_readRules_67 rfl (gGi (pc := 68) h dX13_readRules_68 ff_X13_31_98 (Nat.le_of_ble_eq_true rfl) (Nat.le_of_ble_eq_true rfl) (jEq (pc := 71) h dX13_readRules_71 rfl (cLi (pc := 149) h dX13_readRules_149 rfl (zIX (pc := 150) h hm (Nat.le_refl _) dX13_readRules_150)) (cLa (pc := 74) h dX13_readRules_74 rfl (kCi (pc := 75) h (kd_X13_93 h dX13_readRules_75) spX13_key (by decide) (by decide) (by decide) (by decide) (cSi (pc := 78) h dX13_readRules_78 rfl (cLi (pc := 79) h dX13_readRules_79 rfl (cC (pc := 80) h dX13_readRules_80 rfl (jCNe (pc := 81) h dX13_readRules_81 rfl (cLa (pc := 90) h dX13_readRules_90 rfl (gGf (pc := 91) h dX13_readRules_91 ff_X13_89_98 (Nat.le_of_ble_eq_true rfl) (Nat.le_of_ble_eq_true rfl) rfl (cLi (pc := 94) h dX13_readRules_94 rfl (rAz (pc := 95) h dX13_readRules_95 rfl (Nat.le_of_ble_eq_true rfl) (Nat.le_of_ble_eq_true rfl) (jEq (pc := 96) h dX13_readRules_96 rfl (cLa (pc := 105) h dX13_readRules_105 rfl (gGf (pc := 106) h dX13_readRules_106 ff_X13_89_98 (Nat.le_of_ble_eq_true rfl) (Nat.le_of_ble_eq_true rfl) rfl (cLi (pc := 109) h dX13_readRules_109 rfl (cC (pc := 110) h dX13_readRules_110 rfl (rWz (pc := 111) h dX13_readRules_111 rfl (Nat.le_of_ble_eq_true rfl) (Nat.le_of_ble_eq_true rfl) (cLa (pc := 112) h dX13_readRules_112 rfl (kCv (pc := 113) h (kd_X13_62 h dX13_readRules_113) spX13_scan (by decide) (by decide) (by decide) (by decide) (cLa (pc := 116) h dX13_readRules_116 rfl (gGf (pc := 117) h dX13_readRules_117 ff_X13_85_98 (Nat.le_of_ble_eq_true rfl) (Nat.le_of_ble_eq_true rfl) rfl (cLi (pc := 120) h dX13_readRules_120 rfl (cLa (pc := 121) h dX13_readRules_121 rfl (cLi (pc := 122) h dX13_readRules_122 rfl (jNe (pc := 123) h dX13_readRules_123 rfl (cC (pc := 130) h dX13_readRules_130 rfl (k82)) (cC (pc := 126) h dX13_readRules_126 rfl (jGo (pc := 127) h dX13_readRules_127 rfl (k82)))))))))))))))) (cLa (pc := 99) h dX13_readRules_99 rfl (cC (pc := 100) h dX13_readRules_100 rfl (kCr (pc := 101) h (kd_X13_58 h dX13_readRules_101) spX13_wrong (by decide) (by decide) (by decide) (by decide) (zT2 (pc := 104) eTi_J h hm hx (Nat.le_refl _) (by decide) (by decide) dX13_readRules_104))))))))) (cLa (pc := 84) h dX13_readRules_84 rfl (cC (pc := 85) h dX13_readRules_85 rfl (kCr (pc := 86) h (kd_X13_58 h dX13_readRules_86) spX13_wrong (by decide) (by decide) (by decide) (by decide) (zT2 (pc := 89) eTi_J h hm hx (Nat.le_refl _) (by decide) (by decide) dX13_readRules_89))))))))))))
set_option maxRecDepth 20000 in
theorem lX13_readRules_44 (n : Nat) (a1 : Int32) (m : qM) : tX13_readRules_44 (wX13_readRules_82 (fX13_readRules_82 (fX13_readRules_44 n))) [some (.ref 98), some (.int a1), none] [] m = fX13_readRules_44 (n + 1) a1 m := rfl
theorem bX13_readRules_44 {C : qCx} {w : qWp} (h : qOk C w RX13 cX13_readRules 3 6 155 155) (hm : qMt C (some .int)) (hx : qNx C) : ∀ n : Nat, qSnd C w 3 155 (qQf C w 155 155 jIX) qfin 155 67 (wX13_readRules_44 (fX13_readRules_44 n))
  | 0 => qSnd_of0 (fun lo st m x hr0 => by
    unfold wX13_readRules_44 at hr0
    split at hr0
    · cases hr0
    · cases hr0)
  | n + 1 => by
    have ih := bX13_readRules_44 h hm hx n
    exact qSnd_of (fun lo st m x hr0 => by
    unfold wX13_readRules_44 at hr0
    split at hr0
    · exact ⟨_, (qsub_e (qsub_e (qsub_n qsub_nil))), (lX13_readRules_44 n _ _).trans hr0⟩
    · cases hr0) (sX13_readRules_44 h hm hx (bX13_readRules_82 h hm hx ih))
noncomputable def tX13_readRules_0 (j32 : qT (Option Int32 × qM)) : qT (Option Int32 × qM) :=
  oLa 0 (oGf 98 1 100 (oC (.int (0 : Int32)) (oC (.int (10 : Int32)) (oWi 100 6 (oLa 0 (oGf 98 1 100 (oC (.int (1 : Int32)) (oC (.int (2 : Int32)) (oWi 100 6 (oLa 0 (oGf 98 1 100 (oC (.int (2 : Int32)) (oC (.int (1 : Int32)) (oWi 100 6 (oLa 0 (oGf 98 1 100 (oC (.int (3 : Int32)) (oC (.int (15 : Int32)) (oWi 100 6 (oLa 0 (oGf 98 1 100 (oC (.int (4 : Int32)) (oC (.int (0 : Int32)) (oWi 100 6 (oLa 0 (oGf 98 1 100 (oC (.int (5 : Int32)) (oC (.int (0 : Int32)) (oWi 100 6 (oC (.int (0 : Int32)) (oSi 1 (j32))))))))))))))))))))))))))))))))
set_option maxRecDepth 20000 in
theorem sX13_readRules_0 {C : qCx} {w : qWp} (h : qOk C w RX13 cX13_readRules 3 6 155 155) (hm : qMt C (some .int)) (hx : qNx C) {j32 : qT (Option Int32 × qM)} (k32 : qSnd C w 3 155 (qQf C w 155 155 jIX) qfin 155 46 j32) : qSnd C w 3 155 (qQf C w 155 155 jIX) qfin 155 0 (tX13_readRules_0 j32) :=
  cLa (pc := 0) h dX13_readRules_0 rfl (gGf (pc := 1) h dX13_readRules_1 ff_X13_85_98 (Nat.le_of_ble_eq_true rfl) (Nat.le_of_ble_eq_true rfl) rfl (cC (pc := 4) h dX13_readRules_4 rfl (cB (pc := 5) h dX13_readRules_5 rfl (rWi (pc := 7) h dX13_readRules_7 rfl (Nat.le_of_ble_eq_true rfl) (Nat.le_of_ble_eq_true rfl) (cLa (pc := 8) h dX13_readRules_8 rfl (gGf (pc := 9) h dX13_readRules_9 ff_X13_85_98 (Nat.le_of_ble_eq_true rfl) (Nat.le_of_ble_eq_true rfl) rfl (cC (pc := 12) h dX13_readRules_12 rfl (cC (pc := 13) h dX13_readRules_13 rfl (rWi (pc := 14) h dX13_readRules_14 rfl (Nat.le_of_ble_eq_true rfl) (Nat.le_of_ble_eq_true rfl) (cLa (pc := 15) h dX13_readRules_15 rfl (gGf (pc := 16) h dX13_readRules_16 ff_X13_85_98 (Nat.le_of_ble_eq_true rfl) (Nat.le_of_ble_eq_true rfl) rfl (cC (pc := 19) h dX13_readRules_19 rfl (cC (pc := 20) h dX13_readRules_20 rfl (rWi (pc := 21) h dX13_readRules_21 rfl (Nat.le_of_ble_eq_true rfl) (Nat.le_of_ble_eq_true rfl) (cLa (pc := 22) h dX13_readRules_22 rfl (gGf (pc := 23) h dX13_readRules_23 ff_X13_85_98 (Nat.le_of_ble_eq_true rfl) (Nat.le_of_ble_eq_true rfl) rfl (cC (pc := 26) h dX13_readRules_26 rfl (cB (pc := 27) h dX13_readRules_27 rfl (rWi (pc := 29) h dX13_readRules_29 rfl (Nat.le_of_ble_eq_true rfl) (Nat.le_of_ble_eq_true rfl) (cLa (pc := 30) h dX13_readRules_30 rfl (gGf (pc := 31) h dX13_readRules_31 ff_X13_85_98 (Nat.le_of_ble_eq_true rfl) (Nat.le_of_ble_eq_true rfl) rfl (cC (pc := 34) h dX13_readRules_34 rfl (cC (pc := 35) h dX13_readRules_35 rfl (rWi (pc := 36) h dX13_readRules_36 rfl (Nat.le_of_ble_eq_true rfl) (Nat.le_of_ble_eq_true rfl) (cLa (pc := 37) h dX13_readRules_37 rfl (gGf (pc := 38) h dX13_readRules_38 ff_X13_85_98 (Nat.le_of_ble_eq_true rfl) (Nat.le_of_ble_eq_true rfl) rfl (cC (pc := 41) h dX13_readRules_41 rfl (cC (pc := 42) h dX13_readRules_42 rfl (rWi (pc := 43) h dX13_readRules_43 rfl (Nat.le_of_ble_eq_true rfl) (Nat.le_of_ble_eq_true rfl) (cC (pc := 44) h dX13_readRules_44 rfl (cSi (pc := 45) h dX13_readRules_45 rfl (k32))))))))))))))))))))))))))))))))
set_option maxRecDepth 20000 in
theorem lX13_readRules_0 (m : qM) : tX13_readRules_0 (wX13_readRules_32 (fX13_readRules_32 (fX13_readRules_44 FU) FU)) [some (.ref 98), none, none] [] m = fX13_readRules_0 m := rfl
noncomputable def GX13_readRules : qG (Option Int32) := fun av m => match av with
  | [.ref 98] => fX13_readRules m
  | _ => none
theorem spX13_readRules : qSpIX yX13_readRules (.code yX13_readRules cX13_readRules 3 (some .int)) 6 qfin 155 155 1 GX13_readRules := by
  intro av m x m' hG
  unfold GX13_readRules at hG
  split at hG
  · rw [fX13_readRules_d] at hG
    exact ⟨qmeet (J := jIX) (r := (x, m')) (av := [.ref 98]) (by decide +kernel) (Nat.le_of_ble_eq_true rfl) (fun C w h hm hx hn => sX13_readRules_0 h hm hx (bX13_readRules_32 h hm hx (bX13_readRules_44 h hm hx FU) FU)) ((lX13_readRules_0 _).trans hG) (Nat.le_of_ble_eq_true rfl), Or.inl ⟨98, _, 13, _, _, rfl, by decide, rfl, qCk_13, rfl⟩⟩
  · cases hG
theorem fs_X13_129 : (RX13, 129, "waiting", 10112) ∈ qStr := by decide +kernel
theorem fs_X13_131 : (RX13, 131, "left", 10113) ∈ qStr := by decide +kernel
theorem fs_X13_133 : (RX13, 133, "must", 10114) ∈ qStr := by decide +kernel
theorem fs_X13_135 : (RX13, 135, "here", 10115) ∈ qStr := by decide +kernel
theorem fs_X13_137 : (RX13, 137, "above", 10116) ∈ qStr := by decide +kernel
theorem fs_X13_139 : (RX13, 139, "below", 10117) ∈ qStr := by decide +kernel
theorem fs_X13_141 : (RX13, 141, "is", 10118) ∈ qStr := by decide +kernel
theorem mf_X13_111 : Jvm.Cond.fieldLink RX13 111 (qTb 13 5).1 (qTb 13 5).2.1 (qTb 13 5).2.2.1 ∈ qTw := qm6 (List.mem_of_getElem? (i := 223) (by decide +kernel)) (by decide +kernel)
theorem ff_X13_111_98 : qFd RX13 111 98 13 5 3 := ⟨mf_X13_111, rfl, by decide, rfl⟩
theorem mf_X13_142 : Jvm.Cond.fieldLink RX13 142 (qTb 13 6).1 (qTb 13 6).2.1 (qTb 13 6).2.2.1 ∈ qTw := qm6 (List.mem_of_getElem? (i := 224) (by decide +kernel)) (by decide +kernel)
theorem ff_X13_142_98 : qFd RX13 142 98 13 6 3 := ⟨mf_X13_142, rfl, by decide, rfl⟩
theorem mf_X13_145 : Jvm.Cond.fieldLink RX13 145 (qTb 13 7).1 (qTb 13 7).2.1 (qTb 13 7).2.2.1 ∈ qTw := qm6 (List.mem_of_getElem? (i := 225) (by decide +kernel)) (by decide +kernel)
theorem ff_X13_145_98 : qFd RX13 145 98 13 7 3 := ⟨mf_X13_145, rfl, by decide, rfl⟩
theorem mf_X13_148 : Jvm.Cond.fieldLink RX13 148 (qTb 13 8).1 (qTb 13 8).2.1 (qTb 13 8).2.2.1 ∈ qTw := qm6 (List.mem_of_getElem? (i := 226) (by decide +kernel)) (by decide +kernel)
theorem ff_X13_148_98 : qFd RX13 148 98 13 8 3 := ⟨mf_X13_148, rfl, by decide, rfl⟩
theorem dX13_readCond_0 : decode cX13_readCond 0 = .ok (.aload_n 0, 1) := by decide +kernel
theorem dX13_readCond_1 : decode cX13_readCond 1 = .ok (.ldc 79, 2) := by decide +kernel
theorem dX13_readCond_3 : decode cX13_readCond 3 = .ok (.invokevirtual 54, 3) := by decide +kernel
theorem dX13_readCond_6 : decode cX13_readCond 6 = .ok (.ifCond .eq 7, 3) := by decide +kernel
theorem dX13_readCond_9 : decode cX13_readCond 9 = .ok (.iconst 0, 1) := by decide +kernel
theorem dX13_readCond_10 : decode cX13_readCond 10 = .ok (.goto 69, 3) := by decide +kernel
theorem dX13_readCond_13 : decode cX13_readCond 13 = .ok (.aload_n 0, 1) := by decide +kernel
theorem dX13_readCond_14 : decode cX13_readCond 14 = .ok (.ldc 129, 2) := by decide +kernel
theorem dX13_readCond_16 : decode cX13_readCond 16 = .ok (.invokevirtual 54, 3) := by decide +kernel
theorem dX13_readCond_19 : decode cX13_readCond 19 = .ok (.ifCond .eq 7, 3) := by decide +kernel
theorem dX13_readCond_22 : decode cX13_readCond 22 = .ok (.iconst 1, 1) := by decide +kernel
theorem dX13_readCond_23 : decode cX13_readCond 23 = .ok (.goto 56, 3) := by decide +kernel
theorem dX13_readCond_26 : decode cX13_readCond 26 = .ok (.aload_n 0, 1) := by decide +kernel
theorem dX13_readCond_27 : decode cX13_readCond 27 = .ok (.ldc 131, 2) := by decide +kernel
theorem dX13_readCond_29 : decode cX13_readCond 29 = .ok (.invokevirtual 54, 3) := by decide +kernel
theorem dX13_readCond_32 : decode cX13_readCond 32 = .ok (.ifCond .eq 7, 3) := by decide +kernel
theorem dX13_readCond_35 : decode cX13_readCond 35 = .ok (.iconst 2, 1) := by decide +kernel
theorem dX13_readCond_36 : decode cX13_readCond 36 = .ok (.goto 43, 3) := by decide +kernel
theorem dX13_readCond_39 : decode cX13_readCond 39 = .ok (.aload_n 0, 1) := by decide +kernel
theorem dX13_readCond_40 : decode cX13_readCond 40 = .ok (.ldc 133, 2) := by decide +kernel
theorem dX13_readCond_42 : decode cX13_readCond 42 = .ok (.invokevirtual 54, 3) := by decide +kernel
theorem dX13_readCond_45 : decode cX13_readCond 45 = .ok (.ifCond .eq 7, 3) := by decide +kernel
theorem dX13_readCond_48 : decode cX13_readCond 48 = .ok (.iconst 3, 1) := by decide +kernel
theorem dX13_readCond_49 : decode cX13_readCond 49 = .ok (.goto 30, 3) := by decide +kernel
theorem dX13_readCond_52 : decode cX13_readCond 52 = .ok (.aload_n 0, 1) := by decide +kernel
theorem dX13_readCond_53 : decode cX13_readCond 53 = .ok (.ldc 135, 2) := by decide +kernel
theorem dX13_readCond_55 : decode cX13_readCond 55 = .ok (.invokevirtual 54, 3) := by decide +kernel
theorem dX13_readCond_58 : decode cX13_readCond 58 = .ok (.ifCond .eq 7, 3) := by decide +kernel
theorem dX13_readCond_61 : decode cX13_readCond 61 = .ok (.iconst 4, 1) := by decide +kernel
theorem dX13_readCond_62 : decode cX13_readCond 62 = .ok (.goto 17, 3) := by decide +kernel
theorem dX13_readCond_65 : decode cX13_readCond 65 = .ok (.aload_n 0, 1) := by decide +kernel
theorem dX13_readCond_66 : decode cX13_readCond 66 = .ok (.ldc 73, 2) := by decide +kernel
theorem dX13_readCond_68 : decode cX13_readCond 68 = .ok (.invokevirtual 54, 3) := by decide +kernel
theorem dX13_readCond_71 : decode cX13_readCond 71 = .ok (.ifCond .eq 7, 3) := by decide +kernel
theorem dX13_readCond_74 : decode cX13_readCond 74 = .ok (.iconst 5, 1) := by decide +kernel
theorem dX13_readCond_75 : decode cX13_readCond 75 = .ok (.goto 4, 3) := by decide +kernel
theorem dX13_readCond_78 : decode cX13_readCond 78 = .ok (.iconst (-1), 1) := by decide +kernel
theorem dX13_readCond_79 : decode cX13_readCond 79 = .ok (.istore_n 2, 1) := by decide +kernel
theorem dX13_readCond_80 : decode cX13_readCond 80 = .ok (.iload_n 2, 1) := by decide +kernel
theorem dX13_readCond_81 : decode cX13_readCond 81 = .ok (.iconst (-1), 1) := by decide +kernel
theorem dX13_readCond_82 : decode cX13_readCond 82 = .ok (.if_icmp .ne 9, 3) := by decide +kernel
theorem dX13_readCond_85 : decode cX13_readCond 85 = .ok (.aload_n 0, 1) := by decide +kernel
theorem dX13_readCond_86 : decode cX13_readCond 86 = .ok (.iconst 1, 1) := by decide +kernel
theorem dX13_readCond_87 : decode cX13_readCond 87 = .ok (.invokevirtual 58, 3) := by decide +kernel
theorem dX13_readCond_90 : decode cX13_readCond 90 = .ok (.athrow, 1) := by decide +kernel
theorem dX13_readCond_91 : decode cX13_readCond 91 = .ok (.aload_n 0, 1) := by decide +kernel
theorem dX13_readCond_92 : decode cX13_readCond 92 = .ok (.invokevirtual 62, 3) := by decide +kernel
theorem dX13_readCond_95 : decode cX13_readCond 95 = .ok (.aload_n 0, 1) := by decide +kernel
theorem dX13_readCond_96 : decode cX13_readCond 96 = .ok (.ldc 137, 2) := by decide +kernel
theorem dX13_readCond_98 : decode cX13_readCond 98 = .ok (.invokevirtual 54, 3) := by decide +kernel
theorem dX13_readCond_101 : decode cX13_readCond 101 = .ok (.ifCond .ne 27, 3) := by decide +kernel
theorem dX13_readCond_104 : decode cX13_readCond 104 = .ok (.aload_n 0, 1) := by decide +kernel
theorem dX13_readCond_105 : decode cX13_readCond 105 = .ok (.ldc 139, 2) := by decide +kernel
theorem dX13_readCond_107 : decode cX13_readCond 107 = .ok (.invokevirtual 54, 3) := by decide +kernel
theorem dX13_readCond_110 : decode cX13_readCond 110 = .ok (.ifCond .ne 18, 3) := by decide +kernel
theorem dX13_readCond_113 : decode cX13_readCond 113 = .ok (.aload_n 0, 1) := by decide +kernel
theorem dX13_readCond_114 : decode cX13_readCond 114 = .ok (.ldc 141, 2) := by decide +kernel
theorem dX13_readCond_116 : decode cX13_readCond 116 = .ok (.invokevirtual 54, 3) := by decide +kernel
theorem dX13_readCond_119 : decode cX13_readCond 119 = .ok (.ifCond .ne 9, 3) := by decide +kernel
theorem dX13_readCond_122 : decode cX13_readCond 122 = .ok (.aload_n 0, 1) := by decide +kernel
theorem dX13_readCond_123 : decode cX13_readCond 123 = .ok (.iconst 1, 1) := by decide +kernel
theorem dX13_readCond_124 : decode cX13_readCond 124 = .ok (.invokevirtual 58, 3) := by decide +kernel
theorem dX13_readCond_127 : decode cX13_readCond 127 = .ok (.athrow, 1) := by decide +kernel
theorem dX13_readCond_128 : decode cX13_readCond 128 = .ok (.aload_n 0, 1) := by decide +kernel
theorem dX13_readCond_129 : decode cX13_readCond 129 = .ok (.ldc 137, 2) := by decide +kernel
theorem dX13_readCond_131 : decode cX13_readCond 131 = .ok (.invokevirtual 54, 3) := by decide +kernel
theorem dX13_readCond_134 : decode cX13_readCond 134 = .ok (.ifCond .eq 7, 3) := by decide +kernel
theorem dX13_readCond_137 : decode cX13_readCond 137 = .ok (.iconst 1, 1) := by decide +kernel
theorem dX13_readCond_138 : decode cX13_readCond 138 = .ok (.goto 17, 3) := by decide +kernel
theorem dX13_readCond_141 : decode cX13_readCond 141 = .ok (.aload_n 0, 1) := by decide +kernel
theorem dX13_readCond_142 : decode cX13_readCond 142 = .ok (.ldc 139, 2) := by decide +kernel
theorem dX13_readCond_144 : decode cX13_readCond 144 = .ok (.invokevirtual 54, 3) := by decide +kernel
theorem dX13_readCond_147 : decode cX13_readCond 147 = .ok (.ifCond .eq 7, 3) := by decide +kernel
theorem dX13_readCond_150 : decode cX13_readCond 150 = .ok (.iconst (-1), 1) := by decide +kernel
theorem dX13_readCond_151 : decode cX13_readCond 151 = .ok (.goto 4, 3) := by decide +kernel
theorem dX13_readCond_154 : decode cX13_readCond 154 = .ok (.iconst 0, 1) := by decide +kernel
theorem dX13_readCond_155 : decode cX13_readCond 155 = .ok (.istore_n 3, 1) := by decide +kernel
theorem dX13_readCond_156 : decode cX13_readCond 156 = .ok (.aload_n 0, 1) := by decide +kernel
theorem dX13_readCond_157 : decode cX13_readCond 157 = .ok (.invokevirtual 62, 3) := by decide +kernel
theorem dX13_readCond_160 : decode cX13_readCond 160 = .ok (.iconst 4, 1) := by decide +kernel
theorem dX13_readCond_161 : decode cX13_readCond 161 = .ok (.iload_n 1, 1) := by decide +kernel
theorem dX13_readCond_162 : decode cX13_readCond 162 = .ok (.imul, 1) := by decide +kernel
theorem dX13_readCond_163 : decode cX13_readCond 163 = .ok (.aload_n 0, 1) := by decide +kernel
theorem dX13_readCond_164 : decode cX13_readCond 164 = .ok (.getfield 111, 3) := by decide +kernel
theorem dX13_readCond_167 : decode cX13_readCond 167 = .ok (.iload_n 1, 1) := by decide +kernel
theorem dX13_readCond_168 : decode cX13_readCond 168 = .ok (.iaload, 1) := by decide +kernel
theorem dX13_readCond_169 : decode cX13_readCond 169 = .ok (.iadd, 1) := by decide +kernel
theorem dX13_readCond_170 : decode cX13_readCond 170 = .ok (.istore 4, 2) := by decide +kernel
theorem dX13_readCond_172 : decode cX13_readCond 172 = .ok (.aload_n 0, 1) := by decide +kernel
theorem dX13_readCond_173 : decode cX13_readCond 173 = .ok (.getfield 142, 3) := by decide +kernel
theorem dX13_readCond_176 : decode cX13_readCond 176 = .ok (.iload 4, 2) := by decide +kernel
theorem dX13_readCond_178 : decode cX13_readCond 178 = .ok (.iload_n 2, 1) := by decide +kernel
theorem dX13_readCond_179 : decode cX13_readCond 179 = .ok (.iastore, 1) := by decide +kernel
theorem dX13_readCond_180 : decode cX13_readCond 180 = .ok (.aload_n 0, 1) := by decide +kernel
theorem dX13_readCond_181 : decode cX13_readCond 181 = .ok (.getfield 145, 3) := by decide +kernel
theorem dX13_readCond_184 : decode cX13_readCond 184 = .ok (.iload 4, 2) := by decide +kernel
theorem dX13_readCond_186 : decode cX13_readCond 186 = .ok (.iload_n 3, 1) := by decide +kernel
theorem dX13_readCond_187 : decode cX13_readCond 187 = .ok (.iastore, 1) := by decide +kernel
theorem dX13_readCond_188 : decode cX13_readCond 188 = .ok (.aload_n 0, 1) := by decide +kernel
theorem dX13_readCond_189 : decode cX13_readCond 189 = .ok (.getfield 148, 3) := by decide +kernel
theorem dX13_readCond_192 : decode cX13_readCond 192 = .ok (.iload 4, 2) := by decide +kernel
theorem dX13_readCond_194 : decode cX13_readCond 194 = .ok (.aload_n 0, 1) := by decide +kernel
theorem dX13_readCond_195 : decode cX13_readCond 195 = .ok (.iconst 0, 1) := by decide +kernel
theorem dX13_readCond_196 : decode cX13_readCond 196 = .ok (.sipush 999, 3) := by decide +kernel
theorem dX13_readCond_199 : decode cX13_readCond 199 = .ok (.invokevirtual 99, 3) := by decide +kernel
theorem dX13_readCond_202 : decode cX13_readCond 202 = .ok (.iastore, 1) := by decide +kernel
theorem dX13_readCond_203 : decode cX13_readCond 203 = .ok (.aload_n 0, 1) := by decide +kernel
theorem dX13_readCond_204 : decode cX13_readCond 204 = .ok (.getfield 111, 3) := by decide +kernel
theorem dX13_readCond_207 : decode cX13_readCond 207 = .ok (.iload_n 1, 1) := by decide +kernel
theorem dX13_readCond_208 : decode cX13_readCond 208 = .ok (.dup2, 1) := by decide +kernel
theorem dX13_readCond_209 : decode cX13_readCond 209 = .ok (.iaload, 1) := by decide +kernel
theorem dX13_readCond_210 : decode cX13_readCond 210 = .ok (.iconst 1, 1) := by decide +kernel
theorem dX13_readCond_211 : decode cX13_readCond 211 = .ok (.iadd, 1) := by decide +kernel
theorem dX13_readCond_212 : decode cX13_readCond 212 = .ok (.iastore, 1) := by decide +kernel
theorem dX13_readCond_213 : decode cX13_readCond 213 = .ok (.return_, 1) := by decide +kernel
noncomputable def tX13_readCond_76 : qT (Option Unit × qM) :=
  oSi 3 (oLa 0 (oCv GX13_scan 1 (oC (.int (4 : Int32)) (oLi 1 (o2 (· * ·) (oLa 0 (oGf 98 5 104 (oLi 1 (oAi 104 40 (o2 (· + ·) (oSi 4 (oLa 0 (oGf 98 6 105 (oLi 4 (oLi 2 (oWi 105 160 (oLa 0 (oGf 98 7 106 (oLi 4 (oLi 3 (oWi 106 160 (oLa 0 (oGf 98 8 107 (oLi 4 (oLa 0 (oC (.int (0 : Int32)) (oC (.int (999 : Int32)) (oCiX GX13_number 3 (oWi 107 160 (oLa 0 (oGf 98 5 104 (oLi 1 (oDup2 (oAi 104 40 (oC (.int (1 : Int32)) (o2 (· + ·) (oWi 104 40 (eVX)))))))))) eXv))))))))))))))))))))))))))))
noncomputable def wX13_readCond_76 (k : Int32 → Int32 → Int32 → qM → Option (Option Unit × qM)) : qT (Option Unit × qM) := fun lo st m => match lo, st with
  | [some (.ref 98), some (.int a1), some (.int a2), _, _], [.int s0] => k a1 a2 s0 m
  | _, _ => none
set_option maxRecDepth 20000 in
theorem sX13_readCond_76 {C : qCx} {w : qWp} (h : qOk C w RX13 cX13_readCond 5 5 155 155) (hm : qMt C none) (hx : qNx C) : qSnd C w 5 155 (qQf C w 155 155 jVX) qfin 155 155 (tX13_readCond_76) :=
  cSi (pc := 155) h dX13_readCond_155 rfl (cLa (pc := 156) h dX13_readCond_156 rfl (kCv (pc := 157) h (kd_X13_62 h dX13_readCond_157) spX13_scan (by decide) (by decide) (by decide) (by decide) (cC (pc := 160) h dX13_readCond_160 rfl (cLi (pc := 161) h dX13_readCond_161 rfl (aMul (pc := 162) h dX13_readCond_162 (cLa (pc := 163) h dX13_readCond_163 rfl (gGf (pc := 164) h dX13_readCond_164 ff_X13_111_98 (Nat.le_of_ble_eq_true rfl) (Nat.le_of_ble_eq_true rfl) rfl (cLi (pc := 167) h dX13_readCond_167 rfl (rAi (pc := 168) h dX13_readCond_168 rfl (Nat.le_of_ble_eq_true rfl) (Nat.le_of_ble_eq_true rfl) (aAdd (pc := 169) h dX13_readCond_169 (cSI (pc := 170) h dX13_readCond_170 (cLa (pc := 172) h dX13_readCond_172 rfl (gGf (pc := 173) h dX13_readCond_173 ff_X13_142_98 (Nat.le_of_ble_eq_true rfl) (Nat.le_of_ble_eq_true rfl) rfl (cLI (pc := 176) h dX13_readCond_176 (cLi (pc := 178) h dX13_readCond_178 rfl (rWi (pc := 179) h dX13_readCond_179 rfl (Nat.le_of_ble_eq_true rfl) (Nat.le_of_ble_eq_true rfl) (cLa (pc := 180) h dX13_readCond_180 rfl (gGf (pc := 181) h dX13_readCond_181 ff_X13_145_98 (Nat.le_of_ble_eq_true rfl) (Nat.le_of_ble_eq_true rfl) rfl (cLI (pc := 184) h dX13_readCond_184 (cLi (pc := 186) h dX13_readCond_186 rfl (rWi (pc := 187) h dX13_readCond_187 rfl (Nat.le_of_ble_eq_true rfl) (Nat.le_of_ble_eq_true rfl) (cLa (pc := 188) h dX13_readCond_188 rfl (gGf (pc := 189) h dX13_readCond_189 ff_X13_148_98 (Nat.le_of_ble_eq_true rfl) (Nat.le_of_ble_eq_true rfl) rfl (cLI (pc := 192) h dX13_readCond_192 (cLa (pc := 194) h dX13_readCond_194 rfl (cC (pc := 195) h dX13_readCond_195 rfl (cS (pc := 196) h dX13_readCond_196 rfl (kCiX (pc := 199) h (kd_X13_99 h dX13_readCond_199) spX13_number (by decide) (by decide) (by decide) (by decide) (rWi (pc := 202) h dX13_readCond_202 rfl (Nat.le_of_ble_eq_true rfl) (Nat.le_of_ble_eq_true rfl) (cLa (pc := 203) h dX13_readCond_203 rfl (gGf (pc := 204) h dX13_readCond_204 ff_X13_111_98 (Nat.le_of_ble_eq_true rfl) (Nat.le_of_ble_eq_true rfl) rfl (cLi (pc := 207) h dX13_readCond_207 rfl (aDup2 (pc := 208) h dX13_readCond_208 (rAi (pc := 209) h dX13_readCond_209 rfl (Nat.le_of_ble_eq_true rfl) (Nat.le_of_ble_eq_true rfl) (cC (pc := 210) h dX13_readCond_210 rfl (aAdd (pc := 211) h dX13_readCond_211 (rWi (pc := 212) h dX13_readCond_212 rfl (Nat.le_of_ble_eq_true rfl) (Nat.le_of_ble_eq_true rfl) (zVX (pc := 213) h hm (Nat.le_refl _) dX13_readCond_213)))))))))) (zX2 (pc := 199) eXv_J h hm hx (Nat.le_refl _))))))))))))))))))))))))))))))
set_option maxRecDepth 20000 in
theorem lX13_readCond_76 (a1 : Int32) (a2 : Int32) (s0 : Int32) (m : qM) : tX13_readCond_76 [some (.ref 98), some (.int a1), some (.int a2), none, none] [(.int s0)] m = fX13_readCond_76 a1 a2 s0 m := rfl
theorem bX13_readCond_76 {C : qCx} {w : qWp} (h : qOk C w RX13 cX13_readCond 5 5 155 155) (hm : qMt C none) (hx : qNx C) : qSnd C w 5 155 (qQf C w 155 155 jVX) qfin 155 155 (wX13_readCond_76 fX13_readCond_76) :=
  qSnd_of (fun lo st m x hr0 => by
    unfold wX13_readCond_76 at hr0
    split at hr0
    · exact ⟨_, (qsub_e (qsub_e (qsub_e (qsub_n (qsub_n qsub_nil))))), (lX13_readCond_76 _ _ _ _).trans hr0⟩
    · cases hr0) (sX13_readCond_76 h hm hx)
noncomputable def tX13_readCond_63 (j76 : qT (Option Unit × qM)) : qT (Option Unit × qM) :=
  oLa 0 (oC (.ref 10116) (oCi GX13_is 2 (oEq (oLa 0 (oC (.ref 10117) (oCi GX13_is 2 (oEq (oC (.int (0 : Int32)) (j76)) (oC (.int (-1 : Int32)) (j76)))))) (oC (.int (1 : Int32)) (j76)))))
noncomputable def wX13_readCond_63 (k : Int32 → Int32 → qM → Option (Option Unit × qM)) : qT (Option Unit × qM) := fun lo st m => match lo, st with
  | [some (.ref 98), some (.int a1), some (.int a2), _, _], [] => k a1 a2 m
  | _, _ => none
set_option maxRecDepth 20000 in
theorem sX13_readCond_63 {C : qCx} {w : qWp} (h : qOk C w RX13 cX13_readCond 5 5 155 155) (hm : qMt C none) (hx : qNx C) {j76 : qT (Option Unit × qM)} (k76 : qSnd C w 5 155 (qQf C w 155 155 jVX) qfin 155 155 j76) : qSnd C w 5 155 (qQf C w 155 155 jVX) qfin 155 128 (tX13_readCond_63 j76) :=
  cLa (pc := 128) h dX13_readCond_128 rfl (cStr (pc := 129) h dX13_readCond_129 fs_X13_137 (kCi (pc := 131) h (kd_X13_54 h dX13_readCond_131) spX13_is (by decide) (by decide) (by decide) (by decide) (jEq (pc := 134) h dX13_readCond_134 rfl (cLa (pc := 141) h dX13_readCond_141 rfl (cStr (pc := 142) h dX13_readCond_142 fs_X13_139 (kCi (pc := 144) h (kd_X13_54 h dX13_readCond_144) spX13_is (by decide) (by decide) (by decide) (by decide) (jEq (pc := 147) h dX13_readCond_147 rfl (cC (pc := 154) h dX13_readCond_154 rfl (k76)) (cC (pc := 150) h dX13_readCond_150 rfl (jGo (pc := 151) h dX13_readCond_151 rfl (k76))))))) (cC (pc := 137) h dX13_readCond_137 rfl (jGo (pc := 138) h dX13_readCond_138 rfl (k76))))))
set_option maxRecDepth 20000 in
theorem lX13_readCond_63 (a1 : Int32) (a2 : Int32) (m : qM) : tX13_readCond_63 (wX13_readCond_76 fX13_readCond_76) [some (.ref 98), some (.int a1), some (.int a2), none, none] [] m = fX13_readCond_63 a1 a2 m := rfl
theorem bX13_readCond_63 {C : qCx} {w : qWp} (h : qOk C w RX13 cX13_readCond 5 5 155 155) (hm : qMt C none) (hx : qNx C) : qSnd C w 5 155 (qQf C w 155 155 jVX) qfin 155 128 (wX13_readCond_63 fX13_readCond_63) :=
  qSnd_of (fun lo st m x hr0 => by
    unfold wX13_readCond_63 at hr0
    split at hr0
    · exact ⟨_, (qsub_e (qsub_e (qsub_e (qsub_n (qsub_n qsub_nil))))), (lX13_readCond_63 _ _ _).trans hr0⟩
    · cases hr0) (sX13_readCond_63 h hm hx (bX13_readCond_76 h hm hx))
noncomputable def tX13_readCond_37 (j63 : qT (Option Unit × qM)) : qT (Option Unit × qM) :=
  oSi 2 (oLi 2 (oC (.int (-1 : Int32)) (oCEq (oLa 0 (oC (.int (1 : Int32)) (oCr GX13_wrong 2 (eTv)))) (oLa 0 (oCv GX13_scan 1 (oLa 0 (oC (.ref 10116) (oCi GX13_is 2 (oEq (oLa 0 (oC (.ref 10117) (oCi GX13_is 2 (oEq (oLa 0 (oC (.ref 10118) (oCi GX13_is 2 (oEq (oLa 0 (oC (.int (1 : Int32)) (oCr GX13_wrong 2 (eTv)))) (j63))))) (j63))))) (j63))))))))))
noncomputable def wX13_readCond_37 (k : Int32 → Int32 → qM → Option (Option Unit × qM)) : qT (Option Unit × qM) := fun lo st m => match lo, st with
  | [some (.ref 98), some (.int a1), _, _, _], [.int s0] => k a1 s0 m
  | _, _ => none
set_option maxRecDepth 20000 in
theorem sX13_readCond_37 {C : qCx} {w : qWp} (h : qOk C w RX13 cX13_readCond 5 5 155 155) (hm : qMt C none) (hx : qNx C) {j63 : qT (Option Unit × qM)} (k63 : qSnd C w 5 155 (qQf C w 155 155 jVX) qfin 155 128 j63) : qSnd C w 5 155 (qQf C w 155 155 jVX) qfin 155 79 (tX13_readCond_37 j63) :=
  cSi (pc := 79) h dX13_readCond_79 rfl (cLi (pc := 80) h dX13_readCond_80 rfl (cC (pc := 81) h dX13_readCond_81 rfl (jCNe (pc := 82) h dX13_readCond_82 rfl (cLa (pc := 91) h dX13_readCond_91 rfl (kCv (pc := 92) h (kd_X13_62 h dX13_readCond_92) spX13_scan (by decide) (by decide) (by decide) (by decide) (cLa (pc := 95) h dX13_readCond_95 rfl (cStr (pc := 96) h dX13_readCond_96 fs_X13_137 (kCi (pc := 98) h (kd_X13_54 h dX13_readCond_98) spX13_is (by decide) (by decide) (by decide) (by decide) (jNe (pc := 101) h dX13_readCond_101 rfl (k63) (cLa (pc := 104) h dX13_readCond_104 rfl (cStr (pc := 105) h dX13_readCond_105 fs_X13_139 (kCi (pc := 107) h (kd_X13_54 h dX13_readCond_107) spX13_is (by decide) (by decide) (by decide) (by decide) (jNe (pc := 110) h dX13_readCond_110 rfl (k63) (cLa (pc := 113) h dX13_readCond_113 rfl (cStr (pc := 114) h dX13_readCond_114 fs_X13_141 (kCi (pc := 116) h (kd_X13_54 h dX13_readCond_116) spX13_is (by decide) (by decide) (by decide) (by decide) (jNe (pc := 119) h dX13_readCond_119 rfl (k63) (cLa (pc := 122) h dX13_readCond_122 rfl (cC (pc := 123) h dX13_readCond_123 rfl (kCr (pc := 124) h (kd_X13_58 h dX13_readCond_124) spX13_wrong (by decide) (by decide) (by decide) (by decide) (zT2 (pc := 127) eTv_J h hm hx (Nat.le_refl _) (by decide) (by decide) dX13_readCond_127)))))))))))))))))) (cLa (pc := 85) h dX13_readCond_85 rfl (cC (pc := 86) h dX13_readCond_86 rfl (kCr (pc := 87) h (kd_X13_58 h dX13_readCond_87) spX13_wrong (by decide) (by decide) (by decide) (by decide) (zT2 (pc := 90) eTv_J h hm hx (Nat.le_refl _) (by decide) (by decide) dX13_readCond_90)))))))
set_option maxRecDepth 20000 in
theorem lX13_readCond_37 (a1 : Int32) (s0 : Int32) (m : qM) : tX13_readCond_37 (wX13_readCond_63 fX13_readCond_63) [some (.ref 98), some (.int a1), none, none, none] [(.int s0)] m = fX13_readCond_37 a1 s0 m := rfl
theorem bX13_readCond_37 {C : qCx} {w : qWp} (h : qOk C w RX13 cX13_readCond 5 5 155 155) (hm : qMt C none) (hx : qNx C) : qSnd C w 5 155 (qQf C w 155 155 jVX) qfin 155 79 (wX13_readCond_37 fX13_readCond_37) :=
  qSnd_of (fun lo st m x hr0 => by
    unfold wX13_readCond_37 at hr0
    split at hr0
    · exact ⟨_, (qsub_e (qsub_e (qsub_n (qsub_n (qsub_n qsub_nil))))), (lX13_readCond_37 _ _ _).trans hr0⟩
    · cases hr0) (sX13_readCond_37 h hm hx (bX13_readCond_63 h hm hx))
noncomputable def tX13_readCond_0 (j37 : qT (Option Unit × qM)) : qT (Option Unit × qM) :=
  oLa 0 (oC (.ref 10109) (oCi GX13_is 2 (oEq (oLa 0 (oC (.ref 10112) (oCi GX13_is 2 (oEq (oLa 0 (oC (.ref 10113) (oCi GX13_is 2 (oEq (oLa 0 (oC (.ref 10114) (oCi GX13_is 2 (oEq (oLa 0 (oC (.ref 10115) (oCi GX13_is 2 (oEq (oLa 0 (oC (.ref 10106) (oCi GX13_is 2 (oEq (oC (.int (-1 : Int32)) (j37)) (oC (.int (5 : Int32)) (j37)))))) (oC (.int (4 : Int32)) (j37)))))) (oC (.int (3 : Int32)) (j37)))))) (oC (.int (2 : Int32)) (j37)))))) (oC (.int (1 : Int32)) (j37)))))) (oC (.int (0 : Int32)) (j37)))))
set_option maxRecDepth 20000 in
theorem sX13_readCond_0 {C : qCx} {w : qWp} (h : qOk C w RX13 cX13_readCond 5 5 155 155) (hm : qMt C none) (hx : qNx C) {j37 : qT (Option Unit × qM)} (k37 : qSnd C w 5 155 (qQf C w 155 155 jVX) qfin 155 79 j37) : qSnd C w 5 155 (qQf C w 155 155 jVX) qfin 155 0 (tX13_readCond_0 j37) :=
  cLa (pc := 0) h dX13_readCond_0 rfl (cStr (pc := 1) h dX13_readCond_1 fs_X13_79 (kCi (pc := 3) h (kd_X13_54 h dX13_readCond_3) spX13_is (by decide) (by decide) (by decide) (by decide) (jEq (pc := 6) h dX13_readCond_6 rfl (cLa (pc := 13) h dX13_readCond_13 rfl (cStr (pc := 14) h dX13_readCond_14 fs_X13_129 (kCi (pc := 16) h (kd_X13_54 h dX13_readCond_16) spX13_is (by decide) (by decide) (by decide) (by decide) (jEq (pc := 19) h dX13_readCond_19 rfl (cLa (pc := 26) h dX13_readCond_26 rfl (cStr (pc := 27) h dX13_readCond_27 fs_X13_131 (kCi (pc := 29) h (kd_X13_54 h dX13_readCond_29) spX13_is (by decide) (by decide) (by decide) (by decide) (jEq (pc := 32) h dX13_readCond_32 rfl (cLa (pc := 39) h dX13_readCond_39 rfl (cStr (pc := 40) h dX13_readCond_40 fs_X13_133 (kCi (pc := 42) h (kd_X13_54 h dX13_readCond_42) spX13_is (by decide) (by decide) (by decide) (by decide) (jEq (pc := 45) h dX13_readCond_45 rfl (cLa (pc := 52) h dX13_readCond_52 rfl (cStr (pc := 53) h dX13_readCond_53 fs_X13_135 (kCi (pc := 55) h (kd_X13_54 h dX13_readCond_55) spX13_is (by decide) (by decide) (by decide) (by decide) (jEq (pc := 58) h dX13_readCond_58 rfl (cLa (pc := 65) h dX13_readCond_65 rfl (cStr (pc := 66) h dX13_readCond_66 fs_X13_73 (kCi (pc := 68) h (kd_X13_54 h dX13_readCond_68) spX13_is (by decide) (by decide) (by decide) (by decide) (jEq (pc := 71) h dX13_readCond_71 rfl (cC (pc := 78) h dX13_readCond_78 rfl (k37)) (cC (pc := 74) h dX13_readCond_74 rfl (jGo (pc := 75) h dX13_readCond_75 rfl (k37))))))) (cC (pc := 61) h dX13_readCond_61 rfl (jGo (pc := 62) h dX13_readCond_62 rfl (k37))))))) (cC (pc := 48) h dX13_readCond_48 rfl (jGo (pc := 49) h dX13_readCond_49 rfl (k37))))))) (cC (pc := 35) h dX13_readCond_35 rfl (jGo (pc := 36) h dX13_readCond_36 rfl (k37))))))) (cC (pc := 22) h dX13_readCond_22 rfl (jGo (pc := 23) h dX13_readCond_23 rfl (k37))))))) (cC (pc := 9) h dX13_readCond_9 rfl (jGo (pc := 10) h dX13_readCond_10 rfl (k37))))))
set_option maxRecDepth 20000 in
theorem lX13_readCond_0 (a1 : Int32) (m : qM) : tX13_readCond_0 (wX13_readCond_37 fX13_readCond_37) [some (.ref 98), some (.int a1), none, none, none] [] m = fX13_readCond_0 a1 m := rfl
noncomputable def GX13_readCond : qG (Option Unit) := fun av m => match av with
  | [.ref 98, .int a1] => fX13_readCond a1 m
  | _ => none
theorem spX13_readCond : qSpVX yX13_readCond (.code yX13_readCond cX13_readCond 5 none) 5 qfin 155 155 1 GX13_readCond := by
  intro av m x m' hG
  unfold GX13_readCond at hG
  split at hG
  · rename_i a1
    rw [fX13_readCond_d] at hG
    exact ⟨qmeet (J := jVX) (r := (x, m')) (av := [.ref 98, .int a1]) (by decide +kernel) (Nat.le_of_ble_eq_true rfl) (fun C w h hm hx hn => sX13_readCond_0 h hm hx (bX13_readCond_37 h hm hx)) ((lX13_readCond_0 _ _).trans hG) (Nat.le_of_ble_eq_true rfl), Or.inl ⟨98, _, 13, _, _, rfl, by decide, rfl, qCk_13, rfl⟩⟩
  · cases hG

