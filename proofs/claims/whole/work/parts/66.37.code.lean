/-! methods (by program): X13_layFew, X13_layBest, X13_best, X13_judge, X13_tryMoves, X13_trySwaps -/
theorem mf_X13_394 : Jvm.Cond.fieldLink RX13 394 (qTb 13 43).1 (qTb 13 43).2.1 (qTb 13 43).2.2.1 ∈ qTw := qm7 (List.mem_of_getElem? (i := 21) (by decide +kernel)) (by decide +kernel)
theorem ff_X13_394_98 : qFd RX13 394 98 13 43 0 := ⟨mf_X13_394, rfl, by decide, rfl⟩
theorem mf_X13_397 : Jvm.Cond.fieldLink RX13 397 (qTb 13 46).1 (qTb 13 46).2.1 (qTb 13 46).2.2.1 ∈ qTw := qm7 (List.mem_of_getElem? (i := 24) (by decide +kernel)) (by decide +kernel)
theorem ff_X13_397_98 : qFd RX13 397 98 13 46 1 := ⟨mf_X13_397, rfl, by decide, rfl⟩
theorem mf_X13_400 : Jvm.Cond.fieldLink RX13 400 (qTb 13 44).1 (qTb 13 44).2.1 (qTb 13 44).2.2.1 ∈ qTw := qm7 (List.mem_of_getElem? (i := 22) (by decide +kernel)) (by decide +kernel)
theorem ff_X13_400_98 : qFd RX13 400 98 13 44 0 := ⟨mf_X13_400, rfl, by decide, rfl⟩
theorem mf_X13_403 : Jvm.Cond.fieldLink RX13 403 (qTb 13 45).1 (qTb 13 45).2.1 (qTb 13 45).2.2.1 ∈ qTw := qm7 (List.mem_of_getElem? (i := 23) (by decide +kernel)) (by decide +kernel)
theorem ff_X13_403_98 : qFd RX13 403 98 13 45 0 := ⟨mf_X13_403, rfl, by decide, rfl⟩
theorem mf_X13_232 : Jvm.Cond.fieldLink RX13 232 (qTb 13 40).1 (qTb 13 40).2.1 (qTb 13 40).2.2.1 ∈ qTw := qm7 (List.mem_of_getElem? (i := 18) (by decide +kernel)) (by decide +kernel)
theorem ff_X13_232_98 : qFd RX13 232 98 13 40 3 := ⟨mf_X13_232, rfl, by decide, rfl⟩
theorem im_X13_valueNow : Jvm.Cond.instanceMethod yX13_valueNow ∈ qTw := qm8 (List.mem_of_getElem? (i := 206) (by decide +kernel)) (by decide +kernel)
theorem se_X13_valueNow : Jvm.Cond.selects yX13_valueNow.cls yX13_valueNow yX13_valueNow ∈ qTw := List.mem_filter.mpr ⟨List.mem_append_left _ (List.mem_of_getElem? (i := 61) (by decide +kernel)), rfl⟩
theorem co_X13_valueNow : Jvm.Cond.code yX13_valueNow cX13_valueNow 2 none ∈ qTw := qm8 (List.mem_of_getElem? (i := 207) (by decide +kernel)) (by decide +kernel)
theorem yk_X13_valueNow : qYk yX13_valueNow 0 := ⟨⟨by decide +kernel, by decide +kernel⟩, by decide +kernel⟩
theorem ml_X13_406 : Jvm.Cond.methodLink RX13 406 yX13_valueNow ∈ qTw := qm8 (List.mem_of_getElem? (i := 204) (by decide +kernel)) (by decide +kernel)
theorem kd_X13_406 {C : qCx} {w : qWp} {cc : ByteArray} {nL dp n0 n1 pc : Nat} (h : qOk C w RX13 cc nL dp n0 n1) (d : decode cc pc = .ok (.invokevirtual 406, 3)) : qCallOk C w nL dp n0 n1 pc 1 1 yX13_valueNow (.code yX13_valueNow cX13_valueNow 2 none) := kindV h d ml_X13_406 im_X13_valueNow se_X13_valueNow in_ParentEveModel co_X13_valueNow yk_X13_valueNow (by decide)
theorem im_X13_isMore : Jvm.Cond.instanceMethod yX13_isMore ∈ qTw := qm8 (List.mem_of_getElem? (i := 210) (by decide +kernel)) (by decide +kernel)
theorem se_X13_isMore : Jvm.Cond.selects yX13_isMore.cls yX13_isMore yX13_isMore ∈ qTw := List.mem_filter.mpr ⟨List.mem_append_left _ (List.mem_of_getElem? (i := 62) (by decide +kernel)), rfl⟩
theorem co_X13_isMore : Jvm.Cond.code yX13_isMore cX13_isMore 2 (some .boolean) ∈ qTw := qm8 (List.mem_of_getElem? (i := 211) (by decide +kernel)) (by decide +kernel)
theorem yk_X13_isMore : qYk yX13_isMore 0 := ⟨⟨by decide +kernel, by decide +kernel⟩, by decide +kernel⟩
theorem ml_X13_409 : Jvm.Cond.methodLink RX13 409 yX13_isMore ∈ qTw := qm8 (List.mem_of_getElem? (i := 208) (by decide +kernel)) (by decide +kernel)
theorem kd_X13_409 {C : qCx} {w : qWp} {cc : ByteArray} {nL dp n0 n1 pc : Nat} (h : qOk C w RX13 cc nL dp n0 n1) (d : decode cc pc = .ok (.invokevirtual 409, 3)) : qCallOk C w nL dp n0 n1 pc 1 1 yX13_isMore (.code yX13_isMore cX13_isMore 2 (some .boolean)) := kindV h d ml_X13_409 im_X13_isMore se_X13_isMore in_ParentEveModel co_X13_isMore yk_X13_isMore (by decide)
theorem im_X13_layFew : Jvm.Cond.instanceMethod yX13_layFew ∈ qTw := qm8 (List.mem_of_getElem? (i := 202) (by decide +kernel)) (by decide +kernel)
theorem se_X13_layFew : Jvm.Cond.selects yX13_layFew.cls yX13_layFew yX13_layFew ∈ qTw := List.mem_filter.mpr ⟨List.mem_append_left _ (List.mem_of_getElem? (i := 60) (by decide +kernel)), rfl⟩
theorem co_X13_layFew : Jvm.Cond.code yX13_layFew cX13_layFew 8 none ∈ qTw := qm8 (List.mem_of_getElem? (i := 203) (by decide +kernel)) (by decide +kernel)
theorem yk_X13_layFew : qYk yX13_layFew 4 := ⟨⟨by decide +kernel, by decide +kernel⟩, by decide +kernel⟩
theorem ml_X13_415 : Jvm.Cond.methodLink RX13 415 yX13_layFew ∈ qTw := qm8 (List.mem_of_getElem? (i := 200) (by decide +kernel)) (by decide +kernel)
theorem kd_X13_415 {C : qCx} {w : qWp} {cc : ByteArray} {nL dp n0 n1 pc : Nat} (h : qOk C w RX13 cc nL dp n0 n1) (d : decode cc pc = .ok (.invokevirtual 415, 3)) : qCallOk C w nL dp n0 n1 pc 5 1 yX13_layFew (.code yX13_layFew cX13_layFew 8 none) := kindV h d ml_X13_415 im_X13_layFew se_X13_layFew in_ParentEveModel co_X13_layFew yk_X13_layFew (by decide)
theorem im_X13_keepValue : Jvm.Cond.instanceMethod yX13_keepValue ∈ qTw := qm8 (List.mem_of_getElem? (i := 214) (by decide +kernel)) (by decide +kernel)
theorem se_X13_keepValue : Jvm.Cond.selects yX13_keepValue.cls yX13_keepValue yX13_keepValue ∈ qTw := List.mem_filter.mpr ⟨List.mem_append_left _ (List.mem_of_getElem? (i := 63) (by decide +kernel)), rfl⟩
theorem co_X13_keepValue : Jvm.Cond.code yX13_keepValue cX13_keepValue 2 none ∈ qTw := qm8 (List.mem_of_getElem? (i := 215) (by decide +kernel)) (by decide +kernel)
theorem yk_X13_keepValue : qYk yX13_keepValue 0 := ⟨⟨by decide +kernel, by decide +kernel⟩, by decide +kernel⟩
theorem ml_X13_412 : Jvm.Cond.methodLink RX13 412 yX13_keepValue ∈ qTw := qm8 (List.mem_of_getElem? (i := 212) (by decide +kernel)) (by decide +kernel)
theorem kd_X13_412 {C : qCx} {w : qWp} {cc : ByteArray} {nL dp n0 n1 pc : Nat} (h : qOk C w RX13 cc nL dp n0 n1) (d : decode cc pc = .ok (.invokevirtual 412, 3)) : qCallOk C w nL dp n0 n1 pc 1 1 yX13_keepValue (.code yX13_keepValue cX13_keepValue 2 none) := kindV h d ml_X13_412 im_X13_keepValue se_X13_keepValue in_ParentEveModel co_X13_keepValue yk_X13_keepValue (by decide)
theorem mf_X13_235 : Jvm.Cond.fieldLink RX13 235 (qTb 13 41).1 (qTb 13 41).2.1 (qTb 13 41).2.2.1 ∈ qTw := qm7 (List.mem_of_getElem? (i := 19) (by decide +kernel)) (by decide +kernel)
theorem ff_X13_235_98 : qFd RX13 235 98 13 41 3 := ⟨mf_X13_235, rfl, by decide, rfl⟩
theorem dX13_layFew_0 : decode cX13_layFew 0 = .ok (.iconst 0, 1) := by decide +kernel
theorem dX13_layFew_1 : decode cX13_layFew 1 = .ok (.istore 5, 2) := by decide +kernel
theorem dX13_layFew_3 : decode cX13_layFew 3 = .ok (.iload_n 1, 1) := by decide +kernel
theorem dX13_layFew_4 : decode cX13_layFew 4 = .ok (.istore 6, 2) := by decide +kernel
theorem dX13_layFew_6 : decode cX13_layFew 6 = .ok (.iload 6, 2) := by decide +kernel
theorem dX13_layFew_8 : decode cX13_layFew 8 = .ok (.aload_n 0, 1) := by decide +kernel
theorem dX13_layFew_9 : decode cX13_layFew 9 = .ok (.getfield 394, 3) := by decide +kernel
theorem dX13_layFew_12 : decode cX13_layFew 12 = .ok (.if_icmp .ge 34, 3) := by decide +kernel
theorem dX13_layFew_15 : decode cX13_layFew 15 = .ok (.iload 5, 2) := by decide +kernel
theorem dX13_layFew_17 : decode cX13_layFew 17 = .ok (.aload_n 0, 1) := by decide +kernel
theorem dX13_layFew_18 : decode cX13_layFew 18 = .ok (.getfield 223, 3) := by decide +kernel
theorem dX13_layFew_21 : decode cX13_layFew 21 = .ok (.aload_n 0, 1) := by decide +kernel
theorem dX13_layFew_22 : decode cX13_layFew 22 = .ok (.getfield 232, 3) := by decide +kernel
theorem dX13_layFew_25 : decode cX13_layFew 25 = .ok (.iload 6, 2) := by decide +kernel
theorem dX13_layFew_27 : decode cX13_layFew 27 = .ok (.iaload, 1) := by decide +kernel
theorem dX13_layFew_28 : decode cX13_layFew 28 = .ok (.baload, 1) := by decide +kernel
theorem dX13_layFew_29 : decode cX13_layFew 29 = .ok (.ifCond .eq 7, 3) := by decide +kernel
theorem dX13_layFew_32 : decode cX13_layFew 32 = .ok (.iconst 1, 1) := by decide +kernel
theorem dX13_layFew_33 : decode cX13_layFew 33 = .ok (.goto 4, 3) := by decide +kernel
theorem dX13_layFew_36 : decode cX13_layFew 36 = .ok (.iconst 0, 1) := by decide +kernel
theorem dX13_layFew_37 : decode cX13_layFew 37 = .ok (.iadd, 1) := by decide +kernel
theorem dX13_layFew_38 : decode cX13_layFew 38 = .ok (.istore 5, 2) := by decide +kernel
theorem dX13_layFew_40 : decode cX13_layFew 40 = .ok (.iinc 6 1, 3) := by decide +kernel
theorem dX13_layFew_43 : decode cX13_layFew 43 = .ok (.goto (-37), 3) := by decide +kernel
theorem dX13_layFew_46 : decode cX13_layFew 46 = .ok (.aload_n 0, 1) := by decide +kernel
theorem dX13_layFew_47 : decode cX13_layFew 47 = .ok (.getfield 397, 3) := by decide +kernel
theorem dX13_layFew_50 : decode cX13_layFew 50 = .ok (.ifCond .eq 42, 3) := by decide +kernel
theorem dX13_layFew_53 : decode cX13_layFew 53 = .ok (.iload_n 3, 1) := by decide +kernel
theorem dX13_layFew_54 : decode cX13_layFew 54 = .ok (.iload 5, 2) := by decide +kernel
theorem dX13_layFew_56 : decode cX13_layFew 56 = .ok (.iadd, 1) := by decide +kernel
theorem dX13_layFew_57 : decode cX13_layFew 57 = .ok (.aload_n 0, 1) := by decide +kernel
theorem dX13_layFew_58 : decode cX13_layFew 58 = .ok (.getfield 400, 3) := by decide +kernel
theorem dX13_layFew_61 : decode cX13_layFew 61 = .ok (.if_icmp .lt 30, 3) := by decide +kernel
theorem dX13_layFew_64 : decode cX13_layFew 64 = .ok (.iload_n 3, 1) := by decide +kernel
theorem dX13_layFew_65 : decode cX13_layFew 65 = .ok (.iload 5, 2) := by decide +kernel
theorem dX13_layFew_67 : decode cX13_layFew 67 = .ok (.iadd, 1) := by decide +kernel
theorem dX13_layFew_68 : decode cX13_layFew 68 = .ok (.aload_n 0, 1) := by decide +kernel
theorem dX13_layFew_69 : decode cX13_layFew 69 = .ok (.getfield 400, 3) := by decide +kernel
theorem dX13_layFew_72 : decode cX13_layFew 72 = .ok (.if_icmp .ne 20, 3) := by decide +kernel
theorem dX13_layFew_75 : decode cX13_layFew 75 = .ok (.iload 4, 2) := by decide +kernel
theorem dX13_layFew_77 : decode cX13_layFew 77 = .ok (.aload_n 0, 1) := by decide +kernel
theorem dX13_layFew_78 : decode cX13_layFew 78 = .ok (.getfield 394, 3) := by decide +kernel
theorem dX13_layFew_81 : decode cX13_layFew 81 = .ok (.iadd, 1) := by decide +kernel
theorem dX13_layFew_82 : decode cX13_layFew 82 = .ok (.iload_n 1, 1) := by decide +kernel
theorem dX13_layFew_83 : decode cX13_layFew 83 = .ok (.isub, 1) := by decide +kernel
theorem dX13_layFew_84 : decode cX13_layFew 84 = .ok (.aload_n 0, 1) := by decide +kernel
theorem dX13_layFew_85 : decode cX13_layFew 85 = .ok (.getfield 403, 3) := by decide +kernel
theorem dX13_layFew_88 : decode cX13_layFew 88 = .ok (.if_icmp .ge 4, 3) := by decide +kernel
theorem dX13_layFew_91 : decode cX13_layFew 91 = .ok (.return_, 1) := by decide +kernel
theorem dX13_layFew_92 : decode cX13_layFew 92 = .ok (.iload_n 1, 1) := by decide +kernel
theorem dX13_layFew_93 : decode cX13_layFew 93 = .ok (.aload_n 0, 1) := by decide +kernel
theorem dX13_layFew_94 : decode cX13_layFew 94 = .ok (.getfield 394, 3) := by decide +kernel
theorem dX13_layFew_97 : decode cX13_layFew 97 = .ok (.if_icmp .ne 80, 3) := by decide +kernel
theorem dX13_layFew_100 : decode cX13_layFew 100 = .ok (.aload_n 0, 1) := by decide +kernel
theorem dX13_layFew_101 : decode cX13_layFew 101 = .ok (.invokevirtual 406, 3) := by decide +kernel
theorem dX13_layFew_104 : decode cX13_layFew 104 = .ok (.aload_n 0, 1) := by decide +kernel
theorem dX13_layFew_105 : decode cX13_layFew 105 = .ok (.getfield 397, 3) := by decide +kernel
theorem dX13_layFew_108 : decode cX13_layFew 108 = .ok (.ifCond .eq 11, 3) := by decide +kernel
theorem dX13_layFew_111 : decode cX13_layFew 111 = .ok (.aload_n 0, 1) := by decide +kernel
theorem dX13_layFew_112 : decode cX13_layFew 112 = .ok (.invokevirtual 409, 3) := by decide +kernel
theorem dX13_layFew_115 : decode cX13_layFew 115 = .ok (.ifCond .ne 4, 3) := by decide +kernel
theorem dX13_layFew_118 : decode cX13_layFew 118 = .ok (.return_, 1) := by decide +kernel
theorem dX13_layFew_119 : decode cX13_layFew 119 = .ok (.aload_n 0, 1) := by decide +kernel
theorem dX13_layFew_120 : decode cX13_layFew 120 = .ok (.iconst 1, 1) := by decide +kernel
theorem dX13_layFew_121 : decode cX13_layFew 121 = .ok (.putfield 397, 3) := by decide +kernel
theorem dX13_layFew_124 : decode cX13_layFew 124 = .ok (.aload_n 0, 1) := by decide +kernel
theorem dX13_layFew_125 : decode cX13_layFew 125 = .ok (.invokevirtual 412, 3) := by decide +kernel
theorem dX13_layFew_128 : decode cX13_layFew 128 = .ok (.aload_n 0, 1) := by decide +kernel
theorem dX13_layFew_129 : decode cX13_layFew 129 = .ok (.iload_n 3, 1) := by decide +kernel
theorem dX13_layFew_130 : decode cX13_layFew 130 = .ok (.putfield 400, 3) := by decide +kernel
theorem dX13_layFew_133 : decode cX13_layFew 133 = .ok (.aload_n 0, 1) := by decide +kernel
theorem dX13_layFew_134 : decode cX13_layFew 134 = .ok (.iload 4, 2) := by decide +kernel
theorem dX13_layFew_136 : decode cX13_layFew 136 = .ok (.putfield 403, 3) := by decide +kernel
theorem dX13_layFew_139 : decode cX13_layFew 139 = .ok (.iconst 0, 1) := by decide +kernel
theorem dX13_layFew_140 : decode cX13_layFew 140 = .ok (.istore 6, 2) := by decide +kernel
theorem dX13_layFew_142 : decode cX13_layFew 142 = .ok (.iload 6, 2) := by decide +kernel
theorem dX13_layFew_144 : decode cX13_layFew 144 = .ok (.aload_n 0, 1) := by decide +kernel
theorem dX13_layFew_145 : decode cX13_layFew 145 = .ok (.getfield 394, 3) := by decide +kernel
theorem dX13_layFew_148 : decode cX13_layFew 148 = .ok (.if_icmp .ge 28, 3) := by decide +kernel
theorem dX13_layFew_151 : decode cX13_layFew 151 = .ok (.aload_n 0, 1) := by decide +kernel
theorem dX13_layFew_152 : decode cX13_layFew 152 = .ok (.getfield 235, 3) := by decide +kernel
theorem dX13_layFew_155 : decode cX13_layFew 155 = .ok (.iload 6, 2) := by decide +kernel
theorem dX13_layFew_157 : decode cX13_layFew 157 = .ok (.aload_n 0, 1) := by decide +kernel
theorem dX13_layFew_158 : decode cX13_layFew 158 = .ok (.getfield 221, 3) := by decide +kernel
theorem dX13_layFew_161 : decode cX13_layFew 161 = .ok (.aload_n 0, 1) := by decide +kernel
theorem dX13_layFew_162 : decode cX13_layFew 162 = .ok (.getfield 232, 3) := by decide +kernel
theorem dX13_layFew_165 : decode cX13_layFew 165 = .ok (.iload 6, 2) := by decide +kernel
theorem dX13_layFew_167 : decode cX13_layFew 167 = .ok (.iaload, 1) := by decide +kernel
theorem dX13_layFew_168 : decode cX13_layFew 168 = .ok (.iaload, 1) := by decide +kernel
theorem dX13_layFew_169 : decode cX13_layFew 169 = .ok (.iastore, 1) := by decide +kernel
theorem dX13_layFew_170 : decode cX13_layFew 170 = .ok (.iinc 6 1, 3) := by decide +kernel
theorem dX13_layFew_173 : decode cX13_layFew 173 = .ok (.goto (-31), 3) := by decide +kernel
theorem dX13_layFew_176 : decode cX13_layFew 176 = .ok (.return_, 1) := by decide +kernel
theorem dX13_layFew_177 : decode cX13_layFew 177 = .ok (.aload_n 0, 1) := by decide +kernel
theorem dX13_layFew_178 : decode cX13_layFew 178 = .ok (.getfield 232, 3) := by decide +kernel
theorem dX13_layFew_181 : decode cX13_layFew 181 = .ok (.iload_n 1, 1) := by decide +kernel
theorem dX13_layFew_182 : decode cX13_layFew 182 = .ok (.iaload, 1) := by decide +kernel
theorem dX13_layFew_183 : decode cX13_layFew 183 = .ok (.istore 6, 2) := by decide +kernel
theorem dX13_layFew_185 : decode cX13_layFew 185 = .ok (.iload_n 2, 1) := by decide +kernel
theorem dX13_layFew_186 : decode cX13_layFew 186 = .ok (.istore 7, 2) := by decide +kernel
theorem dX13_layFew_188 : decode cX13_layFew 188 = .ok (.iload 7, 2) := by decide +kernel
theorem dX13_layFew_190 : decode cX13_layFew 190 = .ok (.bipush 20, 2) := by decide +kernel
theorem dX13_layFew_192 : decode cX13_layFew 192 = .ok (.if_icmp .ge 69, 3) := by decide +kernel
theorem dX13_layFew_195 : decode cX13_layFew 195 = .ok (.aload_n 0, 1) := by decide +kernel
theorem dX13_layFew_196 : decode cX13_layFew 196 = .ok (.iload 6, 2) := by decide +kernel
theorem dX13_layFew_198 : decode cX13_layFew 198 = .ok (.iload 7, 2) := by decide +kernel
theorem dX13_layFew_200 : decode cX13_layFew 200 = .ok (.invokevirtual 375, 3) := by decide +kernel
theorem dX13_layFew_203 : decode cX13_layFew 203 = .ok (.ifCond .ne 6, 3) := by decide +kernel
theorem dX13_layFew_206 : decode cX13_layFew 206 = .ok (.goto 49, 3) := by decide +kernel
theorem dX13_layFew_209 : decode cX13_layFew 209 = .ok (.aload_n 0, 1) := by decide +kernel
theorem dX13_layFew_210 : decode cX13_layFew 210 = .ok (.getfield 221, 3) := by decide +kernel
theorem dX13_layFew_213 : decode cX13_layFew 213 = .ok (.iload 6, 2) := by decide +kernel
theorem dX13_layFew_215 : decode cX13_layFew 215 = .ok (.iload 7, 2) := by decide +kernel
theorem dX13_layFew_217 : decode cX13_layFew 217 = .ok (.iastore, 1) := by decide +kernel
theorem dX13_layFew_218 : decode cX13_layFew 218 = .ok (.aload_n 0, 1) := by decide +kernel
theorem dX13_layFew_219 : decode cX13_layFew 219 = .ok (.iload_n 1, 1) := by decide +kernel
theorem dX13_layFew_220 : decode cX13_layFew 220 = .ok (.iconst 1, 1) := by decide +kernel
theorem dX13_layFew_221 : decode cX13_layFew 221 = .ok (.iadd, 1) := by decide +kernel
theorem dX13_layFew_222 : decode cX13_layFew 222 = .ok (.iload_n 2, 1) := by decide +kernel
theorem dX13_layFew_223 : decode cX13_layFew 223 = .ok (.iload_n 3, 1) := by decide +kernel
theorem dX13_layFew_224 : decode cX13_layFew 224 = .ok (.aload_n 0, 1) := by decide +kernel
theorem dX13_layFew_225 : decode cX13_layFew 225 = .ok (.getfield 223, 3) := by decide +kernel
theorem dX13_layFew_228 : decode cX13_layFew 228 = .ok (.iload 6, 2) := by decide +kernel
theorem dX13_layFew_230 : decode cX13_layFew 230 = .ok (.baload, 1) := by decide +kernel
theorem dX13_layFew_231 : decode cX13_layFew 231 = .ok (.ifCond .eq 7, 3) := by decide +kernel
theorem dX13_layFew_234 : decode cX13_layFew 234 = .ok (.iconst 1, 1) := by decide +kernel
theorem dX13_layFew_235 : decode cX13_layFew 235 = .ok (.goto 4, 3) := by decide +kernel
theorem dX13_layFew_238 : decode cX13_layFew 238 = .ok (.iconst 0, 1) := by decide +kernel
theorem dX13_layFew_239 : decode cX13_layFew 239 = .ok (.iadd, 1) := by decide +kernel
theorem dX13_layFew_240 : decode cX13_layFew 240 = .ok (.iload 4, 2) := by decide +kernel
theorem dX13_layFew_242 : decode cX13_layFew 242 = .ok (.iconst 1, 1) := by decide +kernel
theorem dX13_layFew_243 : decode cX13_layFew 243 = .ok (.iadd, 1) := by decide +kernel
theorem dX13_layFew_244 : decode cX13_layFew 244 = .ok (.invokevirtual 415, 3) := by decide +kernel
theorem dX13_layFew_247 : decode cX13_layFew 247 = .ok (.aload_n 0, 1) := by decide +kernel
theorem dX13_layFew_248 : decode cX13_layFew 248 = .ok (.getfield 221, 3) := by decide +kernel
theorem dX13_layFew_251 : decode cX13_layFew 251 = .ok (.iload 6, 2) := by decide +kernel
theorem dX13_layFew_253 : decode cX13_layFew 253 = .ok (.iconst (-1), 1) := by decide +kernel
theorem dX13_layFew_254 : decode cX13_layFew 254 = .ok (.iastore, 1) := by decide +kernel
theorem dX13_layFew_255 : decode cX13_layFew 255 = .ok (.iinc 7 1, 3) := by decide +kernel
theorem dX13_layFew_258 : decode cX13_layFew 258 = .ok (.goto (-70), 3) := by decide +kernel
theorem dX13_layFew_261 : decode cX13_layFew 261 = .ok (.aload_n 0, 1) := by decide +kernel
theorem dX13_layFew_262 : decode cX13_layFew 262 = .ok (.iload_n 1, 1) := by decide +kernel
theorem dX13_layFew_263 : decode cX13_layFew 263 = .ok (.iconst 1, 1) := by decide +kernel
theorem dX13_layFew_264 : decode cX13_layFew 264 = .ok (.iadd, 1) := by decide +kernel
theorem dX13_layFew_265 : decode cX13_layFew 265 = .ok (.iload_n 2, 1) := by decide +kernel
theorem dX13_layFew_266 : decode cX13_layFew 266 = .ok (.iload_n 3, 1) := by decide +kernel
theorem dX13_layFew_267 : decode cX13_layFew 267 = .ok (.iload 4, 2) := by decide +kernel
theorem dX13_layFew_269 : decode cX13_layFew 269 = .ok (.invokevirtual 415, 3) := by decide +kernel
theorem dX13_layFew_272 : decode cX13_layFew 272 = .ok (.return_, 1) := by decide +kernel
noncomputable def tX13_layFew_20 (G : qG Unit) (j4 : qT (Unit × qM)) : qT (Unit × qM) :=
  o2 (· + ·) (oSi 5 (oInc 6 (1 : Int32) (j4)))
noncomputable def wX13_layFew_20 (k : Int32 → Int32 → Int32 → Int32 → Int32 → Int32 → Int32 → qM → Option (Unit × qM)) : qT (Unit × qM) := fun lo st m => match lo, st with
  | [some (.ref 98), some (.int a1), some (.int a2), some (.int a3), some (.int a4), _, some (.int a6), _], [.int s0, .int s1] => k a1 a2 a3 a4 a6 s0 s1 m
  | _, _ => none
noncomputable def wX13_layFew_4 (k : Int32 → Int32 → Int32 → Int32 → Int32 → Int32 → qM → Option (Unit × qM)) : qT (Unit × qM) := fun lo st m => match lo, st with
  | [some (.ref 98), some (.int a1), some (.int a2), some (.int a3), some (.int a4), some (.int a5), some (.int a6), _], [] => k a1 a2 a3 a4 a5 a6 m
  | _, _ => none
set_option maxRecDepth 20000 in
theorem sX13_layFew_20 {C : qCx} {w : qWp} {dp dG : Nat} {G : qG Unit} (h : qOk C w RX13 cX13_layFew 8 dp 155 155) (hm : qMt C none) (hx : qNx C) (hG : qSpV yX13_layFew (.code yX13_layFew cX13_layFew 8 none) dG qfin 155 155 1 G) (hdG : dG + 1 ≤ dp) (hdp : 4 ≤ dp) {j4 : qT (Unit × qM)} (k4 : qSnd C w 8 155 (qQf C w 155 155 jV) qfin 155 6 j4) : qSnd C w 8 155 (qQf C w 155 155 jV) qfin 155 37 (tX13_layFew_20 G j4) :=
  aAdd (pc := 37) h dX13_layFew_37 (cSI (pc := 38) h dX13_layFew_38 (cInc (pc := 40) h dX13_layFew_40 rfl (jGo (pc := 43) h dX13_layFew_43 rfl (k4))))
set_option maxRecDepth 20000 in
theorem lX13_layFew_20 (G : qG Unit) (k4 : Int32 → Int32 → Int32 → Int32 → Int32 → Int32 → qM → Option (Unit × qM)) (a1 : Int32) (a2 : Int32) (a3 : Int32) (a4 : Int32) (a6 : Int32) (s0 : Int32) (s1 : Int32) (m : qM) : tX13_layFew_20 G (wX13_layFew_4 k4) [some (.ref 98), some (.int a1), some (.int a2), some (.int a3), some (.int a4), none, some (.int a6), none] [(.int s0), (.int s1)] m = fX13_layFew_20 G k4 a1 a2 a3 a4 a6 s0 s1 m := rfl
theorem bX13_layFew_20 {C : qCx} {w : qWp} {dp dG : Nat} {G : qG Unit} (h : qOk C w RX13 cX13_layFew 8 dp 155 155) (hm : qMt C none) (hx : qNx C) (hG : qSpV yX13_layFew (.code yX13_layFew cX13_layFew 8 none) dG qfin 155 155 1 G) (hdG : dG + 1 ≤ dp) (hdp : 4 ≤ dp) {k4 : Int32 → Int32 → Int32 → Int32 → Int32 → Int32 → qM → Option (Unit × qM)} (h4 : qSnd C w 8 155 (qQf C w 155 155 jV) qfin 155 6 (wX13_layFew_4 k4)) : qSnd C w 8 155 (qQf C w 155 155 jV) qfin 155 37 (wX13_layFew_20 (fX13_layFew_20 G k4)) :=
  qSnd_of (fun lo st m x hr0 => by
    unfold wX13_layFew_20 at hr0
    split at hr0
    · exact ⟨_, (qsub_e (qsub_e (qsub_e (qsub_e (qsub_e (qsub_n (qsub_e (qsub_n qsub_nil)))))))), (lX13_layFew_20 _ _ _ _ _ _ _ _ _ _).trans hr0⟩
    · cases hr0) (sX13_layFew_20 h hm hx hG hdG hdp h4)
noncomputable def tX13_layFew_4 (G : qG Unit) (j49 : qT (Unit × qM)) (j48 : qT (Unit × qM)) (j20 : qT (Unit × qM)) : qT (Unit × qM) :=
  oLi 6 (oLa 0 (oGi 98 43 (oCGe (oLa 0 (oGi 98 46 (oEq (j49) (oLi 3 (oLi 5 (o2 (· + ·) (oLa 0 (oGi 98 44 (oCLt (j48) (oLi 3 (oLi 5 (o2 (· + ·) (oLa 0 (oGi 98 44 (oCEq (oLi 4 (oLa 0 (oGi 98 43 (o2 (· + ·) (oLi 1 (o2 (· - ·) (oLa 0 (oGi 98 45 (oCGe (j49) (j48)))))))))) (j49)))))))))))))))) (oLi 5 (oLa 0 (oGf 98 37 126 (oLa 0 (oGf 98 40 129 (oLi 6 (oAi 129 4 (oAi 126 40 (oEq (oC (.int (0 : Int32)) (j20)) (oC (.int (1 : Int32)) (j20))))))))))))))
noncomputable def wX13_layFew_49 (k : Int32 → Int32 → Int32 → Int32 → qM → Option (Unit × qM)) : qT (Unit × qM) := fun lo st m => match lo, st with
  | [some (.ref 98), some (.int a1), some (.int a2), some (.int a3), some (.int a4), _, _, _], [] => k a1 a2 a3 a4 m
  | _, _ => none
noncomputable def wX13_layFew_48 (k : qM → Option (Unit × qM)) : qT (Unit × qM) := fun lo st m => match lo, st with
  | [_, _, _, _, _, _, _, _], [] => k m
  | _, _ => none
set_option maxRecDepth 20000 in
theorem sX13_layFew_4 {C : qCx} {w : qWp} {dp dG : Nat} {G : qG Unit} (h : qOk C w RX13 cX13_layFew 8 dp 155 155) (hm : qMt C none) (hx : qNx C) (hG : qSpV yX13_layFew (.code yX13_layFew cX13_layFew 8 none) dG qfin 155 155 1 G) (hdG : dG + 1 ≤ dp) (hdp : 4 ≤ dp) {j49 : qT (Unit × qM)} {j48 : qT (Unit × qM)} {j20 : qT (Unit × qM)} (k49 : qSnd C w 8 155 (qQf C w 155 155 jV) qfin 155 92 j49) (k48 : qSnd C w 8 155 (qQf C w 155 155 jV) qfin 155 91 j48) (k20 : qSnd C w 8 155 (qQf C w 155 155 jV) qfin 155 37 j20) : qSnd C w 8 155 (qQf C w 155 155 jV) qfin 155 6 (tX13_layFew_4 G j49 j48 j20) :=
  cLI (pc := 6) h dX13_layFew_6 (cLa (pc := 8) h dX13_layFew_8 rfl (gGi (pc := 9) h dX13_layFew_9 ff_X13_394_98 (Nat.le_of_ble_eq_true rfl) (Nat.le_of_ble_eq_true rfl) (jCGe (pc := 12) h dX13_layFew_12 rfl (cLa (pc := 46) h dX13_layFew_46 rfl (gGz (pc := 47) h dX13_layFew_47 ff_X13_397_98 (Nat.le_of_ble_eq_true rfl) (Nat.le_of_ble_eq_true rfl) (jEq (pc := 50) h dX13_layFew_50 rfl (k49) (cLi (pc := 53) h dX13_layFew_53 rfl (cLI (pc := 54) h dX13_layFew_54 (aAdd (pc := 56) h dX13_layFew_56 (cLa (pc := 57) h dX13_layFew_57 rfl (gGi (pc := 58) h dX13_layFew_58 ff_X13_400_98 (Nat.le_of_ble_eq_true rfl) (Nat.le_of_ble_eq_true rfl) (jCLt (pc := 61) h dX13_layFew_61 rfl (k48) (cLi (pc := 64) h dX13_layFew_64 rfl (cLI (pc := 65) h dX13_layFew_65 (aAdd (pc := 67) h dX13_layFew_67 (cLa (pc := 68) h dX13_layFew_68 rfl (gGi (pc := 69) h dX13_layFew_69 ff_X13_400_98 (Nat.le_of_ble_eq_true rfl) (Nat.le_of_ble_eq_true rfl) (jCNe (pc := 72) h dX13_layFew_72 rfl (k49) (cLI (pc := 75) h dX13_layFew_75 (cLa (pc := 77) h dX13_layFew_77 rfl (gGi (pc := 78) h dX13_layFew_78 ff_X13_394_98 (Nat.le_of_ble_eq_true rfl) (Nat.le_of_ble_eq_true rfl) (aAdd (pc := 81) h dX13_layFew_81 (cLi (pc := 82) h dX13_layFew_82 rfl (aSub (pc := 83) h dX13_layFew_83 (cLa (pc := 84) h dX13_layFew_84 rfl (gGi (pc := 85) h dX13_layFew_85 ff_X13_403_98 (Nat.le_of_ble_eq_true rfl) (Nat.le_of_ble_eq_true rfl) (jCGe (pc := 88) h dX13_layFew_88 rfl (k49) (k48))))))))))))))))))))))))) (cLI (pc := 15) h dX13_layFew_15 (cLa (pc := 17) h dX13_layFew_17 rfl (gGf (pc := 18) h dX13_layFew_18 ff_X13_223_98 (Nat.le_of_ble_eq_true rfl) (Nat.le_of_ble_eq_true rfl) rfl (cLa (pc := 21) h dX13_layFew_21 rfl (gGf (pc := 22) h dX13_layFew_22 ff_X13_232_98 (Nat.le_of_ble_eq_true rfl) (Nat.le_of_ble_eq_true rfl) rfl (cLI (pc := 25) h dX13_layFew_25 (rAi (pc := 27) h dX13_layFew_27 rfl (Nat.le_of_ble_eq_true rfl) (Nat.le_of_ble_eq_true rfl) (rAz (pc := 28) h dX13_layFew_28 rfl (Nat.le_of_ble_eq_true rfl) (Nat.le_of_ble_eq_true rfl) (jEq (pc := 29) h dX13_layFew_29 rfl (cC (pc := 36) h dX13_layFew_36 rfl (k20)) (cC (pc := 32) h dX13_layFew_32 rfl (jGo (pc := 33) h dX13_layFew_33 rfl (k20)))))))))))))))
set_option maxRecDepth 20000 in
theorem lX13_layFew_4 (G : qG Unit) (k49 : Int32 → Int32 → Int32 → Int32 → qM → Option (Unit × qM)) (k48 : qM → Option (Unit × qM)) (n : Nat) (a1 : Int32) (a2 : Int32) (a3 : Int32) (a4 : Int32) (a5 : Int32) (a6 : Int32) (m : qM) : tX13_layFew_4 G (wX13_layFew_49 k49) (wX13_layFew_48 k48) (wX13_layFew_20 (fX13_layFew_20 G (fX13_layFew_4 G k49 k48 n))) [some (.ref 98), some (.int a1), some (.int a2), some (.int a3), some (.int a4), some (.int a5), some (.int a6), none] [] m = fX13_layFew_4 G k49 k48 (n + 1) a1 a2 a3 a4 a5 a6 m := rfl
theorem bX13_layFew_4 {C : qCx} {w : qWp} {dp dG : Nat} {G : qG Unit} (h : qOk C w RX13 cX13_layFew 8 dp 155 155) (hm : qMt C none) (hx : qNx C) (hG : qSpV yX13_layFew (.code yX13_layFew cX13_layFew 8 none) dG qfin 155 155 1 G) (hdG : dG + 1 ≤ dp) (hdp : 4 ≤ dp) {k49 : Int32 → Int32 → Int32 → Int32 → qM → Option (Unit × qM)} {k48 : qM → Option (Unit × qM)} (h49 : qSnd C w 8 155 (qQf C w 155 155 jV) qfin 155 92 (wX13_layFew_49 k49)) (h48 : qSnd C w 8 155 (qQf C w 155 155 jV) qfin 155 91 (wX13_layFew_48 k48)) : ∀ n : Nat, qSnd C w 8 155 (qQf C w 155 155 jV) qfin 155 6 (wX13_layFew_4 (fX13_layFew_4 G k49 k48 n))
  | 0 => qSnd_of0 (fun lo st m x hr0 => by
    unfold wX13_layFew_4 at hr0
    split at hr0
    · cases hr0
    · cases hr0)
  | n + 1 => by
    have ih := bX13_layFew_4 h hm hx hG hdG hdp h49 h48 n
    exact qSnd_of (fun lo st m x hr0 => by
    unfold wX13_layFew_4 at hr0
    split at hr0
    · exact ⟨_, (qsub_e (qsub_e (qsub_e (qsub_e (qsub_e (qsub_e (qsub_e (qsub_n qsub_nil)))))))), (lX13_layFew_4 _ _ _ n _ _ _ _ _ _ _).trans hr0⟩
    · cases hr0) (sX13_layFew_4 h hm hx hG hdG hdp h49 h48 (bX13_layFew_20 h hm hx hG hdG hdp ih))
noncomputable def tX13_layFew_138 (G : qG Unit) (j100 : qT (Unit × qM)) : qT (Unit × qM) :=
  oInc 7 (1 : Int32) (j100)
noncomputable def wX13_layFew_138 (k : Int32 → Int32 → Int32 → Int32 → Int32 → Int32 → qM → Option (Unit × qM)) : qT (Unit × qM) := fun lo st m => match lo, st with
  | [some (.ref 98), some (.int a1), some (.int a2), some (.int a3), some (.int a4), _, some (.int a6), some (.int a7)], [] => k a1 a2 a3 a4 a6 a7 m
  | _, _ => none
noncomputable def wX13_layFew_100 (k : Int32 → Int32 → Int32 → Int32 → Int32 → Int32 → qM → Option (Unit × qM)) : qT (Unit × qM) := fun lo st m => match lo, st with
  | [some (.ref 98), some (.int a1), some (.int a2), some (.int a3), some (.int a4), _, some (.int a6), some (.int a7)], [] => k a1 a2 a3 a4 a6 a7 m
  | _, _ => none
set_option maxRecDepth 20000 in
theorem sX13_layFew_138 {C : qCx} {w : qWp} {dp dG : Nat} {G : qG Unit} (h : qOk C w RX13 cX13_layFew 8 dp 155 155) (hm : qMt C none) (hx : qNx C) (hG : qSpV yX13_layFew (.code yX13_layFew cX13_layFew 8 none) dG qfin 155 155 1 G) (hdG : dG + 1 ≤ dp) (hdp : 4 ≤ dp) {j100 : qT (Unit × qM)} (k100 : qSnd C w 8 155 (qQf C w 155 155 jV) qfin 155 188 j100) : qSnd C w 8 155 (qQf C w 155 155 jV) qfin 155 255 (tX13_layFew_138 G j100) :=
  cInc (pc := 255) h dX13_layFew_255 rfl (jGo (pc := 258) h dX13_layFew_258 rfl (k100))
set_option maxRecDepth 20000 in
theorem lX13_layFew_138 (G : qG Unit) (k100 : Int32 → Int32 → Int32 → Int32 → Int32 → Int32 → qM → Option (Unit × qM)) (a1 : Int32) (a2 : Int32) (a3 : Int32) (a4 : Int32) (a6 : Int32) (a7 : Int32) (m : qM) : tX13_layFew_138 G (wX13_layFew_100 k100) [some (.ref 98), some (.int a1), some (.int a2), some (.int a3), some (.int a4), none, some (.int a6), some (.int a7)] [] m = fX13_layFew_138 G k100 a1 a2 a3 a4 a6 a7 m := rfl
theorem bX13_layFew_138 {C : qCx} {w : qWp} {dp dG : Nat} {G : qG Unit} (h : qOk C w RX13 cX13_layFew 8 dp 155 155) (hm : qMt C none) (hx : qNx C) (hG : qSpV yX13_layFew (.code yX13_layFew cX13_layFew 8 none) dG qfin 155 155 1 G) (hdG : dG + 1 ≤ dp) (hdp : 4 ≤ dp) {k100 : Int32 → Int32 → Int32 → Int32 → Int32 → Int32 → qM → Option (Unit × qM)} (h100 : qSnd C w 8 155 (qQf C w 155 155 jV) qfin 155 188 (wX13_layFew_100 k100)) : qSnd C w 8 155 (qQf C w 155 155 jV) qfin 155 255 (wX13_layFew_138 (fX13_layFew_138 G k100)) :=
  qSnd_of (fun lo st m x hr0 => by
    unfold wX13_layFew_138 at hr0
    split at hr0
    · exact ⟨_, (qsub_e (qsub_e (qsub_e (qsub_e (qsub_e (qsub_n (qsub_e (qsub_e qsub_nil)))))))), (lX13_layFew_138 _ _ _ _ _ _ _ _ _).trans hr0⟩
    · cases hr0) (sX13_layFew_138 h hm hx hG hdG hdp h100)
noncomputable def tX13_layFew_128 (G : qG Unit) (j138 : qT (Unit × qM)) : qT (Unit × qM) :=
  o2 (· + ·) (oLi 4 (oC (.int (1 : Int32)) (o2 (· + ·) (oCv G 5 (oLa 0 (oGf 98 36 125 (oLi 6 (oC (.int (-1 : Int32)) (oWi 125 40 (j138))))))))))
noncomputable def wX13_layFew_128 (k : Int32 → Int32 → Int32 → Int32 → Int32 → Int32 → Int32 → Int32 → Int32 → Int32 → qM → Option (Unit × qM)) : qT (Unit × qM) := fun lo st m => match lo, st with
  | [some (.ref 98), some (.int a1), some (.int a2), some (.int a3), some (.int a4), _, some (.int a6), some (.int a7)], [.int s0, .int s1, .int s2, .int s3, .ref 98] => k a1 a2 a3 a4 a6 a7 s0 s1 s2 s3 m
  | _, _ => none
set_option maxRecDepth 20000 in
theorem sX13_layFew_128 {C : qCx} {w : qWp} {dp dG : Nat} {G : qG Unit} (h : qOk C w RX13 cX13_layFew 8 dp 155 155) (hm : qMt C none) (hx : qNx C) (hG : qSpV yX13_layFew (.code yX13_layFew cX13_layFew 8 none) dG qfin 155 155 1 G) (hdG : dG + 1 ≤ dp) (hdp : 4 ≤ dp) {j138 : qT (Unit × qM)} (k138 : qSnd C w 8 155 (qQf C w 155 155 jV) qfin 155 255 j138) : qSnd C w 8 155 (qQf C w 155 155 jV) qfin 155 239 (tX13_layFew_128 G j138) :=
  aAdd (pc := 239) h dX13_layFew_239 (cLI (pc := 240) h dX13_layFew_240 (cC (pc := 242) h dX13_layFew_242 rfl (aAdd (pc := 243) h dX13_layFew_243 (kCv (pc := 244) h (kd_X13_415 h dX13_layFew_244) hG hdG (by decide) (by decide) (by decide) (cLa (pc := 247) h dX13_layFew_247 rfl (gGf (pc := 248) h dX13_layFew_248 ff_X13_221_98 (Nat.le_of_ble_eq_true rfl) (Nat.le_of_ble_eq_true rfl) rfl (cLI (pc := 251) h dX13_layFew_251 (cC (pc := 253) h dX13_layFew_253 rfl (rWi (pc := 254) h dX13_layFew_254 rfl (Nat.le_of_ble_eq_true rfl) (Nat.le_of_ble_eq_true rfl) (k138))))))))))
set_option maxRecDepth 20000 in
theorem lX13_layFew_128 (G : qG Unit) (k100 : Int32 → Int32 → Int32 → Int32 → Int32 → Int32 → qM → Option (Unit × qM)) (a1 : Int32) (a2 : Int32) (a3 : Int32) (a4 : Int32) (a6 : Int32) (a7 : Int32) (s0 : Int32) (s1 : Int32) (s2 : Int32) (s3 : Int32) (m : qM) : tX13_layFew_128 G (wX13_layFew_138 (fX13_layFew_138 G k100)) [some (.ref 98), some (.int a1), some (.int a2), some (.int a3), some (.int a4), none, some (.int a6), some (.int a7)] [(.int s0), (.int s1), (.int s2), (.int s3), (.ref 98)] m = fX13_layFew_128 G k100 a1 a2 a3 a4 a6 a7 s0 s1 s2 s3 m := rfl
theorem bX13_layFew_128 {C : qCx} {w : qWp} {dp dG : Nat} {G : qG Unit} (h : qOk C w RX13 cX13_layFew 8 dp 155 155) (hm : qMt C none) (hx : qNx C) (hG : qSpV yX13_layFew (.code yX13_layFew cX13_layFew 8 none) dG qfin 155 155 1 G) (hdG : dG + 1 ≤ dp) (hdp : 4 ≤ dp) {k100 : Int32 → Int32 → Int32 → Int32 → Int32 → Int32 → qM → Option (Unit × qM)} (h100 : qSnd C w 8 155 (qQf C w 155 155 jV) qfin 155 188 (wX13_layFew_100 k100)) : qSnd C w 8 155 (qQf C w 155 155 jV) qfin 155 239 (wX13_layFew_128 (fX13_layFew_128 G k100)) :=
  qSnd_of (fun lo st m x hr0 => by
    unfold wX13_layFew_128 at hr0
    split at hr0
    · exact ⟨_, (qsub_e (qsub_e (qsub_e (qsub_e (qsub_e (qsub_n (qsub_e (qsub_e qsub_nil)))))))), (lX13_layFew_128 _ _ _ _ _ _ _ _ _ _ _ _ _).trans hr0⟩
    · cases hr0) (sX13_layFew_128 h hm hx hG hdG hdp (bX13_layFew_138 h hm hx hG hdG hdp h100))
noncomputable def tX13_layFew_100 (G : qG Unit) (j128 : qT (Unit × qM)) (j138 : qT (Unit × qM)) : qT (Unit × qM) :=
  oLi 7 (oC (.int (20 : Int32)) (oCGe (oLa 0 (oLi 1 (oC (.int (1 : Int32)) (o2 (· + ·) (oLi 2 (oLi 3 (oLi 4 (oCv G 5 (eV))))))))) (oLa 0 (oLi 6 (oLi 7 (oCi GX13_mayBe 3 (oEq (j138) (oLa 0 (oGf 98 36 125 (oLi 6 (oLi 7 (oWi 125 40 (oLa 0 (oLi 1 (oC (.int (1 : Int32)) (o2 (· + ·) (oLi 2 (oLi 3 (oLa 0 (oGf 98 37 126 (oLi 6 (oAi 126 40 (oEq (oC (.int (0 : Int32)) (j128)) (oC (.int (1 : Int32)) (j128)))))))))))))))))))))))))
set_option maxRecDepth 20000 in
theorem sX13_layFew_100 {C : qCx} {w : qWp} {dp dG : Nat} {G : qG Unit} (h : qOk C w RX13 cX13_layFew 8 dp 155 155) (hm : qMt C none) (hx : qNx C) (hG : qSpV yX13_layFew (.code yX13_layFew cX13_layFew 8 none) dG qfin 155 155 1 G) (hdG : dG + 1 ≤ dp) (hdp : 4 ≤ dp) {j128 : qT (Unit × qM)} {j138 : qT (Unit × qM)} (k128 : qSnd C w 8 155 (qQf C w 155 155 jV) qfin 155 239 j128) (k138 : qSnd C w 8 155 (qQf C w 155 155 jV) qfin 155 255 j138) : qSnd C w 8 155 (qQf C w 155 155 jV) qfin 155 188 (tX13_layFew_100 G j128 j138) :=
  cLI (pc := 188) h dX13_layFew_188 (cB (pc := 190) h dX13_layFew_190 rfl (jCGe (pc := 192) h dX13_layFew_192 rfl (cLa (pc := 261) h dX13_layFew_261 rfl (cLi (pc := 262) h dX13_layFew_262 rfl (cC (pc := 263) h dX13_layFew_263 rfl (aAdd (pc := 264) h dX13_layFew_264 (cLi (pc := 265) h dX13_layFew_265 rfl (cLi (pc := 266) h dX13_layFew_266 rfl (cLI (pc := 267) h dX13_layFew_267 (kCv (pc := 269) h (kd_X13_415 h dX13_layFew_269) hG hdG (by decide) (by decide) (by decide) (zV (pc := 272) h hm (Nat.le_refl _) dX13_layFew_272))))))))) (cLa (pc := 195) h dX13_layFew_195 rfl (cLI (pc := 196) h dX13_layFew_196 (cLI (pc := 198) h dX13_layFew_198 (kCi (pc := 200) h (kd_X13_375 h dX13_layFew_200) spX13_mayBe (by omega) (by decide) (by decide) (by decide) (jNe (pc := 203) h dX13_layFew_203 rfl (cLa (pc := 209) h dX13_layFew_209 rfl (gGf (pc := 210) h dX13_layFew_210 ff_X13_221_98 (Nat.le_of_ble_eq_true rfl) (Nat.le_of_ble_eq_true rfl) rfl (cLI (pc := 213) h dX13_layFew_213 (cLI (pc := 215) h dX13_layFew_215 (rWi (pc := 217) h dX13_layFew_217 rfl (Nat.le_of_ble_eq_true rfl) (Nat.le_of_ble_eq_true rfl) (cLa (pc := 218) h dX13_layFew_218 rfl (cLi (pc := 219) h dX13_layFew_219 rfl (cC (pc := 220) h dX13_layFew_220 rfl (aAdd (pc := 221) h dX13_layFew_221 (cLi (pc := 222) h dX13_layFew_222 rfl (cLi (pc := 223) h dX13_layFew_223 rfl (cLa (pc := 224) h dX13_layFew_224 rfl (gGf (pc := 225) h dX13_layFew_225 ff_X13_223_98 (Nat.le_of_ble_eq_true rfl) (Nat.le_of_ble_eq_true rfl) rfl (cLI (pc := 228) h dX13_layFew_228 (rAz (pc := 230) h dX13_layFew_230 rfl (Nat.le_of_ble_eq_true rfl) (Nat.le_of_ble_eq_true rfl) (jEq (pc := 231) h dX13_layFew_231 rfl (cC (pc := 238) h dX13_layFew_238 rfl (k128)) (cC (pc := 234) h dX13_layFew_234 rfl (jGo (pc := 235) h dX13_layFew_235 rfl (k128))))))))))))))))))) (jGo (pc := 206) h dX13_layFew_206 rfl (k138)))))))))
set_option maxRecDepth 20000 in
theorem lX13_layFew_100 (G : qG Unit) (n : Nat) (a1 : Int32) (a2 : Int32) (a3 : Int32) (a4 : Int32) (a6 : Int32) (a7 : Int32) (m : qM) : tX13_layFew_100 G (wX13_layFew_128 (fX13_layFew_128 G (fX13_layFew_100 G n))) (wX13_layFew_138 (fX13_layFew_138 G (fX13_layFew_100 G n))) [some (.ref 98), some (.int a1), some (.int a2), some (.int a3), some (.int a4), none, some (.int a6), some (.int a7)] [] m = fX13_layFew_100 G (n + 1) a1 a2 a3 a4 a6 a7 m := rfl
theorem bX13_layFew_100 {C : qCx} {w : qWp} {dp dG : Nat} {G : qG Unit} (h : qOk C w RX13 cX13_layFew 8 dp 155 155) (hm : qMt C none) (hx : qNx C) (hG : qSpV yX13_layFew (.code yX13_layFew cX13_layFew 8 none) dG qfin 155 155 1 G) (hdG : dG + 1 ≤ dp) (hdp : 4 ≤ dp) : ∀ n : Nat, qSnd C w 8 155 (qQf C w 155 155 jV) qfin 155 188 (wX13_layFew_100 (fX13_layFew_100 G n))
  | 0 => qSnd_of0 (fun lo st m x hr0 => by
    unfold wX13_layFew_100 at hr0
    split at hr0
    · cases hr0
    · cases hr0)
  | n + 1 => by
    have ih := bX13_layFew_100 h hm hx hG hdG hdp n
    exact qSnd_of (fun lo st m x hr0 => by
    unfold wX13_layFew_100 at hr0
    split at hr0
    · exact ⟨_, (qsub_e (qsub_e (qsub_e (qsub_e (qsub_e (qsub_n (qsub_e (qsub_e qsub_nil)))))))), (lX13_layFew_100 _ n _ _ _ _ _ _ _).trans hr0⟩
    · cases hr0) (sX13_layFew_100 h hm hx hG hdG hdp (bX13_layFew_128 h hm hx hG hdG hdp ih) (bX13_layFew_138 h hm hx hG hdG hdp ih))
noncomputable def tX13_layFew_75 (G : qG Unit) (j75 : qT (Unit × qM)) : qT (Unit × qM) :=
  oLi 6 (oLa 0 (oGi 98 43 (oCGe (eV) (oLa 0 (oGf 98 41 130 (oLi 6 (oLa 0 (oGf 98 36 125 (oLa 0 (oGf 98 40 129 (oLi 6 (oAi 129 4 (oAi 125 40 (oWi 130 4 (oInc 6 (1 : Int32) (j75))))))))))))))))
noncomputable def wX13_layFew_75 (k : Int32 → qM → Option (Unit × qM)) : qT (Unit × qM) := fun lo st m => match lo, st with
  | [some (.ref 98), _, _, _, _, _, some (.int a6), _], [] => k a6 m
  | _, _ => none
set_option maxRecDepth 20000 in
theorem sX13_layFew_75 {C : qCx} {w : qWp} {dp dG : Nat} {G : qG Unit} (h : qOk C w RX13 cX13_layFew 8 dp 155 155) (hm : qMt C none) (hx : qNx C) (hG : qSpV yX13_layFew (.code yX13_layFew cX13_layFew 8 none) dG qfin 155 155 1 G) (hdG : dG + 1 ≤ dp) (hdp : 4 ≤ dp) {j75 : qT (Unit × qM)} (k75 : qSnd C w 8 155 (qQf C w 155 155 jV) qfin 155 142 j75) : qSnd C w 8 155 (qQf C w 155 155 jV) qfin 155 142 (tX13_layFew_75 G j75) :=
  cLI (pc := 142) h dX13_layFew_142 (cLa (pc := 144) h dX13_layFew_144 rfl (gGi (pc := 145) h dX13_layFew_145 ff_X13_394_98 (Nat.le_of_ble_eq_true rfl) (Nat.le_of_ble_eq_true rfl) (jCGe (pc := 148) h dX13_layFew_148 rfl (zV (pc := 176) h hm (Nat.le_refl _) dX13_layFew_176) (cLa (pc := 151) h dX13_layFew_151 rfl (gGf (pc := 152) h dX13_layFew_152 ff_X13_235_98 (Nat.le_of_ble_eq_true rfl) (Nat.le_of_ble_eq_true rfl) rfl (cLI (pc := 155) h dX13_layFew_155 (cLa (pc := 157) h dX13_layFew_157 rfl (gGf (pc := 158) h dX13_layFew_158 ff_X13_221_98 (Nat.le_of_ble_eq_true rfl) (Nat.le_of_ble_eq_true rfl) rfl (cLa (pc := 161) h dX13_layFew_161 rfl (gGf (pc := 162) h dX13_layFew_162 ff_X13_232_98 (Nat.le_of_ble_eq_true rfl) (Nat.le_of_ble_eq_true rfl) rfl (cLI (pc := 165) h dX13_layFew_165 (rAi (pc := 167) h dX13_layFew_167 rfl (Nat.le_of_ble_eq_true rfl) (Nat.le_of_ble_eq_true rfl) (rAi (pc := 168) h dX13_layFew_168 rfl (Nat.le_of_ble_eq_true rfl) (Nat.le_of_ble_eq_true rfl) (rWi (pc := 169) h dX13_layFew_169 rfl (Nat.le_of_ble_eq_true rfl) (Nat.le_of_ble_eq_true rfl) (cInc (pc := 170) h dX13_layFew_170 rfl (jGo (pc := 173) h dX13_layFew_173 rfl (k75)))))))))))))))))
set_option maxRecDepth 20000 in
theorem lX13_layFew_75 (G : qG Unit) (n : Nat) (a6 : Int32) (m : qM) : tX13_layFew_75 G (wX13_layFew_75 ((fX13_layFew_75 G n))) [some (.ref 98), none, none, none, none, none, some (.int a6), none] [] m = fX13_layFew_75 G (n + 1) a6 m := rfl
theorem bX13_layFew_75 {C : qCx} {w : qWp} {dp dG : Nat} {G : qG Unit} (h : qOk C w RX13 cX13_layFew 8 dp 155 155) (hm : qMt C none) (hx : qNx C) (hG : qSpV yX13_layFew (.code yX13_layFew cX13_layFew 8 none) dG qfin 155 155 1 G) (hdG : dG + 1 ≤ dp) (hdp : 4 ≤ dp) : ∀ n : Nat, qSnd C w 8 155 (qQf C w 155 155 jV) qfin 155 142 (wX13_layFew_75 (fX13_layFew_75 G n))
  | 0 => qSnd_of0 (fun lo st m x hr0 => by
    unfold wX13_layFew_75 at hr0
    split at hr0
    · cases hr0
    · cases hr0)
  | n + 1 => by
    have ih := bX13_layFew_75 h hm hx hG hdG hdp n
    exact qSnd_of (fun lo st m x hr0 => by
    unfold wX13_layFew_75 at hr0
    split at hr0
    · exact ⟨_, (qsub_e (qsub_n (qsub_n (qsub_n (qsub_n (qsub_n (qsub_e (qsub_n qsub_nil)))))))), (lX13_layFew_75 _ n _ _).trans hr0⟩
    · cases hr0) (sX13_layFew_75 h hm hx hG hdG hdp ih)
noncomputable def tX13_layFew_62 (G : qG Unit) (j75 : qT (Unit × qM)) : qT (Unit × qM) :=
  oLa 0 (oC (.int (1 : Int32)) (oPz 98 46 (oLa 0 (oCv GX13_keepValue 1 (oLa 0 (oLi 3 (oPi 98 44 (oLa 0 (oLi 4 (oPi 98 45 (oC (.int (0 : Int32)) (oSi 6 (j75)))))))))))))
noncomputable def wX13_layFew_62 (k : Int32 → Int32 → qM → Option (Unit × qM)) : qT (Unit × qM) := fun lo st m => match lo, st with
  | [some (.ref 98), _, _, some (.int a3), some (.int a4), _, _, _], [] => k a3 a4 m
  | _, _ => none
set_option maxRecDepth 20000 in
theorem sX13_layFew_62 {C : qCx} {w : qWp} {dp dG : Nat} {G : qG Unit} (h : qOk C w RX13 cX13_layFew 8 dp 155 155) (hm : qMt C none) (hx : qNx C) (hG : qSpV yX13_layFew (.code yX13_layFew cX13_layFew 8 none) dG qfin 155 155 1 G) (hdG : dG + 1 ≤ dp) (hdp : 4 ≤ dp) {j75 : qT (Unit × qM)} (k75 : qSnd C w 8 155 (qQf C w 155 155 jV) qfin 155 142 j75) : qSnd C w 8 155 (qQf C w 155 155 jV) qfin 155 119 (tX13_layFew_62 G j75) :=
  cLa (pc := 119) h dX13_layFew_119 rfl (cC (pc := 120) h dX13_layFew_120 rfl (gPz (pc := 121) h dX13_layFew_121 ff_X13_397_98 (Or.inl rfl) (Nat.le_of_ble_eq_true rfl) (Nat.le_of_ble_eq_true rfl) (cLa (pc := 124) h dX13_layFew_124 rfl (kCv (pc := 125) h (kd_X13_412 h dX13_layFew_125) spX13_keepValue (by omega) (by decide) (by decide) (by decide) (cLa (pc := 128) h dX13_layFew_128 rfl (cLi (pc := 129) h dX13_layFew_129 rfl (gPi (pc := 130) h dX13_layFew_130 ff_X13_400_98 (Or.inl rfl) (Nat.le_of_ble_eq_true rfl) (Nat.le_of_ble_eq_true rfl) (cLa (pc := 133) h dX13_layFew_133 rfl (cLI (pc := 134) h dX13_layFew_134 (gPi (pc := 136) h dX13_layFew_136 ff_X13_403_98 (Or.inl rfl) (Nat.le_of_ble_eq_true rfl) (Nat.le_of_ble_eq_true rfl) (cC (pc := 139) h dX13_layFew_139 rfl (cSI (pc := 140) h dX13_layFew_140 (k75)))))))))))))
set_option maxRecDepth 20000 in
theorem lX13_layFew_62 (G : qG Unit) (a3 : Int32) (a4 : Int32) (m : qM) : tX13_layFew_62 G (wX13_layFew_75 (fX13_layFew_75 G FU)) [some (.ref 98), none, none, some (.int a3), some (.int a4), none, none, none] [] m = fX13_layFew_62 G a3 a4 m := rfl
theorem bX13_layFew_62 {C : qCx} {w : qWp} {dp dG : Nat} {G : qG Unit} (h : qOk C w RX13 cX13_layFew 8 dp 155 155) (hm : qMt C none) (hx : qNx C) (hG : qSpV yX13_layFew (.code yX13_layFew cX13_layFew 8 none) dG qfin 155 155 1 G) (hdG : dG + 1 ≤ dp) (hdp : 4 ≤ dp) : qSnd C w 8 155 (qQf C w 155 155 jV) qfin 155 119 (wX13_layFew_62 (fX13_layFew_62 G)) :=
  qSnd_of (fun lo st m x hr0 => by
    unfold wX13_layFew_62 at hr0
    split at hr0
    · exact ⟨_, (qsub_e (qsub_n (qsub_n (qsub_e (qsub_e (qsub_n (qsub_n (qsub_n qsub_nil)))))))), (lX13_layFew_62 _ _ _ _).trans hr0⟩
    · cases hr0) (sX13_layFew_62 h hm hx hG hdG hdp (bX13_layFew_75 h hm hx hG hdG hdp FU))
noncomputable def tX13_layFew_49 (G : qG Unit) (j100 : qT (Unit × qM)) (j62 : qT (Unit × qM)) : qT (Unit × qM) :=
  oLi 1 (oLa 0 (oGi 98 43 (oCEq (oLa 0 (oCv GX13_valueNow 1 (oLa 0 (oGi 98 46 (oEq (j62) (oLa 0 (oCi GX13_isMore 1 (oEq (eV) (j62))))))))) (oLa 0 (oGf 98 40 129 (oLi 1 (oAi 129 4 (oSi 6 (oLi 2 (oSi 7 (j100)))))))))))
set_option maxRecDepth 20000 in
theorem sX13_layFew_49 {C : qCx} {w : qWp} {dp dG : Nat} {G : qG Unit} (h : qOk C w RX13 cX13_layFew 8 dp 155 155) (hm : qMt C none) (hx : qNx C) (hG : qSpV yX13_layFew (.code yX13_layFew cX13_layFew 8 none) dG qfin 155 155 1 G) (hdG : dG + 1 ≤ dp) (hdp : 4 ≤ dp) {j100 : qT (Unit × qM)} {j62 : qT (Unit × qM)} (k100 : qSnd C w 8 155 (qQf C w 155 155 jV) qfin 155 188 j100) (k62 : qSnd C w 8 155 (qQf C w 155 155 jV) qfin 155 119 j62) : qSnd C w 8 155 (qQf C w 155 155 jV) qfin 155 92 (tX13_layFew_49 G j100 j62) :=
  cLi (pc := 92) h dX13_layFew_92 rfl (cLa (pc := 93) h dX13_layFew_93 rfl (gGi (pc := 94) h dX13_layFew_94 ff_X13_394_98 (Nat.le_of_ble_eq_true rfl) (Nat.le_of_ble_eq_true rfl) (jCNe (pc := 97) h dX13_layFew_97 rfl (cLa (pc := 177) h dX13_layFew_177 rfl (gGf (pc := 178) h dX13_layFew_178 ff_X13_232_98 (Nat.le_of_ble_eq_true rfl) (Nat.le_of_ble_eq_true rfl) rfl (cLi (pc := 181) h dX13_layFew_181 rfl (rAi (pc := 182) h dX13_layFew_182 rfl (Nat.le_of_ble_eq_true rfl) (Nat.le_of_ble_eq_true rfl) (cSI (pc := 183) h dX13_layFew_183 (cLi (pc := 185) h dX13_layFew_185 rfl (cSI (pc := 186) h dX13_layFew_186 (k100)))))))) (cLa (pc := 100) h dX13_layFew_100 rfl (kCv (pc := 101) h (kd_X13_406 h dX13_layFew_101) spX13_valueNow (by omega) (by decide) (by decide) (by decide) (cLa (pc := 104) h dX13_layFew_104 rfl (gGz (pc := 105) h dX13_layFew_105 ff_X13_397_98 (Nat.le_of_ble_eq_true rfl) (Nat.le_of_ble_eq_true rfl) (jEq (pc := 108) h dX13_layFew_108 rfl (k62) (cLa (pc := 111) h dX13_layFew_111 rfl (kCi (pc := 112) h (kd_X13_409 h dX13_layFew_112) spX13_isMore (by omega) (by decide) (by decide) (by decide) (jNe (pc := 115) h dX13_layFew_115 rfl (k62) (zV (pc := 118) h hm (Nat.le_refl _) dX13_layFew_118))))))))))))
set_option maxRecDepth 20000 in
theorem lX13_layFew_49 (G : qG Unit) (a1 : Int32) (a2 : Int32) (a3 : Int32) (a4 : Int32) (m : qM) : tX13_layFew_49 G (wX13_layFew_100 (fX13_layFew_100 G FU)) (wX13_layFew_62 (fX13_layFew_62 G)) [some (.ref 98), some (.int a1), some (.int a2), some (.int a3), some (.int a4), none, none, none] [] m = fX13_layFew_49 G a1 a2 a3 a4 m := rfl
theorem bX13_layFew_49 {C : qCx} {w : qWp} {dp dG : Nat} {G : qG Unit} (h : qOk C w RX13 cX13_layFew 8 dp 155 155) (hm : qMt C none) (hx : qNx C) (hG : qSpV yX13_layFew (.code yX13_layFew cX13_layFew 8 none) dG qfin 155 155 1 G) (hdG : dG + 1 ≤ dp) (hdp : 4 ≤ dp) : qSnd C w 8 155 (qQf C w 155 155 jV) qfin 155 92 (wX13_layFew_49 (fX13_layFew_49 G)) :=
  qSnd_of (fun lo st m x hr0 => by
    unfold wX13_layFew_49 at hr0
    split at hr0
    · exact ⟨_, (qsub_e (qsub_e (qsub_e (qsub_e (qsub_e (qsub_n (qsub_n (qsub_n qsub_nil)))))))), (lX13_layFew_49 _ _ _ _ _ _).trans hr0⟩
    · cases hr0) (sX13_layFew_49 h hm hx hG hdG hdp (bX13_layFew_100 h hm hx hG hdG hdp FU) (bX13_layFew_62 h hm hx hG hdG hdp))
noncomputable def tX13_layFew_48 (G : qG Unit) : qT (Unit × qM) :=
  eV
set_option maxRecDepth 20000 in
theorem sX13_layFew_48 {C : qCx} {w : qWp} {dp dG : Nat} {G : qG Unit} (h : qOk C w RX13 cX13_layFew 8 dp 155 155) (hm : qMt C none) (hx : qNx C) (hG : qSpV yX13_layFew (.code yX13_layFew cX13_layFew 8 none) dG qfin 155 155 1 G) (hdG : dG + 1 ≤ dp) (hdp : 4 ≤ dp) : qSnd C w 8 155 (qQf C w 155 155 jV) qfin 155 91 (tX13_layFew_48 G) :=
  zV (pc := 91) h hm (Nat.le_refl _) dX13_layFew_91
set_option maxRecDepth 20000 in
theorem lX13_layFew_48 (G : qG Unit) (m : qM) : tX13_layFew_48 G [none, none, none, none, none, none, none, none] [] m = fX13_layFew_48 G m := rfl
theorem bX13_layFew_48 {C : qCx} {w : qWp} {dp dG : Nat} {G : qG Unit} (h : qOk C w RX13 cX13_layFew 8 dp 155 155) (hm : qMt C none) (hx : qNx C) (hG : qSpV yX13_layFew (.code yX13_layFew cX13_layFew 8 none) dG qfin 155 155 1 G) (hdG : dG + 1 ≤ dp) (hdp : 4 ≤ dp) : qSnd C w 8 155 (qQf C w 155 155 jV) qfin 155 91 (wX13_layFew_48 (fX13_layFew_48 G)) :=
  qSnd_of (fun lo st m x hr0 => by
    unfold wX13_layFew_48 at hr0
    split at hr0
    · exact ⟨_, (qsub_n (qsub_n (qsub_n (qsub_n (qsub_n (qsub_n (qsub_n (qsub_n qsub_nil)))))))), (lX13_layFew_48 _ _).trans hr0⟩
    · cases hr0) (sX13_layFew_48 h hm hx hG hdG hdp)
noncomputable def tX13_layFew_0 (G : qG Unit) (j4 : qT (Unit × qM)) : qT (Unit × qM) :=
  oC (.int (0 : Int32)) (oSi 5 (oLi 1 (oSi 6 (j4))))
set_option maxRecDepth 20000 in
theorem sX13_layFew_0 {C : qCx} {w : qWp} {dp dG : Nat} {G : qG Unit} (h : qOk C w RX13 cX13_layFew 8 dp 155 155) (hm : qMt C none) (hx : qNx C) (hG : qSpV yX13_layFew (.code yX13_layFew cX13_layFew 8 none) dG qfin 155 155 1 G) (hdG : dG + 1 ≤ dp) (hdp : 4 ≤ dp) {j4 : qT (Unit × qM)} (k4 : qSnd C w 8 155 (qQf C w 155 155 jV) qfin 155 6 j4) : qSnd C w 8 155 (qQf C w 155 155 jV) qfin 155 0 (tX13_layFew_0 G j4) :=
  cC (pc := 0) h dX13_layFew_0 rfl (cSI (pc := 1) h dX13_layFew_1 (cLi (pc := 3) h dX13_layFew_3 rfl (cSI (pc := 4) h dX13_layFew_4 (k4))))
set_option maxRecDepth 20000 in
theorem lX13_layFew_0 (G : qG Unit) (a1 : Int32) (a2 : Int32) (a3 : Int32) (a4 : Int32) (m : qM) : tX13_layFew_0 G (wX13_layFew_4 (fX13_layFew_4 G (fX13_layFew_49 G) (fX13_layFew_48 G) FU)) [some (.ref 98), some (.int a1), some (.int a2), some (.int a3), some (.int a4), none, none, none] [] m = fX13_layFew_0 G a1 a2 a3 a4 m := rfl
theorem spX13_layFew : ∀ n : Nat, qSpV yX13_layFew (.code yX13_layFew cX13_layFew 8 none) (4 + n) qfin 155 155 1 (GX13_layFew n)
  | 0 => fun av m m2 hG => by cases hG
  | n + 1 => by
    have ih := spX13_layFew n
    intro av m m' hG
    unfold GX13_layFew at hG
    split at hG
    · rename_i a1 a2 a3 a4
      exact ⟨qmeet (J := jV) (r := ((), m')) (av := [.ref 98, .int a1, .int a2, .int a3, .int a4]) (by decide +kernel) (Nat.le_refl _) (fun C w h hm hx hn => sX13_layFew_0 h hm hx ih (Nat.le_refl _) (by omega) (bX13_layFew_4 h hm hx ih (Nat.le_refl _) (by omega) (bX13_layFew_49 h hm hx ih (Nat.le_refl _) (by omega)) (bX13_layFew_48 h hm hx ih (Nat.le_refl _) (by omega)) FU)) ((lX13_layFew_0 _ _ _ _ _ _).trans hG) (Nat.le_of_ble_eq_true rfl), Or.inl ⟨98, _, 13, _, _, rfl, by decide, rfl, qCk_13, rfl⟩⟩
    · cases hG
theorem dX13_layBest_0 : decode cX13_layBest 0 = .ok (.aload_n 0, 1) := by decide +kernel
theorem dX13_layBest_1 : decode cX13_layBest 1 = .ok (.iconst 0, 1) := by decide +kernel
theorem dX13_layBest_2 : decode cX13_layBest 2 = .ok (.putfield 397, 3) := by decide +kernel
theorem dX13_layBest_5 : decode cX13_layBest 5 = .ok (.aload_n 0, 1) := by decide +kernel
theorem dX13_layBest_6 : decode cX13_layBest 6 = .ok (.iconst 0, 1) := by decide +kernel
theorem dX13_layBest_7 : decode cX13_layBest 7 = .ok (.iload_n 1, 1) := by decide +kernel
theorem dX13_layBest_8 : decode cX13_layBest 8 = .ok (.iconst 0, 1) := by decide +kernel
theorem dX13_layBest_9 : decode cX13_layBest 9 = .ok (.iconst 0, 1) := by decide +kernel
theorem dX13_layBest_10 : decode cX13_layBest 10 = .ok (.invokevirtual 415, 3) := by decide +kernel
theorem dX13_layBest_13 : decode cX13_layBest 13 = .ok (.iconst 0, 1) := by decide +kernel
theorem dX13_layBest_14 : decode cX13_layBest 14 = .ok (.istore_n 2, 1) := by decide +kernel
theorem dX13_layBest_15 : decode cX13_layBest 15 = .ok (.iconst 0, 1) := by decide +kernel
theorem dX13_layBest_16 : decode cX13_layBest 16 = .ok (.istore_n 3, 1) := by decide +kernel
theorem dX13_layBest_17 : decode cX13_layBest 17 = .ok (.iload_n 3, 1) := by decide +kernel
theorem dX13_layBest_18 : decode cX13_layBest 18 = .ok (.aload_n 0, 1) := by decide +kernel
theorem dX13_layBest_19 : decode cX13_layBest 19 = .ok (.getfield 394, 3) := by decide +kernel
theorem dX13_layBest_22 : decode cX13_layBest 22 = .ok (.if_icmp .ge 44, 3) := by decide +kernel
theorem dX13_layBest_25 : decode cX13_layBest 25 = .ok (.aload_n 0, 1) := by decide +kernel
theorem dX13_layBest_26 : decode cX13_layBest 26 = .ok (.getfield 221, 3) := by decide +kernel
theorem dX13_layBest_29 : decode cX13_layBest 29 = .ok (.aload_n 0, 1) := by decide +kernel
theorem dX13_layBest_30 : decode cX13_layBest 30 = .ok (.getfield 232, 3) := by decide +kernel
theorem dX13_layBest_33 : decode cX13_layBest 33 = .ok (.iload_n 3, 1) := by decide +kernel
theorem dX13_layBest_34 : decode cX13_layBest 34 = .ok (.iaload, 1) := by decide +kernel
theorem dX13_layBest_35 : decode cX13_layBest 35 = .ok (.aload_n 0, 1) := by decide +kernel
theorem dX13_layBest_36 : decode cX13_layBest 36 = .ok (.getfield 235, 3) := by decide +kernel
theorem dX13_layBest_39 : decode cX13_layBest 39 = .ok (.iload_n 3, 1) := by decide +kernel
theorem dX13_layBest_40 : decode cX13_layBest 40 = .ok (.iaload, 1) := by decide +kernel
theorem dX13_layBest_41 : decode cX13_layBest 41 = .ok (.iastore, 1) := by decide +kernel
theorem dX13_layBest_42 : decode cX13_layBest 42 = .ok (.iload_n 2, 1) := by decide +kernel
theorem dX13_layBest_43 : decode cX13_layBest 43 = .ok (.aload_n 0, 1) := by decide +kernel
theorem dX13_layBest_44 : decode cX13_layBest 44 = .ok (.getfield 235, 3) := by decide +kernel
theorem dX13_layBest_47 : decode cX13_layBest 47 = .ok (.iload_n 3, 1) := by decide +kernel
theorem dX13_layBest_48 : decode cX13_layBest 48 = .ok (.iaload, 1) := by decide +kernel
theorem dX13_layBest_49 : decode cX13_layBest 49 = .ok (.iconst (-1), 1) := by decide +kernel
theorem dX13_layBest_50 : decode cX13_layBest 50 = .ok (.if_icmp .eq 7, 3) := by decide +kernel
theorem dX13_layBest_53 : decode cX13_layBest 53 = .ok (.iconst 1, 1) := by decide +kernel
theorem dX13_layBest_54 : decode cX13_layBest 54 = .ok (.goto 4, 3) := by decide +kernel
theorem dX13_layBest_57 : decode cX13_layBest 57 = .ok (.iconst 0, 1) := by decide +kernel
theorem dX13_layBest_58 : decode cX13_layBest 58 = .ok (.iadd, 1) := by decide +kernel
theorem dX13_layBest_59 : decode cX13_layBest 59 = .ok (.istore_n 2, 1) := by decide +kernel
theorem dX13_layBest_60 : decode cX13_layBest 60 = .ok (.iinc 3 1, 3) := by decide +kernel
theorem dX13_layBest_63 : decode cX13_layBest 63 = .ok (.goto (-46), 3) := by decide +kernel
theorem dX13_layBest_66 : decode cX13_layBest 66 = .ok (.iload_n 2, 1) := by decide +kernel
theorem dX13_layBest_67 : decode cX13_layBest 67 = .ok (.ireturn, 1) := by decide +kernel
noncomputable def tX13_layBest_38 (j13 : qT (Int32 × qM)) : qT (Int32 × qM) :=
  o2 (· + ·) (oSi 2 (oInc 3 (1 : Int32) (j13)))
noncomputable def wX13_layBest_38 (k : Int32 → Int32 → Int32 → qM → Option (Int32 × qM)) : qT (Int32 × qM) := fun lo st m => match lo, st with
  | [some (.ref 98), _, _, some (.int a3)], [.int s0, .int s1] => k a3 s0 s1 m
  | _, _ => none
noncomputable def wX13_layBest_13 (k : Int32 → Int32 → qM → Option (Int32 × qM)) : qT (Int32 × qM) := fun lo st m => match lo, st with
  | [some (.ref 98), _, some (.int a2), some (.int a3)], [] => k a2 a3 m
  | _, _ => none
set_option maxRecDepth 20000 in
theorem sX13_layBest_38 {C : qCx} {w : qWp} (h : qOk C w RX13 cX13_layBest 4 13 155 155) (hm : qMt C (some .int)) (hx : qNx C) {j13 : qT (Int32 × qM)} (k13 : qSnd C w 4 155 (qQf C w 155 155 jI) qfin 155 17 j13) : qSnd C w 4 155 (qQf C w 155 155 jI) qfin 155 58 (tX13_layBest_38 j13) :=
  aAdd (pc := 58) h dX13_layBest_58 (cSi (pc := 59) h dX13_layBest_59 rfl (cInc (pc := 60) h dX13_layBest_60 rfl (jGo (pc := 63) h dX13_layBest_63 rfl (k13))))
set_option maxRecDepth 20000 in
theorem lX13_layBest_38 (k13 : Int32 → Int32 → qM → Option (Int32 × qM)) (a3 : Int32) (s0 : Int32) (s1 : Int32) (m : qM) : tX13_layBest_38 (wX13_layBest_13 k13) [some (.ref 98), none, none, some (.int a3)] [(.int s0), (.int s1)] m = fX13_layBest_38 k13 a3 s0 s1 m := rfl
theorem bX13_layBest_38 {C : qCx} {w : qWp} (h : qOk C w RX13 cX13_layBest 4 13 155 155) (hm : qMt C (some .int)) (hx : qNx C) {k13 : Int32 → Int32 → qM → Option (Int32 × qM)} (h13 : qSnd C w 4 155 (qQf C w 155 155 jI) qfin 155 17 (wX13_layBest_13 k13)) : qSnd C w 4 155 (qQf C w 155 155 jI) qfin 155 58 (wX13_layBest_38 (fX13_layBest_38 k13)) :=
  qSnd_of (fun lo st m x hr0 => by
    unfold wX13_layBest_38 at hr0
    split at hr0
    · exact ⟨_, (qsub_e (qsub_n (qsub_n (qsub_e qsub_nil)))), (lX13_layBest_38 _ _ _ _ _).trans hr0⟩
    · cases hr0) (sX13_layBest_38 h hm hx h13)
noncomputable def tX13_layBest_13 (j38 : qT (Int32 × qM)) : qT (Int32 × qM) :=
  oLi 3 (oLa 0 (oGi 98 43 (oCGe (oLi 2 (eI)) (oLa 0 (oGf 98 36 125 (oLa 0 (oGf 98 40 129 (oLi 3 (oAi 129 4 (oLa 0 (oGf 98 41 130 (oLi 3 (oAi 130 4 (oWi 125 40 (oLi 2 (oLa 0 (oGf 98 41 130 (oLi 3 (oAi 130 4 (oC (.int (-1 : Int32)) (oCEq (oC (.int (0 : Int32)) (j38)) (oC (.int (1 : Int32)) (j38)))))))))))))))))))))))
set_option maxRecDepth 20000 in
theorem sX13_layBest_13 {C : qCx} {w : qWp} (h : qOk C w RX13 cX13_layBest 4 13 155 155) (hm : qMt C (some .int)) (hx : qNx C) {j38 : qT (Int32 × qM)} (k38 : qSnd C w 4 155 (qQf C w 155 155 jI) qfin 155 58 j38) : qSnd C w 4 155 (qQf C w 155 155 jI) qfin 155 17 (tX13_layBest_13 j38) :=
  cLi (pc := 17) h dX13_layBest_17 rfl (cLa (pc := 18) h dX13_layBest_18 rfl (gGi (pc := 19) h dX13_layBest_19 ff_X13_394_98 (Nat.le_of_ble_eq_true rfl) (Nat.le_of_ble_eq_true rfl) (jCGe (pc := 22) h dX13_layBest_22 rfl (cLi (pc := 66) h dX13_layBest_66 rfl (zI (pc := 67) h hm (Nat.le_refl _) dX13_layBest_67)) (cLa (pc := 25) h dX13_layBest_25 rfl (gGf (pc := 26) h dX13_layBest_26 ff_X13_221_98 (Nat.le_of_ble_eq_true rfl) (Nat.le_of_ble_eq_true rfl) rfl (cLa (pc := 29) h dX13_layBest_29 rfl (gGf (pc := 30) h dX13_layBest_30 ff_X13_232_98 (Nat.le_of_ble_eq_true rfl) (Nat.le_of_ble_eq_true rfl) rfl (cLi (pc := 33) h dX13_layBest_33 rfl (rAi (pc := 34) h dX13_layBest_34 rfl (Nat.le_of_ble_eq_true rfl) (Nat.le_of_ble_eq_true rfl) (cLa (pc := 35) h dX13_layBest_35 rfl (gGf (pc := 36) h dX13_layBest_36 ff_X13_235_98 (Nat.le_of_ble_eq_true rfl) (Nat.le_of_ble_eq_true rfl) rfl (cLi (pc := 39) h dX13_layBest_39 rfl (rAi (pc := 40) h dX13_layBest_40 rfl (Nat.le_of_ble_eq_true rfl) (Nat.le_of_ble_eq_true rfl) (rWi (pc := 41) h dX13_layBest_41 rfl (Nat.le_of_ble_eq_true rfl) (Nat.le_of_ble_eq_true rfl) (cLi (pc := 42) h dX13_layBest_42 rfl (cLa (pc := 43) h dX13_layBest_43 rfl (gGf (pc := 44) h dX13_layBest_44 ff_X13_235_98 (Nat.le_of_ble_eq_true rfl) (Nat.le_of_ble_eq_true rfl) rfl (cLi (pc := 47) h dX13_layBest_47 rfl (rAi (pc := 48) h dX13_layBest_48 rfl (Nat.le_of_ble_eq_true rfl) (Nat.le_of_ble_eq_true rfl) (cC (pc := 49) h dX13_layBest_49 rfl (jCEq (pc := 50) h dX13_layBest_50 rfl (cC (pc := 57) h dX13_layBest_57 rfl (k38)) (cC (pc := 53) h dX13_layBest_53 rfl (jGo (pc := 54) h dX13_layBest_54 rfl (k38))))))))))))))))))))))))
set_option maxRecDepth 20000 in
theorem lX13_layBest_13 (n : Nat) (a2 : Int32) (a3 : Int32) (m : qM) : tX13_layBest_13 (wX13_layBest_38 (fX13_layBest_38 (fX13_layBest_13 n))) [some (.ref 98), none, some (.int a2), some (.int a3)] [] m = fX13_layBest_13 (n + 1) a2 a3 m := rfl
theorem bX13_layBest_13 {C : qCx} {w : qWp} (h : qOk C w RX13 cX13_layBest 4 13 155 155) (hm : qMt C (some .int)) (hx : qNx C) : ∀ n : Nat, qSnd C w 4 155 (qQf C w 155 155 jI) qfin 155 17 (wX13_layBest_13 (fX13_layBest_13 n))
  | 0 => qSnd_of0 (fun lo st m x hr0 => by
    unfold wX13_layBest_13 at hr0
    split at hr0
    · cases hr0
    · cases hr0)
  | n + 1 => by
    have ih := bX13_layBest_13 h hm hx n
    exact qSnd_of (fun lo st m x hr0 => by
    unfold wX13_layBest_13 at hr0
    split at hr0
    · exact ⟨_, (qsub_e (qsub_n (qsub_e (qsub_e qsub_nil)))), (lX13_layBest_13 n _ _ _).trans hr0⟩
    · cases hr0) (sX13_layBest_13 h hm hx (bX13_layBest_38 h hm hx ih))
noncomputable def tX13_layBest_0 (j13 : qT (Int32 × qM)) : qT (Int32 × qM) :=
  oLa 0 (oC (.int (0 : Int32)) (oPz 98 46 (oLa 0 (oC (.int (0 : Int32)) (oLi 1 (oC (.int (0 : Int32)) (oC (.int (0 : Int32)) (oCv (GX13_layFew FG) 5 (oC (.int (0 : Int32)) (oSi 2 (oC (.int (0 : Int32)) (oSi 3 (j13)))))))))))))
set_option maxRecDepth 20000 in
theorem sX13_layBest_0 {C : qCx} {w : qWp} (h : qOk C w RX13 cX13_layBest 4 13 155 155) (hm : qMt C (some .int)) (hx : qNx C) {j13 : qT (Int32 × qM)} (k13 : qSnd C w 4 155 (qQf C w 155 155 jI) qfin 155 17 j13) : qSnd C w 4 155 (qQf C w 155 155 jI) qfin 155 0 (tX13_layBest_0 j13) :=
  cLa (pc := 0) h dX13_layBest_0 rfl (cC (pc := 1) h dX13_layBest_1 rfl (gPz (pc := 2) h dX13_layBest_2 ff_X13_397_98 (Or.inl rfl) (Nat.le_of_ble_eq_true rfl) (Nat.le_of_ble_eq_true rfl) (cLa (pc := 5) h dX13_layBest_5 rfl (cC (pc := 6) h dX13_layBest_6 rfl (cLi (pc := 7) h dX13_layBest_7 rfl (cC (pc := 8) h dX13_layBest_8 rfl (cC (pc := 9) h dX13_layBest_9 rfl (kCv (pc := 10) h (kd_X13_415 h dX13_layBest_10) (spX13_layFew FG) (by rw [FG_d]; decide) (by decide) (by decide) (by decide) (cC (pc := 13) h dX13_layBest_13 rfl (cSi (pc := 14) h dX13_layBest_14 rfl (cC (pc := 15) h dX13_layBest_15 rfl (cSi (pc := 16) h dX13_layBest_16 rfl (k13)))))))))))))
set_option maxRecDepth 20000 in
theorem lX13_layBest_0 (a1 : Int32) (m : qM) : tX13_layBest_0 (wX13_layBest_13 (fX13_layBest_13 FU)) [some (.ref 98), some (.int a1), none, none] [] m = fX13_layBest_0 a1 m := rfl
noncomputable def GX13_layBest : qG Int32 := fun av m => match av with
  | [.ref 98, .int a1] => fX13_layBest a1 m
  | _ => none
theorem spX13_layBest : qSpI yX13_layBest (.code yX13_layBest cX13_layBest 4 (some .int)) 13 qfin 155 155 1 GX13_layBest := by
  intro av m x m' hG
  unfold GX13_layBest at hG
  split at hG
  · rename_i a1
    rw [fX13_layBest_d] at hG
    exact ⟨qmeet (J := jI) (r := (x, m')) (av := [.ref 98, .int a1]) (by decide +kernel) (Nat.le_of_ble_eq_true rfl) (fun C w h hm hx hn => sX13_layBest_0 h hm hx (bX13_layBest_13 h hm hx FU)) ((lX13_layBest_0 _ _).trans hG) (Nat.le_of_ble_eq_true rfl), Or.inl ⟨98, _, 13, _, _, rfl, by decide, rfl, qCk_13, rfl⟩⟩
  · cases hG
theorem im_X13_layBest : Jvm.Cond.instanceMethod yX13_layBest ∈ qTw := qm8 (List.mem_of_getElem? (i := 198) (by decide +kernel)) (by decide +kernel)
theorem se_X13_layBest : Jvm.Cond.selects yX13_layBest.cls yX13_layBest yX13_layBest ∈ qTw := List.mem_filter.mpr ⟨List.mem_append_left _ (List.mem_of_getElem? (i := 59) (by decide +kernel)), rfl⟩
theorem co_X13_layBest : Jvm.Cond.code yX13_layBest cX13_layBest 4 (some .int) ∈ qTw := qm8 (List.mem_of_getElem? (i := 199) (by decide +kernel)) (by decide +kernel)
theorem yk_X13_layBest : qYk yX13_layBest 1 := ⟨⟨by decide +kernel, by decide +kernel⟩, by decide +kernel⟩
theorem ml_X13_419 : Jvm.Cond.methodLink RX13 419 yX13_layBest ∈ qTw := qm8 (List.mem_of_getElem? (i := 196) (by decide +kernel)) (by decide +kernel)
theorem kd_X13_419 {C : qCx} {w : qWp} {cc : ByteArray} {nL dp n0 n1 pc : Nat} (h : qOk C w RX13 cc nL dp n0 n1) (d : decode cc pc = .ok (.invokevirtual 419, 3)) : qCallOk C w nL dp n0 n1 pc 2 1 yX13_layBest (.code yX13_layBest cX13_layBest 4 (some .int)) := kindV h d ml_X13_419 im_X13_layBest se_X13_layBest in_ParentEveModel co_X13_layBest yk_X13_layBest (by decide)
theorem dX13_best_0 : decode cX13_best 0 = .ok (.iload_n 1, 1) := by decide +kernel
theorem dX13_best_1 : decode cX13_best 1 = .ok (.i2l, 1) := by decide +kernel
theorem dX13_best_2 : decode cX13_best 2 = .ok (.lconst 1, 1) := by decide +kernel
theorem dX13_best_3 : decode cX13_best 3 = .ok (.lconst 1, 1) := by decide +kernel
theorem dX13_best_4 : decode cX13_best 4 = .ok (.bipush 30, 2) := by decide +kernel
theorem dX13_best_6 : decode cX13_best 6 = .ok (.aload_n 0, 1) := by decide +kernel
theorem dX13_best_7 : decode cX13_best 7 = .ok (.getfield 313, 3) := by decide +kernel
theorem dX13_best_10 : decode cX13_best 10 = .ok (.invokestatic 382, 3) := by decide +kernel
theorem dX13_best_13 : decode cX13_best 13 = .ok (.lshl, 1) := by decide +kernel
theorem dX13_best_14 : decode cX13_best 14 = .ok (.lconst 1, 1) := by decide +kernel
theorem dX13_best_15 : decode cX13_best 15 = .ok (.lsub, 1) := by decide +kernel
theorem dX13_best_16 : decode cX13_best 16 = .ok (.invokestatic 66, 3) := by decide +kernel
theorem dX13_best_19 : decode cX13_best 19 = .ok (.ifCond .ne 6, 3) := by decide +kernel
theorem dX13_best_22 : decode cX13_best 22 = .ok (.bipush (-2), 2) := by decide +kernel
theorem dX13_best_24 : decode cX13_best 24 = .ok (.ireturn, 1) := by decide +kernel
theorem dX13_best_25 : decode cX13_best 25 = .ok (.iconst 0, 1) := by decide +kernel
theorem dX13_best_26 : decode cX13_best 26 = .ok (.istore_n 2, 1) := by decide +kernel
theorem dX13_best_27 : decode cX13_best 27 = .ok (.iconst 0, 1) := by decide +kernel
theorem dX13_best_28 : decode cX13_best 28 = .ok (.istore_n 3, 1) := by decide +kernel
theorem dX13_best_29 : decode cX13_best 29 = .ok (.iconst 0, 1) := by decide +kernel
theorem dX13_best_30 : decode cX13_best 30 = .ok (.istore 4, 2) := by decide +kernel
theorem dX13_best_32 : decode cX13_best 32 = .ok (.iload 4, 2) := by decide +kernel
theorem dX13_best_34 : decode cX13_best 34 = .ok (.bipush 30, 2) := by decide +kernel
theorem dX13_best_36 : decode cX13_best 36 = .ok (.if_icmp .ge 54, 3) := by decide +kernel
theorem dX13_best_39 : decode cX13_best 39 = .ok (.iload 4, 2) := by decide +kernel
theorem dX13_best_41 : decode cX13_best 41 = .ok (.aload_n 0, 1) := by decide +kernel
theorem dX13_best_42 : decode cX13_best 42 = .ok (.getfield 313, 3) := by decide +kernel
theorem dX13_best_45 : decode cX13_best 45 = .ok (.if_icmp .ge 45, 3) := by decide +kernel
theorem dX13_best_48 : decode cX13_best 48 = .ok (.iload_n 1, 1) := by decide +kernel
theorem dX13_best_49 : decode cX13_best 49 = .ok (.iload 4, 2) := by decide +kernel
theorem dX13_best_51 : decode cX13_best 51 = .ok (.ishr, 1) := by decide +kernel
theorem dX13_best_52 : decode cX13_best 52 = .ok (.iconst 1, 1) := by decide +kernel
theorem dX13_best_53 : decode cX13_best 53 = .ok (.iand, 1) := by decide +kernel
theorem dX13_best_54 : decode cX13_best 54 = .ok (.ifCond .ne 6, 3) := by decide +kernel
theorem dX13_best_57 : decode cX13_best 57 = .ok (.goto 27, 3) := by decide +kernel
theorem dX13_best_60 : decode cX13_best 60 = .ok (.iinc 2 1, 3) := by decide +kernel
theorem dX13_best_63 : decode cX13_best 63 = .ok (.iload_n 3, 1) := by decide +kernel
theorem dX13_best_64 : decode cX13_best 64 = .ok (.ifCond .ne 14, 3) := by decide +kernel
theorem dX13_best_67 : decode cX13_best 67 = .ok (.aload_n 0, 1) := by decide +kernel
theorem dX13_best_68 : decode cX13_best 68 = .ok (.getfield 221, 3) := by decide +kernel
theorem dX13_best_71 : decode cX13_best 71 = .ok (.iload 4, 2) := by decide +kernel
theorem dX13_best_73 : decode cX13_best 73 = .ok (.iaload, 1) := by decide +kernel
theorem dX13_best_74 : decode cX13_best 74 = .ok (.iconst (-1), 1) := by decide +kernel
theorem dX13_best_75 : decode cX13_best 75 = .ok (.if_icmp .eq 7, 3) := by decide +kernel
theorem dX13_best_78 : decode cX13_best 78 = .ok (.iconst 1, 1) := by decide +kernel
theorem dX13_best_79 : decode cX13_best 79 = .ok (.goto 4, 3) := by decide +kernel
theorem dX13_best_82 : decode cX13_best 82 = .ok (.iconst 0, 1) := by decide +kernel
theorem dX13_best_83 : decode cX13_best 83 = .ok (.istore_n 3, 1) := by decide +kernel
theorem dX13_best_84 : decode cX13_best 84 = .ok (.iinc 4 1, 3) := by decide +kernel
theorem dX13_best_87 : decode cX13_best 87 = .ok (.goto (-55), 3) := by decide +kernel
theorem dX13_best_90 : decode cX13_best 90 = .ok (.iload_n 2, 1) := by decide +kernel
theorem dX13_best_91 : decode cX13_best 91 = .ok (.iconst 4, 1) := by decide +kernel
theorem dX13_best_92 : decode cX13_best 92 = .ok (.if_icmp .le 6, 3) := by decide +kernel
theorem dX13_best_95 : decode cX13_best 95 = .ok (.bipush (-3), 2) := by decide +kernel
theorem dX13_best_97 : decode cX13_best 97 = .ok (.ireturn, 1) := by decide +kernel
theorem dX13_best_98 : decode cX13_best 98 = .ok (.iload_n 3, 1) := by decide +kernel
theorem dX13_best_99 : decode cX13_best 99 = .ok (.ifCond .ne 10, 3) := by decide +kernel
theorem dX13_best_102 : decode cX13_best 102 = .ok (.aload_n 0, 1) := by decide +kernel
theorem dX13_best_103 : decode cX13_best 103 = .ok (.getfield 316, 3) := by decide +kernel
theorem dX13_best_106 : decode cX13_best 106 = .ok (.ifCond .eq 6, 3) := by decide +kernel
theorem dX13_best_109 : decode cX13_best 109 = .ok (.bipush (-4), 2) := by decide +kernel
theorem dX13_best_111 : decode cX13_best 111 = .ok (.ireturn, 1) := by decide +kernel
theorem dX13_best_112 : decode cX13_best 112 = .ok (.aload_n 0, 1) := by decide +kernel
theorem dX13_best_113 : decode cX13_best 113 = .ok (.iconst 0, 1) := by decide +kernel
theorem dX13_best_114 : decode cX13_best 114 = .ok (.putfield 394, 3) := by decide +kernel
theorem dX13_best_117 : decode cX13_best 117 = .ok (.iconst 0, 1) := by decide +kernel
theorem dX13_best_118 : decode cX13_best 118 = .ok (.istore 4, 2) := by decide +kernel
theorem dX13_best_120 : decode cX13_best 120 = .ok (.iload 4, 2) := by decide +kernel
theorem dX13_best_122 : decode cX13_best 122 = .ok (.bipush 30, 2) := by decide +kernel
theorem dX13_best_124 : decode cX13_best 124 = .ok (.if_icmp .ge 51, 3) := by decide +kernel
theorem dX13_best_127 : decode cX13_best 127 = .ok (.iload 4, 2) := by decide +kernel
theorem dX13_best_129 : decode cX13_best 129 = .ok (.aload_n 0, 1) := by decide +kernel
theorem dX13_best_130 : decode cX13_best 130 = .ok (.getfield 313, 3) := by decide +kernel
theorem dX13_best_133 : decode cX13_best 133 = .ok (.if_icmp .ge 42, 3) := by decide +kernel
theorem dX13_best_136 : decode cX13_best 136 = .ok (.iload_n 1, 1) := by decide +kernel
theorem dX13_best_137 : decode cX13_best 137 = .ok (.iload 4, 2) := by decide +kernel
theorem dX13_best_139 : decode cX13_best 139 = .ok (.ishr, 1) := by decide +kernel
theorem dX13_best_140 : decode cX13_best 140 = .ok (.iconst 1, 1) := by decide +kernel
theorem dX13_best_141 : decode cX13_best 141 = .ok (.iand, 1) := by decide +kernel
theorem dX13_best_142 : decode cX13_best 142 = .ok (.ifCond .ne 6, 3) := by decide +kernel
theorem dX13_best_145 : decode cX13_best 145 = .ok (.goto 24, 3) := by decide +kernel
theorem dX13_best_148 : decode cX13_best 148 = .ok (.aload_n 0, 1) := by decide +kernel
theorem dX13_best_149 : decode cX13_best 149 = .ok (.getfield 232, 3) := by decide +kernel
theorem dX13_best_152 : decode cX13_best 152 = .ok (.aload_n 0, 1) := by decide +kernel
theorem dX13_best_153 : decode cX13_best 153 = .ok (.getfield 394, 3) := by decide +kernel
theorem dX13_best_156 : decode cX13_best 156 = .ok (.iload 4, 2) := by decide +kernel
theorem dX13_best_158 : decode cX13_best 158 = .ok (.iastore, 1) := by decide +kernel
theorem dX13_best_159 : decode cX13_best 159 = .ok (.aload_n 0, 1) := by decide +kernel
theorem dX13_best_160 : decode cX13_best 160 = .ok (.dup, 1) := by decide +kernel
theorem dX13_best_161 : decode cX13_best 161 = .ok (.getfield 394, 3) := by decide +kernel
theorem dX13_best_164 : decode cX13_best 164 = .ok (.iconst 1, 1) := by decide +kernel
theorem dX13_best_165 : decode cX13_best 165 = .ok (.iadd, 1) := by decide +kernel
theorem dX13_best_166 : decode cX13_best 166 = .ok (.putfield 394, 3) := by decide +kernel
theorem dX13_best_169 : decode cX13_best 169 = .ok (.iinc 4 1, 3) := by decide +kernel
theorem dX13_best_172 : decode cX13_best 172 = .ok (.goto (-52), 3) := by decide +kernel
theorem dX13_best_175 : decode cX13_best 175 = .ok (.aload_n 0, 1) := by decide +kernel
theorem dX13_best_176 : decode cX13_best 176 = .ok (.iconst 0, 1) := by decide +kernel
theorem dX13_best_177 : decode cX13_best 177 = .ok (.invokevirtual 419, 3) := by decide +kernel
theorem dX13_best_180 : decode cX13_best 180 = .ok (.ireturn, 1) := by decide +kernel
noncomputable def tX13_best_48 (j21 : qT (Int32 × qM)) : qT (Int32 × qM) :=
  oInc 4 (1 : Int32) (j21)
noncomputable def wX13_best_48 (k : Int32 → Int32 → Int32 → Int32 → qM → Option (Int32 × qM)) : qT (Int32 × qM) := fun lo st m => match lo, st with
  | [some (.ref 98), some (.int a1), some (.int a2), some (.int a3), some (.int a4)], [] => k a1 a2 a3 a4 m
  | _, _ => none
noncomputable def wX13_best_21 (k : Int32 → Int32 → Int32 → Int32 → qM → Option (Int32 × qM)) : qT (Int32 × qM) := fun lo st m => match lo, st with
  | [some (.ref 98), some (.int a1), some (.int a2), some (.int a3), some (.int a4)], [] => k a1 a2 a3 a4 m
  | _, _ => none
set_option maxRecDepth 20000 in
theorem sX13_best_48 {C : qCx} {w : qWp} (h : qOk C w RX13 cX13_best 5 14 155 155) (hm : qMt C (some .int)) (hx : qNx C) {j21 : qT (Int32 × qM)} (k21 : qSnd C w 5 155 (qQf C w 155 155 jI) qfin 155 32 j21) : qSnd C w 5 155 (qQf C w 155 155 jI) qfin 155 84 (tX13_best_48 j21) :=
  cInc (pc := 84) h dX13_best_84 rfl (jGo (pc := 87) h dX13_best_87 rfl (k21))
set_option maxRecDepth 20000 in
theorem lX13_best_48 (k21 : Int32 → Int32 → Int32 → Int32 → qM → Option (Int32 × qM)) (a1 : Int32) (a2 : Int32) (a3 : Int32) (a4 : Int32) (m : qM) : tX13_best_48 (wX13_best_21 k21) [some (.ref 98), some (.int a1), some (.int a2), some (.int a3), some (.int a4)] [] m = fX13_best_48 k21 a1 a2 a3 a4 m := rfl
theorem bX13_best_48 {C : qCx} {w : qWp} (h : qOk C w RX13 cX13_best 5 14 155 155) (hm : qMt C (some .int)) (hx : qNx C) {k21 : Int32 → Int32 → Int32 → Int32 → qM → Option (Int32 × qM)} (h21 : qSnd C w 5 155 (qQf C w 155 155 jI) qfin 155 32 (wX13_best_21 k21)) : qSnd C w 5 155 (qQf C w 155 155 jI) qfin 155 84 (wX13_best_48 (fX13_best_48 k21)) :=
  qSnd_of (fun lo st m x hr0 => by
    unfold wX13_best_48 at hr0
    split at hr0
    · exact ⟨_, (qsub_e (qsub_e (qsub_e (qsub_e (qsub_e qsub_nil))))), (lX13_best_48 _ _ _ _ _ _).trans hr0⟩
    · cases hr0) (sX13_best_48 h hm hx h21)
noncomputable def tX13_best_47 (j48 : qT (Int32 × qM)) : qT (Int32 × qM) :=
  oSi 3 (j48)
noncomputable def wX13_best_47 (k : Int32 → Int32 → Int32 → Int32 → qM → Option (Int32 × qM)) : qT (Int32 × qM) := fun lo st m => match lo, st with
  | [some (.ref 98), some (.int a1), some (.int a2), _, some (.int a4)], [.int s0] => k a1 a2 a4 s0 m
  | _, _ => none
set_option maxRecDepth 20000 in
theorem sX13_best_47 {C : qCx} {w : qWp} (h : qOk C w RX13 cX13_best 5 14 155 155) (hm : qMt C (some .int)) (hx : qNx C) {j48 : qT (Int32 × qM)} (k48 : qSnd C w 5 155 (qQf C w 155 155 jI) qfin 155 84 j48) : qSnd C w 5 155 (qQf C w 155 155 jI) qfin 155 83 (tX13_best_47 j48) :=
  cSi (pc := 83) h dX13_best_83 rfl (k48)
set_option maxRecDepth 20000 in
theorem lX13_best_47 (k21 : Int32 → Int32 → Int32 → Int32 → qM → Option (Int32 × qM)) (a1 : Int32) (a2 : Int32) (a4 : Int32) (s0 : Int32) (m : qM) : tX13_best_47 (wX13_best_48 (fX13_best_48 k21)) [some (.ref 98), some (.int a1), some (.int a2), none, some (.int a4)] [(.int s0)] m = fX13_best_47 k21 a1 a2 a4 s0 m := rfl
theorem bX13_best_47 {C : qCx} {w : qWp} (h : qOk C w RX13 cX13_best 5 14 155 155) (hm : qMt C (some .int)) (hx : qNx C) {k21 : Int32 → Int32 → Int32 → Int32 → qM → Option (Int32 × qM)} (h21 : qSnd C w 5 155 (qQf C w 155 155 jI) qfin 155 32 (wX13_best_21 k21)) : qSnd C w 5 155 (qQf C w 155 155 jI) qfin 155 83 (wX13_best_47 (fX13_best_47 k21)) :=
  qSnd_of (fun lo st m x hr0 => by
    unfold wX13_best_47 at hr0
    split at hr0
    · exact ⟨_, (qsub_e (qsub_e (qsub_e (qsub_n (qsub_e qsub_nil))))), (lX13_best_47 _ _ _ _ _ _).trans hr0⟩
    · cases hr0) (sX13_best_47 h hm hx (bX13_best_48 h hm hx h21))
noncomputable def tX13_best_44 (j47 : qT (Int32 × qM)) : qT (Int32 × qM) :=
  oC (.int (1 : Int32)) (j47)
noncomputable def wX13_best_44 (k : Int32 → Int32 → Int32 → qM → Option (Int32 × qM)) : qT (Int32 × qM) := fun lo st m => match lo, st with
  | [some (.ref 98), some (.int a1), some (.int a2), _, some (.int a4)], [] => k a1 a2 a4 m
  | _, _ => none
set_option maxRecDepth 20000 in
theorem sX13_best_44 {C : qCx} {w : qWp} (h : qOk C w RX13 cX13_best 5 14 155 155) (hm : qMt C (some .int)) (hx : qNx C) {j47 : qT (Int32 × qM)} (k47 : qSnd C w 5 155 (qQf C w 155 155 jI) qfin 155 83 j47) : qSnd C w 5 155 (qQf C w 155 155 jI) qfin 155 78 (tX13_best_44 j47) :=
  cC (pc := 78) h dX13_best_78 rfl (jGo (pc := 79) h dX13_best_79 rfl (k47))
set_option maxRecDepth 20000 in
theorem lX13_best_44 (k21 : Int32 → Int32 → Int32 → Int32 → qM → Option (Int32 × qM)) (a1 : Int32) (a2 : Int32) (a4 : Int32) (m : qM) : tX13_best_44 (wX13_best_47 (fX13_best_47 k21)) [some (.ref 98), some (.int a1), some (.int a2), none, some (.int a4)] [] m = fX13_best_44 k21 a1 a2 a4 m := rfl
theorem bX13_best_44 {C : qCx} {w : qWp} (h : qOk C w RX13 cX13_best 5 14 155 155) (hm : qMt C (some .int)) (hx : qNx C) {k21 : Int32 → Int32 → Int32 → Int32 → qM → Option (Int32 × qM)} (h21 : qSnd C w 5 155 (qQf C w 155 155 jI) qfin 155 32 (wX13_best_21 k21)) : qSnd C w 5 155 (qQf C w 155 155 jI) qfin 155 78 (wX13_best_44 (fX13_best_44 k21)) :=
  qSnd_of (fun lo st m x hr0 => by
    unfold wX13_best_44 at hr0
    split at hr0
    · exact ⟨_, (qsub_e (qsub_e (qsub_e (qsub_n (qsub_e qsub_nil))))), (lX13_best_44 _ _ _ _ _).trans hr0⟩
    · cases hr0) (sX13_best_44 h hm hx (bX13_best_47 h hm hx h21))
noncomputable def tX13_best_21 (j50 : qT (Int32 × qM)) (j44 : qT (Int32 × qM)) (j47 : qT (Int32 × qM)) (j48 : qT (Int32 × qM)) : qT (Int32 × qM) :=
  oLi 4 (oC (.int (30 : Int32)) (oCGe (j50) (oLi 4 (oLa 0 (oGi 98 32 (oCGe (j50) (oLi 1 (oLi 4 (o2 (fun x y => x >>> (y &&& 31)) (oC (.int (1 : Int32)) (o2 (· &&& ·) (oEq (j48) (oInc 2 (1 : Int32) (oLi 3 (oEq (oLa 0 (oGf 98 36 125 (oLi 4 (oAi 125 40 (oC (.int (-1 : Int32)) (oCEq (oC (.int (0 : Int32)) (j47)) (j44))))))) (j44))))))))))))))))
noncomputable def wX13_best_50 (k : Int32 → Int32 → Int32 → qM → Option (Int32 × qM)) : qT (Int32 × qM) := fun lo st m => match lo, st with
  | [some (.ref 98), some (.int a1), some (.int a2), some (.int a3), _], [] => k a1 a2 a3 m
  | _, _ => none
set_option maxRecDepth 20000 in
theorem sX13_best_21 {C : qCx} {w : qWp} (h : qOk C w RX13 cX13_best 5 14 155 155) (hm : qMt C (some .int)) (hx : qNx C) {j50 : qT (Int32 × qM)} {j44 : qT (Int32 × qM)} {j47 : qT (Int32 × qM)} {j48 : qT (Int32 × qM)} (k50 : qSnd C w 5 155 (qQf C w 155 155 jI) qfin 155 90 j50) (k44 : qSnd C w 5 155 (qQf C w 155 155 jI) qfin 155 78 j44) (k47 : qSnd C w 5 155 (qQf C w 155 155 jI) qfin 155 83 j47) (k48 : qSnd C w 5 155 (qQf C w 155 155 jI) qfin 155 84 j48) : qSnd C w 5 155 (qQf C w 155 155 jI) qfin 155 32 (tX13_best_21 j50 j44 j47 j48) :=
  cLI (pc := 32) h dX13_best_32 (cB (pc := 34) h dX13_best_34 rfl (jCGe (pc := 36) h dX13_best_36 rfl (k50) (cLI (pc := 39) h dX13_best_39 (cLa (pc := 41) h dX13_best_41 rfl (gGi (pc := 42) h dX13_best_42 ff_X13_313_98 (Nat.le_of_ble_eq_true rfl) (Nat.le_of_ble_eq_true rfl) (jCGe (pc := 45) h dX13_best_45 rfl (k50) (cLi (pc := 48) h dX13_best_48 rfl (cLI (pc := 49) h dX13_best_49 (aShr (pc := 51) h dX13_best_51 (cC (pc := 52) h dX13_best_52 rfl (aAnd (pc := 53) h dX13_best_53 (jNe (pc := 54) h dX13_best_54 rfl (cInc (pc := 60) h dX13_best_60 rfl (cLi (pc := 63) h dX13_best_63 rfl (jNe (pc := 64) h dX13_best_64 rfl (k44) (cLa (pc := 67) h dX13_best_67 rfl (gGf (pc := 68) h dX13_best_68 ff_X13_221_98 (Nat.le_of_ble_eq_true rfl) (Nat.le_of_ble_eq_true rfl) rfl (cLI (pc := 71) h dX13_best_71 (rAi (pc := 73) h dX13_best_73 rfl (Nat.le_of_ble_eq_true rfl) (Nat.le_of_ble_eq_true rfl) (cC (pc := 74) h dX13_best_74 rfl (jCEq (pc := 75) h dX13_best_75 rfl (cC (pc := 82) h dX13_best_82 rfl (k47)) (k44)))))))))) (jGo (pc := 57) h dX13_best_57 rfl (k48))))))))))))))
set_option maxRecDepth 20000 in
theorem lX13_best_21 (k50 : Int32 → Int32 → Int32 → qM → Option (Int32 × qM)) (n : Nat) (a1 : Int32) (a2 : Int32) (a3 : Int32) (a4 : Int32) (m : qM) : tX13_best_21 (wX13_best_50 k50) (wX13_best_44 (fX13_best_44 (fX13_best_21 k50 n))) (wX13_best_47 (fX13_best_47 (fX13_best_21 k50 n))) (wX13_best_48 (fX13_best_48 (fX13_best_21 k50 n))) [some (.ref 98), some (.int a1), some (.int a2), some (.int a3), some (.int a4)] [] m = fX13_best_21 k50 (n + 1) a1 a2 a3 a4 m := rfl
theorem bX13_best_21 {C : qCx} {w : qWp} (h : qOk C w RX13 cX13_best 5 14 155 155) (hm : qMt C (some .int)) (hx : qNx C) {k50 : Int32 → Int32 → Int32 → qM → Option (Int32 × qM)} (h50 : qSnd C w 5 155 (qQf C w 155 155 jI) qfin 155 90 (wX13_best_50 k50)) : ∀ n : Nat, qSnd C w 5 155 (qQf C w 155 155 jI) qfin 155 32 (wX13_best_21 (fX13_best_21 k50 n))
  | 0 => qSnd_of0 (fun lo st m x hr0 => by
    unfold wX13_best_21 at hr0
    split at hr0
    · cases hr0
    · cases hr0)
  | n + 1 => by
    have ih := bX13_best_21 h hm hx h50 n
    exact qSnd_of (fun lo st m x hr0 => by
    unfold wX13_best_21 at hr0
    split at hr0
    · exact ⟨_, (qsub_e (qsub_e (qsub_e (qsub_e (qsub_e qsub_nil))))), (lX13_best_21 _ n _ _ _ _ _).trans hr0⟩
    · cases hr0) (sX13_best_21 h hm hx h50 (bX13_best_44 h hm hx ih) (bX13_best_47 h hm hx ih) (bX13_best_48 h hm hx ih))
noncomputable def tX13_best_60 : qT (Int32 × qM) :=
  oC (.int (-4 : Int32)) (eI)
noncomputable def wX13_best_60 (k : qM → Option (Int32 × qM)) : qT (Int32 × qM) := fun lo st m => match lo, st with
  | [_, _, _, _, _], [] => k m
  | _, _ => none
set_option maxRecDepth 20000 in
theorem sX13_best_60 {C : qCx} {w : qWp} (h : qOk C w RX13 cX13_best 5 14 155 155) (hm : qMt C (some .int)) (hx : qNx C) : qSnd C w 5 155 (qQf C w 155 155 jI) qfin 155 109 (tX13_best_60) :=
  cB (pc := 109) h dX13_best_109 rfl (zI (pc := 111) h hm (Nat.le_refl _) dX13_best_111)
set_option maxRecDepth 20000 in
theorem lX13_best_60 (m : qM) : tX13_best_60 [none, none, none, none, none] [] m = fX13_best_60 m := rfl
theorem bX13_best_60 {C : qCx} {w : qWp} (h : qOk C w RX13 cX13_best 5 14 155 155) (hm : qMt C (some .int)) (hx : qNx C) : qSnd C w 5 155 (qQf C w 155 155 jI) qfin 155 109 (wX13_best_60 fX13_best_60) :=
  qSnd_of (fun lo st m x hr0 => by
    unfold wX13_best_60 at hr0
    split at hr0
    · exact ⟨_, (qsub_n (qsub_n (qsub_n (qsub_n (qsub_n qsub_nil))))), (lX13_best_60 _).trans hr0⟩
    · cases hr0) (sX13_best_60 h hm hx)
noncomputable def tX13_best_93 (j67 : qT (Int32 × qM)) : qT (Int32 × qM) :=
  oInc 4 (1 : Int32) (j67)
noncomputable def wX13_best_93 (k : Int32 → Int32 → qM → Option (Int32 × qM)) : qT (Int32 × qM) := fun lo st m => match lo, st with
  | [some (.ref 98), some (.int a1), _, _, some (.int a4)], [] => k a1 a4 m
  | _, _ => none
noncomputable def wX13_best_67 (k : Int32 → Int32 → qM → Option (Int32 × qM)) : qT (Int32 × qM) := fun lo st m => match lo, st with
  | [some (.ref 98), some (.int a1), _, _, some (.int a4)], [] => k a1 a4 m
  | _, _ => none
set_option maxRecDepth 20000 in
theorem sX13_best_93 {C : qCx} {w : qWp} (h : qOk C w RX13 cX13_best 5 14 155 155) (hm : qMt C (some .int)) (hx : qNx C) {j67 : qT (Int32 × qM)} (k67 : qSnd C w 5 155 (qQf C w 155 155 jI) qfin 155 120 j67) : qSnd C w 5 155 (qQf C w 155 155 jI) qfin 155 169 (tX13_best_93 j67) :=
  cInc (pc := 169) h dX13_best_169 rfl (jGo (pc := 172) h dX13_best_172 rfl (k67))
set_option maxRecDepth 20000 in
theorem lX13_best_93 (k67 : Int32 → Int32 → qM → Option (Int32 × qM)) (a1 : Int32) (a4 : Int32) (m : qM) : tX13_best_93 (wX13_best_67 k67) [some (.ref 98), some (.int a1), none, none, some (.int a4)] [] m = fX13_best_93 k67 a1 a4 m := rfl
theorem bX13_best_93 {C : qCx} {w : qWp} (h : qOk C w RX13 cX13_best 5 14 155 155) (hm : qMt C (some .int)) (hx : qNx C) {k67 : Int32 → Int32 → qM → Option (Int32 × qM)} (h67 : qSnd C w 5 155 (qQf C w 155 155 jI) qfin 155 120 (wX13_best_67 k67)) : qSnd C w 5 155 (qQf C w 155 155 jI) qfin 155 169 (wX13_best_93 (fX13_best_93 k67)) :=
  qSnd_of (fun lo st m x hr0 => by
    unfold wX13_best_93 at hr0
    split at hr0
    · exact ⟨_, (qsub_e (qsub_e (qsub_n (qsub_n (qsub_e qsub_nil))))), (lX13_best_93 _ _ _ _).trans hr0⟩
    · cases hr0) (sX13_best_93 h hm hx h67)
noncomputable def tX13_best_67 (j95 : qT (Int32 × qM)) (j93 : qT (Int32 × qM)) : qT (Int32 × qM) :=
  oLi 4 (oC (.int (30 : Int32)) (oCGe (j95) (oLi 4 (oLa 0 (oGi 98 32 (oCGe (j95) (oLi 1 (oLi 4 (o2 (fun x y => x >>> (y &&& 31)) (oC (.int (1 : Int32)) (o2 (· &&& ·) (oEq (j93) (oLa 0 (oGf 98 40 129 (oLa 0 (oGi 98 43 (oLi 4 (oWi 129 4 (oLa 0 (oDup (oGi 98 43 (oC (.int (1 : Int32)) (o2 (· + ·) (oPi 98 43 (j93)))))))))))))))))))))))))
noncomputable def wX13_best_95 (k : qM → Option (Int32 × qM)) : qT (Int32 × qM) := fun lo st m => match lo, st with
  | [some (.ref 98), _, _, _, _], [] => k m
  | _, _ => none
set_option maxRecDepth 20000 in
theorem sX13_best_67 {C : qCx} {w : qWp} (h : qOk C w RX13 cX13_best 5 14 155 155) (hm : qMt C (some .int)) (hx : qNx C) {j95 : qT (Int32 × qM)} {j93 : qT (Int32 × qM)} (k95 : qSnd C w 5 155 (qQf C w 155 155 jI) qfin 155 175 j95) (k93 : qSnd C w 5 155 (qQf C w 155 155 jI) qfin 155 169 j93) : qSnd C w 5 155 (qQf C w 155 155 jI) qfin 155 120 (tX13_best_67 j95 j93) :=
  cLI (pc := 120) h dX13_best_120 (cB (pc := 122) h dX13_best_122 rfl (jCGe (pc := 124) h dX13_best_124 rfl (k95) (cLI (pc := 127) h dX13_best_127 (cLa (pc := 129) h dX13_best_129 rfl (gGi (pc := 130) h dX13_best_130 ff_X13_313_98 (Nat.le_of_ble_eq_true rfl) (Nat.le_of_ble_eq_true rfl) (jCGe (pc := 133) h dX13_best_133 rfl (k95) (cLi (pc := 136) h dX13_best_136 rfl (cLI (pc := 137) h dX13_best_137 (aShr (pc := 139) h dX13_best_139 (cC (pc := 140) h dX13_best_140 rfl (aAnd (pc := 141) h dX13_best_141 (jNe (pc := 142) h dX13_best_142 rfl (cLa (pc := 148) h dX13_best_148 rfl (gGf (pc := 149) h dX13_best_149 ff_X13_232_98 (Nat.le_of_ble_eq_true rfl) (Nat.le_of_ble_eq_true rfl) rfl (cLa (pc := 152) h dX13_best_152 rfl (gGi (pc := 153) h dX13_best_153 ff_X13_394_98 (Nat.le_of_ble_eq_true rfl) (Nat.le_of_ble_eq_true rfl) (cLI (pc := 156) h dX13_best_156 (rWi (pc := 158) h dX13_best_158 rfl (Nat.le_of_ble_eq_true rfl) (Nat.le_of_ble_eq_true rfl) (cLa (pc := 159) h dX13_best_159 rfl (aDup (pc := 160) h dX13_best_160 (gGi (pc := 161) h dX13_best_161 ff_X13_394_98 (Nat.le_of_ble_eq_true rfl) (Nat.le_of_ble_eq_true rfl) (cC (pc := 164) h dX13_best_164 rfl (aAdd (pc := 165) h dX13_best_165 (gPi (pc := 166) h dX13_best_166 ff_X13_394_98 (Or.inl rfl) (Nat.le_of_ble_eq_true rfl) (Nat.le_of_ble_eq_true rfl) (k93))))))))))))) (jGo (pc := 145) h dX13_best_145 rfl (k93))))))))))))))
set_option maxRecDepth 20000 in
theorem lX13_best_67 (k95 : qM → Option (Int32 × qM)) (n : Nat) (a1 : Int32) (a4 : Int32) (m : qM) : tX13_best_67 (wX13_best_95 k95) (wX13_best_93 (fX13_best_93 (fX13_best_67 k95 n))) [some (.ref 98), some (.int a1), none, none, some (.int a4)] [] m = fX13_best_67 k95 (n + 1) a1 a4 m := rfl
theorem bX13_best_67 {C : qCx} {w : qWp} (h : qOk C w RX13 cX13_best 5 14 155 155) (hm : qMt C (some .int)) (hx : qNx C) {k95 : qM → Option (Int32 × qM)} (h95 : qSnd C w 5 155 (qQf C w 155 155 jI) qfin 155 175 (wX13_best_95 k95)) : ∀ n : Nat, qSnd C w 5 155 (qQf C w 155 155 jI) qfin 155 120 (wX13_best_67 (fX13_best_67 k95 n))
  | 0 => qSnd_of0 (fun lo st m x hr0 => by
    unfold wX13_best_67 at hr0
    split at hr0
    · cases hr0
    · cases hr0)
  | n + 1 => by
    have ih := bX13_best_67 h hm hx h95 n
    exact qSnd_of (fun lo st m x hr0 => by
    unfold wX13_best_67 at hr0
    split at hr0
    · exact ⟨_, (qsub_e (qsub_e (qsub_n (qsub_n (qsub_e qsub_nil))))), (lX13_best_67 _ n _ _ _).trans hr0⟩
    · cases hr0) (sX13_best_67 h hm hx h95 (bX13_best_93 h hm hx ih))
noncomputable def tX13_best_95 : qT (Int32 × qM) :=
  oLa 0 (oC (.int (0 : Int32)) (oCi GX13_layBest 2 (eI)))
set_option maxRecDepth 20000 in
theorem sX13_best_95 {C : qCx} {w : qWp} (h : qOk C w RX13 cX13_best 5 14 155 155) (hm : qMt C (some .int)) (hx : qNx C) : qSnd C w 5 155 (qQf C w 155 155 jI) qfin 155 175 (tX13_best_95) :=
  cLa (pc := 175) h dX13_best_175 rfl (cC (pc := 176) h dX13_best_176 rfl (kCi (pc := 177) h (kd_X13_419 h dX13_best_177) spX13_layBest (by decide) (by decide) (by decide) (by decide) (zI (pc := 180) h hm (Nat.le_refl _) dX13_best_180)))
set_option maxRecDepth 20000 in
theorem lX13_best_95 (m : qM) : tX13_best_95 [some (.ref 98), none, none, none, none] [] m = fX13_best_95 m := rfl
theorem bX13_best_95 {C : qCx} {w : qWp} (h : qOk C w RX13 cX13_best 5 14 155 155) (hm : qMt C (some .int)) (hx : qNx C) : qSnd C w 5 155 (qQf C w 155 155 jI) qfin 155 175 (wX13_best_95 fX13_best_95) :=
  qSnd_of (fun lo st m x hr0 => by
    unfold wX13_best_95 at hr0
    split at hr0
    · exact ⟨_, (qsub_e (qsub_n (qsub_n (qsub_n (qsub_n qsub_nil))))), (lX13_best_95 _).trans hr0⟩
    · cases hr0) (sX13_best_95 h hm hx)
noncomputable def tX13_best_50 (j60 : qT (Int32 × qM)) (j67 : qT (Int32 × qM)) : qT (Int32 × qM) :=
  oLi 2 (oC (.int (4 : Int32)) (oCLe (oLi 3 (oEq (oLa 0 (oGi 98 33 (oEq (oLa 0 (oC (.int (0 : Int32)) (oPi 98 43 (oC (.int (0 : Int32)) (oSi 4 (j67)))))) (j60)))) (j60))) (oC (.int (-3 : Int32)) (eI))))
set_option maxRecDepth 20000 in
theorem sX13_best_50 {C : qCx} {w : qWp} (h : qOk C w RX13 cX13_best 5 14 155 155) (hm : qMt C (some .int)) (hx : qNx C) {j60 : qT (Int32 × qM)} {j67 : qT (Int32 × qM)} (k60 : qSnd C w 5 155 (qQf C w 155 155 jI) qfin 155 109 j60) (k67 : qSnd C w 5 155 (qQf C w 155 155 jI) qfin 155 120 j67) : qSnd C w 5 155 (qQf C w 155 155 jI) qfin 155 90 (tX13_best_50 j60 j67) :=
  cLi (pc := 90) h dX13_best_90 rfl (cC (pc := 91) h dX13_best_91 rfl (jCLe (pc := 92) h dX13_best_92 rfl (cLi (pc := 98) h dX13_best_98 rfl (jNe (pc := 99) h dX13_best_99 rfl (k60) (cLa (pc := 102) h dX13_best_102 rfl (gGz (pc := 103) h dX13_best_103 ff_X13_316_98 (Nat.le_of_ble_eq_true rfl) (Nat.le_of_ble_eq_true rfl) (jEq (pc := 106) h dX13_best_106 rfl (cLa (pc := 112) h dX13_best_112 rfl (cC (pc := 113) h dX13_best_113 rfl (gPi (pc := 114) h dX13_best_114 ff_X13_394_98 (Or.inl rfl) (Nat.le_of_ble_eq_true rfl) (Nat.le_of_ble_eq_true rfl) (cC (pc := 117) h dX13_best_117 rfl (cSI (pc := 118) h dX13_best_118 (k67)))))) (k60)))))) (cB (pc := 95) h dX13_best_95 rfl (zI (pc := 97) h hm (Nat.le_refl _) dX13_best_97))))
set_option maxRecDepth 20000 in
theorem lX13_best_50 (a1 : Int32) (a2 : Int32) (a3 : Int32) (m : qM) : tX13_best_50 (wX13_best_60 fX13_best_60) (wX13_best_67 (fX13_best_67 fX13_best_95 FU)) [some (.ref 98), some (.int a1), some (.int a2), some (.int a3), none] [] m = fX13_best_50 a1 a2 a3 m := rfl
theorem bX13_best_50 {C : qCx} {w : qWp} (h : qOk C w RX13 cX13_best 5 14 155 155) (hm : qMt C (some .int)) (hx : qNx C) : qSnd C w 5 155 (qQf C w 155 155 jI) qfin 155 90 (wX13_best_50 fX13_best_50) :=
  qSnd_of (fun lo st m x hr0 => by
    unfold wX13_best_50 at hr0
    split at hr0
    · exact ⟨_, (qsub_e (qsub_e (qsub_e (qsub_e (qsub_n qsub_nil))))), (lX13_best_50 _ _ _ _).trans hr0⟩
    · cases hr0) (sX13_best_50 h hm hx (bX13_best_60 h hm hx) (bX13_best_67 h hm hx (bX13_best_95 h hm hx) FU))
noncomputable def tX13_best_0 (j21 : qT (Int32 × qM)) : qT (Int32 × qM) :=
  oLi 1 (oI2l (oC (.long (1 : Int64)) (oC (.long (1 : Int64)) (oC (.int (30 : Int32)) (oLa 0 (oGi 98 32 (oCi GJ9_min_7cf53 2 (oLshl (oC (.long (1 : Int64)) (oJJ (· - ·) (oCi GX13_in 3 (oEq (oC (.int (-2 : Int32)) (eI)) (oC (.int (0 : Int32)) (oSi 2 (oC (.int (0 : Int32)) (oSi 3 (oC (.int (0 : Int32)) (oSi 4 (j21)))))))))))))))))))
set_option maxRecDepth 20000 in
theorem sX13_best_0 {C : qCx} {w : qWp} (h : qOk C w RX13 cX13_best 5 14 155 155) (hm : qMt C (some .int)) (hx : qNx C) {j21 : qT (Int32 × qM)} (k21 : qSnd C w 5 155 (qQf C w 155 155 jI) qfin 155 32 j21) : qSnd C w 5 155 (qQf C w 155 155 jI) qfin 155 0 (tX13_best_0 j21) :=
  cLi (pc := 0) h dX13_best_0 rfl (aI2l (pc := 1) h dX13_best_1 (cJ (pc := 2) h dX13_best_2 rfl (cJ (pc := 3) h dX13_best_3 rfl (cB (pc := 4) h dX13_best_4 rfl (cLa (pc := 6) h dX13_best_6 rfl (gGi (pc := 7) h dX13_best_7 ff_X13_313_98 (Nat.le_of_ble_eq_true rfl) (Nat.le_of_ble_eq_true rfl) (kCi (pc := 10) h (kd_X13_382 h dX13_best_10) spJ9_min_7cf53 (by decide) (by decide) (by decide) (by decide) (aLshl (pc := 13) h dX13_best_13 (cJ (pc := 14) h dX13_best_14 rfl (aLsub (pc := 15) h dX13_best_15 (kCi (pc := 16) h (kd_X13_66 h dX13_best_16) spX13_in (by decide) (by decide) (by decide) (by decide) (jNe (pc := 19) h dX13_best_19 rfl (cC (pc := 25) h dX13_best_25 rfl (cSi (pc := 26) h dX13_best_26 rfl (cC (pc := 27) h dX13_best_27 rfl (cSi (pc := 28) h dX13_best_28 rfl (cC (pc := 29) h dX13_best_29 rfl (cSI (pc := 30) h dX13_best_30 (k21))))))) (cB (pc := 22) h dX13_best_22 rfl (zI (pc := 24) h hm (Nat.le_refl _) dX13_best_24))))))))))))))
set_option maxRecDepth 20000 in
theorem lX13_best_0 (a1 : Int32) (m : qM) : tX13_best_0 (wX13_best_21 (fX13_best_21 fX13_best_50 FU)) [some (.ref 98), some (.int a1), none, none, none] [] m = fX13_best_0 a1 m := rfl
noncomputable def GX13_best : qG Int32 := fun av m => match av with
  | [.ref 98, .int a1] => fX13_best a1 m
  | _ => none
theorem spX13_best : qSpI yX13_best (.code yX13_best cX13_best 5 (some .int)) 14 qfin 155 155 1 GX13_best := by
  intro av m x m' hG
  unfold GX13_best at hG
  split at hG
  · rename_i a1
    rw [fX13_best_d] at hG
    exact ⟨qmeet (J := jI) (r := (x, m')) (av := [.ref 98, .int a1]) (by decide +kernel) (Nat.le_of_ble_eq_true rfl) (fun C w h hm hx hn => sX13_best_0 h hm hx (bX13_best_21 h hm hx (bX13_best_50 h hm hx) FU)) ((lX13_best_0 _ _).trans hG) (Nat.le_of_ble_eq_true rfl), Or.inl ⟨98, _, 13, _, _, rfl, by decide, rfl, qCk_13, rfl⟩⟩
  · cases hG
theorem mf_X13_422 : Jvm.Cond.fieldLink RX13 422 (qTb 13 47).1 (qTb 13 47).2.1 (qTb 13 47).2.2.1 ∈ qTw := qm7 (List.mem_of_getElem? (i := 25) (by decide +kernel)) (by decide +kernel)
theorem ff_X13_422_98 : qFd RX13 422 98 13 47 0 := ⟨mf_X13_422, rfl, by decide, rfl⟩
theorem mf_X13_425 : Jvm.Cond.fieldLink RX13 425 (qTb 13 48).1 (qTb 13 48).2.1 (qTb 13 48).2.2.1 ∈ qTw := qm7 (List.mem_of_getElem? (i := 26) (by decide +kernel)) (by decide +kernel)
theorem ff_X13_425_98 : qFd RX13 425 98 13 48 0 := ⟨mf_X13_425, rfl, by decide, rfl⟩
theorem mf_X13_428 : Jvm.Cond.fieldLink RX13 428 (qTb 13 49).1 (qTb 13 49).2.1 (qTb 13 49).2.2.1 ∈ qTw := qm7 (List.mem_of_getElem? (i := 27) (by decide +kernel)) (by decide +kernel)
theorem ff_X13_428_98 : qFd RX13 428 98 13 49 0 := ⟨mf_X13_428, rfl, by decide, rfl⟩
theorem dX13_judge_0 : decode cX13_judge 0 = .ok (.aload_n 0, 1) := by decide +kernel
theorem dX13_judge_1 : decode cX13_judge 1 = .ok (.invokevirtual 406, 3) := by decide +kernel
theorem dX13_judge_4 : decode cX13_judge 4 = .ok (.aload_n 0, 1) := by decide +kernel
theorem dX13_judge_5 : decode cX13_judge 5 = .ok (.invokevirtual 409, 3) := by decide +kernel
theorem dX13_judge_8 : decode cX13_judge 8 = .ok (.ifCond .ne 4, 3) := by decide +kernel
theorem dX13_judge_11 : decode cX13_judge 11 = .ok (.return_, 1) := by decide +kernel
theorem dX13_judge_12 : decode cX13_judge 12 = .ok (.aload_n 0, 1) := by decide +kernel
theorem dX13_judge_13 : decode cX13_judge 13 = .ok (.invokevirtual 412, 3) := by decide +kernel
theorem dX13_judge_16 : decode cX13_judge 16 = .ok (.aload_n 0, 1) := by decide +kernel
theorem dX13_judge_17 : decode cX13_judge 17 = .ok (.iload_n 1, 1) := by decide +kernel
theorem dX13_judge_18 : decode cX13_judge 18 = .ok (.putfield 422, 3) := by decide +kernel
theorem dX13_judge_21 : decode cX13_judge 21 = .ok (.aload_n 0, 1) := by decide +kernel
theorem dX13_judge_22 : decode cX13_judge 22 = .ok (.iload_n 2, 1) := by decide +kernel
theorem dX13_judge_23 : decode cX13_judge 23 = .ok (.putfield 425, 3) := by decide +kernel
theorem dX13_judge_26 : decode cX13_judge 26 = .ok (.aload_n 0, 1) := by decide +kernel
theorem dX13_judge_27 : decode cX13_judge 27 = .ok (.iload_n 3, 1) := by decide +kernel
theorem dX13_judge_28 : decode cX13_judge 28 = .ok (.putfield 428, 3) := by decide +kernel
theorem dX13_judge_31 : decode cX13_judge 31 = .ok (.return_, 1) := by decide +kernel
noncomputable def tX13_judge_0 : qT (Unit × qM) :=
  oLa 0 (oCv GX13_valueNow 1 (oLa 0 (oCi GX13_isMore 1 (oEq (eV) (oLa 0 (oCv GX13_keepValue 1 (oLa 0 (oLi 1 (oPi 98 47 (oLa 0 (oLi 2 (oPi 98 48 (oLa 0 (oLi 3 (oPi 98 49 (eV))))))))))))))))
set_option maxRecDepth 20000 in
theorem sX13_judge_0 {C : qCx} {w : qWp} (h : qOk C w RX13 cX13_judge 4 4 155 155) (hm : qMt C none) (hx : qNx C) : qSnd C w 4 155 (qQf C w 155 155 jV) qfin 155 0 (tX13_judge_0) :=
  cLa (pc := 0) h dX13_judge_0 rfl (kCv (pc := 1) h (kd_X13_406 h dX13_judge_1) spX13_valueNow (by decide) (by decide) (by decide) (by decide) (cLa (pc := 4) h dX13_judge_4 rfl (kCi (pc := 5) h (kd_X13_409 h dX13_judge_5) spX13_isMore (by decide) (by decide) (by decide) (by decide) (jNe (pc := 8) h dX13_judge_8 rfl (cLa (pc := 12) h dX13_judge_12 rfl (kCv (pc := 13) h (kd_X13_412 h dX13_judge_13) spX13_keepValue (by decide) (by decide) (by decide) (by decide) (cLa (pc := 16) h dX13_judge_16 rfl (cLi (pc := 17) h dX13_judge_17 rfl (gPi (pc := 18) h dX13_judge_18 ff_X13_422_98 (Or.inl rfl) (Nat.le_of_ble_eq_true rfl) (Nat.le_of_ble_eq_true rfl) (cLa (pc := 21) h dX13_judge_21 rfl (cLi (pc := 22) h dX13_judge_22 rfl (gPi (pc := 23) h dX13_judge_23 ff_X13_425_98 (Or.inl rfl) (Nat.le_of_ble_eq_true rfl) (Nat.le_of_ble_eq_true rfl) (cLa (pc := 26) h dX13_judge_26 rfl (cLi (pc := 27) h dX13_judge_27 rfl (gPi (pc := 28) h dX13_judge_28 ff_X13_428_98 (Or.inl rfl) (Nat.le_of_ble_eq_true rfl) (Nat.le_of_ble_eq_true rfl) (zV (pc := 31) h hm (Nat.le_refl _) dX13_judge_31)))))))))))) (zV (pc := 11) h hm (Nat.le_refl _) dX13_judge_11)))))
set_option maxRecDepth 20000 in
theorem lX13_judge_0 (a1 : Int32) (a2 : Int32) (a3 : Int32) (m : qM) : tX13_judge_0 [some (.ref 98), some (.int a1), some (.int a2), some (.int a3)] [] m = fX13_judge_0 a1 a2 a3 m := rfl
noncomputable def GX13_judge : qG Unit := fun av m => match av with
  | [.ref 98, .int a1, .int a2, .int a3] => fX13_judge a1 a2 a3 m
  | _ => none
theorem spX13_judge : qSpV yX13_judge (.code yX13_judge cX13_judge 4 none) 4 qfin 155 155 1 GX13_judge := by
  intro av m m' hG
  unfold GX13_judge at hG
  split at hG
  · rename_i a1 a2 a3
    rw [fX13_judge_d] at hG
    exact ⟨qmeet (J := jV) (r := ((), m')) (av := [.ref 98, .int a1, .int a2, .int a3]) (by decide +kernel) (Nat.le_of_ble_eq_true rfl) (fun C w h hm hx hn => sX13_judge_0 h hm hx) ((lX13_judge_0 _ _ _ _).trans hG) (Nat.le_of_ble_eq_true rfl), Or.inl ⟨98, _, 13, _, _, rfl, by decide, rfl, qCk_13, rfl⟩⟩
  · cases hG
theorem im_X13_judge : Jvm.Cond.instanceMethod yX13_judge ∈ qTw := qm8 (List.mem_of_getElem? (i := 226) (by decide +kernel)) (by decide +kernel)
theorem se_X13_judge : Jvm.Cond.selects yX13_judge.cls yX13_judge yX13_judge ∈ qTw := List.mem_filter.mpr ⟨List.mem_append_left _ (List.mem_of_getElem? (i := 65) (by decide +kernel)), rfl⟩
theorem co_X13_judge : Jvm.Cond.code yX13_judge cX13_judge 4 none ∈ qTw := qm8 (List.mem_of_getElem? (i := 227) (by decide +kernel)) (by decide +kernel)
theorem yk_X13_judge : qYk yX13_judge 3 := ⟨⟨by decide +kernel, by decide +kernel⟩, by decide +kernel⟩
theorem ml_X13_431 : Jvm.Cond.methodLink RX13 431 yX13_judge ∈ qTw := qm8 (List.mem_of_getElem? (i := 224) (by decide +kernel)) (by decide +kernel)
theorem kd_X13_431 {C : qCx} {w : qWp} {cc : ByteArray} {nL dp n0 n1 pc : Nat} (h : qOk C w RX13 cc nL dp n0 n1) (d : decode cc pc = .ok (.invokevirtual 431, 3)) : qCallOk C w nL dp n0 n1 pc 4 1 yX13_judge (.code yX13_judge cX13_judge 4 none) := kindV h d ml_X13_431 im_X13_judge se_X13_judge in_ParentEveModel co_X13_judge yk_X13_judge (by decide)
theorem dX13_tryMoves_0 : decode cX13_tryMoves 0 = .ok (.iconst 0, 1) := by decide +kernel
theorem dX13_tryMoves_1 : decode cX13_tryMoves 1 = .ok (.istore_n 2, 1) := by decide +kernel
theorem dX13_tryMoves_2 : decode cX13_tryMoves 2 = .ok (.iload_n 2, 1) := by decide +kernel
theorem dX13_tryMoves_3 : decode cX13_tryMoves 3 = .ok (.aload_n 0, 1) := by decide +kernel
theorem dX13_tryMoves_4 : decode cX13_tryMoves 4 = .ok (.getfield 313, 3) := by decide +kernel
theorem dX13_tryMoves_7 : decode cX13_tryMoves 7 = .ok (.if_icmp .ge 105, 3) := by decide +kernel
theorem dX13_tryMoves_10 : decode cX13_tryMoves 10 = .ok (.aload_n 0, 1) := by decide +kernel
theorem dX13_tryMoves_11 : decode cX13_tryMoves 11 = .ok (.getfield 221, 3) := by decide +kernel
theorem dX13_tryMoves_14 : decode cX13_tryMoves 14 = .ok (.iload_n 2, 1) := by decide +kernel
theorem dX13_tryMoves_15 : decode cX13_tryMoves 15 = .ok (.iaload, 1) := by decide +kernel
theorem dX13_tryMoves_16 : decode cX13_tryMoves 16 = .ok (.istore_n 3, 1) := by decide +kernel
theorem dX13_tryMoves_17 : decode cX13_tryMoves 17 = .ok (.iload_n 3, 1) := by decide +kernel
theorem dX13_tryMoves_18 : decode cX13_tryMoves 18 = .ok (.iconst (-1), 1) := by decide +kernel
theorem dX13_tryMoves_19 : decode cX13_tryMoves 19 = .ok (.if_icmp .eq 7, 3) := by decide +kernel
theorem dX13_tryMoves_22 : decode cX13_tryMoves 22 = .ok (.iconst 1, 1) := by decide +kernel
theorem dX13_tryMoves_23 : decode cX13_tryMoves 23 = .ok (.goto 4, 3) := by decide +kernel
theorem dX13_tryMoves_26 : decode cX13_tryMoves 26 = .ok (.iconst 0, 1) := by decide +kernel
theorem dX13_tryMoves_27 : decode cX13_tryMoves 27 = .ok (.iload_n 1, 1) := by decide +kernel
theorem dX13_tryMoves_28 : decode cX13_tryMoves 28 = .ok (.if_icmp .eq 6, 3) := by decide +kernel
theorem dX13_tryMoves_31 : decode cX13_tryMoves 31 = .ok (.goto 75, 3) := by decide +kernel
theorem dX13_tryMoves_34 : decode cX13_tryMoves 34 = .ok (.aload_n 0, 1) := by decide +kernel
theorem dX13_tryMoves_35 : decode cX13_tryMoves 35 = .ok (.getfield 221, 3) := by decide +kernel
theorem dX13_tryMoves_38 : decode cX13_tryMoves 38 = .ok (.iload_n 2, 1) := by decide +kernel
theorem dX13_tryMoves_39 : decode cX13_tryMoves 39 = .ok (.iconst (-1), 1) := by decide +kernel
theorem dX13_tryMoves_40 : decode cX13_tryMoves 40 = .ok (.iastore, 1) := by decide +kernel
theorem dX13_tryMoves_41 : decode cX13_tryMoves 41 = .ok (.iconst 0, 1) := by decide +kernel
theorem dX13_tryMoves_42 : decode cX13_tryMoves 42 = .ok (.istore 4, 2) := by decide +kernel
theorem dX13_tryMoves_44 : decode cX13_tryMoves 44 = .ok (.iload 4, 2) := by decide +kernel
theorem dX13_tryMoves_46 : decode cX13_tryMoves 46 = .ok (.bipush 20, 2) := by decide +kernel
theorem dX13_tryMoves_48 : decode cX13_tryMoves 48 = .ok (.if_icmp .ge 51, 3) := by decide +kernel
theorem dX13_tryMoves_51 : decode cX13_tryMoves 51 = .ok (.iload 4, 2) := by decide +kernel
theorem dX13_tryMoves_53 : decode cX13_tryMoves 53 = .ok (.iload_n 3, 1) := by decide +kernel
theorem dX13_tryMoves_54 : decode cX13_tryMoves 54 = .ok (.if_icmp .eq 39, 3) := by decide +kernel
theorem dX13_tryMoves_57 : decode cX13_tryMoves 57 = .ok (.aload_n 0, 1) := by decide +kernel
theorem dX13_tryMoves_58 : decode cX13_tryMoves 58 = .ok (.iload_n 2, 1) := by decide +kernel
theorem dX13_tryMoves_59 : decode cX13_tryMoves 59 = .ok (.iload 4, 2) := by decide +kernel
theorem dX13_tryMoves_61 : decode cX13_tryMoves 61 = .ok (.invokevirtual 375, 3) := by decide +kernel
theorem dX13_tryMoves_64 : decode cX13_tryMoves 64 = .ok (.ifCond .ne 6, 3) := by decide +kernel
theorem dX13_tryMoves_67 : decode cX13_tryMoves 67 = .ok (.goto 26, 3) := by decide +kernel
theorem dX13_tryMoves_70 : decode cX13_tryMoves 70 = .ok (.aload_n 0, 1) := by decide +kernel
theorem dX13_tryMoves_71 : decode cX13_tryMoves 71 = .ok (.getfield 221, 3) := by decide +kernel
theorem dX13_tryMoves_74 : decode cX13_tryMoves 74 = .ok (.iload_n 2, 1) := by decide +kernel
theorem dX13_tryMoves_75 : decode cX13_tryMoves 75 = .ok (.iload 4, 2) := by decide +kernel
theorem dX13_tryMoves_77 : decode cX13_tryMoves 77 = .ok (.iastore, 1) := by decide +kernel
theorem dX13_tryMoves_78 : decode cX13_tryMoves 78 = .ok (.aload_n 0, 1) := by decide +kernel
theorem dX13_tryMoves_79 : decode cX13_tryMoves 79 = .ok (.iload_n 2, 1) := by decide +kernel
theorem dX13_tryMoves_80 : decode cX13_tryMoves 80 = .ok (.iconst (-1), 1) := by decide +kernel
theorem dX13_tryMoves_81 : decode cX13_tryMoves 81 = .ok (.iload 4, 2) := by decide +kernel
theorem dX13_tryMoves_83 : decode cX13_tryMoves 83 = .ok (.invokevirtual 431, 3) := by decide +kernel
theorem dX13_tryMoves_86 : decode cX13_tryMoves 86 = .ok (.aload_n 0, 1) := by decide +kernel
theorem dX13_tryMoves_87 : decode cX13_tryMoves 87 = .ok (.getfield 221, 3) := by decide +kernel
theorem dX13_tryMoves_90 : decode cX13_tryMoves 90 = .ok (.iload_n 2, 1) := by decide +kernel
theorem dX13_tryMoves_91 : decode cX13_tryMoves 91 = .ok (.iconst (-1), 1) := by decide +kernel
theorem dX13_tryMoves_92 : decode cX13_tryMoves 92 = .ok (.iastore, 1) := by decide +kernel
theorem dX13_tryMoves_93 : decode cX13_tryMoves 93 = .ok (.iinc 4 1, 3) := by decide +kernel
theorem dX13_tryMoves_96 : decode cX13_tryMoves 96 = .ok (.goto (-52), 3) := by decide +kernel
theorem dX13_tryMoves_99 : decode cX13_tryMoves 99 = .ok (.aload_n 0, 1) := by decide +kernel
theorem dX13_tryMoves_100 : decode cX13_tryMoves 100 = .ok (.getfield 221, 3) := by decide +kernel
theorem dX13_tryMoves_103 : decode cX13_tryMoves 103 = .ok (.iload_n 2, 1) := by decide +kernel
theorem dX13_tryMoves_104 : decode cX13_tryMoves 104 = .ok (.iload_n 3, 1) := by decide +kernel
theorem dX13_tryMoves_105 : decode cX13_tryMoves 105 = .ok (.iastore, 1) := by decide +kernel
theorem dX13_tryMoves_106 : decode cX13_tryMoves 106 = .ok (.iinc 2 1, 3) := by decide +kernel
theorem dX13_tryMoves_109 : decode cX13_tryMoves 109 = .ok (.goto (-107), 3) := by decide +kernel
theorem dX13_tryMoves_112 : decode cX13_tryMoves 112 = .ok (.return_, 1) := by decide +kernel
noncomputable def tX13_tryMoves_54 (j27 : qT (Unit × qM)) : qT (Unit × qM) :=
  oInc 4 (1 : Int32) (j27)
noncomputable def wX13_tryMoves_54 (k : Int32 → Int32 → Int32 → Int32 → qM → Option (Unit × qM)) : qT (Unit × qM) := fun lo st m => match lo, st with
  | [some (.ref 98), some (.int a1), some (.int a2), some (.int a3), some (.int a4)], [] => k a1 a2 a3 a4 m
  | _, _ => none
noncomputable def wX13_tryMoves_27 (k : Int32 → Int32 → Int32 → Int32 → qM → Option (Unit × qM)) : qT (Unit × qM) := fun lo st m => match lo, st with
  | [some (.ref 98), some (.int a1), some (.int a2), some (.int a3), some (.int a4)], [] => k a1 a2 a3 a4 m
  | _, _ => none
set_option maxRecDepth 20000 in
theorem sX13_tryMoves_54 {C : qCx} {w : qWp} (h : qOk C w RX13 cX13_tryMoves 5 5 155 155) (hm : qMt C none) (hx : qNx C) {j27 : qT (Unit × qM)} (k27 : qSnd C w 5 155 (qQf C w 155 155 jV) qfin 155 44 j27) : qSnd C w 5 155 (qQf C w 155 155 jV) qfin 155 93 (tX13_tryMoves_54 j27) :=
  cInc (pc := 93) h dX13_tryMoves_93 rfl (jGo (pc := 96) h dX13_tryMoves_96 rfl (k27))
set_option maxRecDepth 20000 in
theorem lX13_tryMoves_54 (k27 : Int32 → Int32 → Int32 → Int32 → qM → Option (Unit × qM)) (a1 : Int32) (a2 : Int32) (a3 : Int32) (a4 : Int32) (m : qM) : tX13_tryMoves_54 (wX13_tryMoves_27 k27) [some (.ref 98), some (.int a1), some (.int a2), some (.int a3), some (.int a4)] [] m = fX13_tryMoves_54 k27 a1 a2 a3 a4 m := rfl
theorem bX13_tryMoves_54 {C : qCx} {w : qWp} (h : qOk C w RX13 cX13_tryMoves 5 5 155 155) (hm : qMt C none) (hx : qNx C) {k27 : Int32 → Int32 → Int32 → Int32 → qM → Option (Unit × qM)} (h27 : qSnd C w 5 155 (qQf C w 155 155 jV) qfin 155 44 (wX13_tryMoves_27 k27)) : qSnd C w 5 155 (qQf C w 155 155 jV) qfin 155 93 (wX13_tryMoves_54 (fX13_tryMoves_54 k27)) :=
  qSnd_of (fun lo st m x hr0 => by
    unfold wX13_tryMoves_54 at hr0
    split at hr0
    · exact ⟨_, (qsub_e (qsub_e (qsub_e (qsub_e (qsub_e qsub_nil))))), (lX13_tryMoves_54 _ _ _ _ _ _).trans hr0⟩
    · cases hr0) (sX13_tryMoves_54 h hm hx h27)
noncomputable def tX13_tryMoves_27 (j61 : qT (Unit × qM)) (j54 : qT (Unit × qM)) : qT (Unit × qM) :=
  oLi 4 (oC (.int (20 : Int32)) (oCGe (oLa 0 (oGf 98 36 125 (oLi 2 (oLi 3 (oWi 125 40 (j61)))))) (oLi 4 (oLi 3 (oCEq (j54) (oLa 0 (oLi 2 (oLi 4 (oCi GX13_mayBe 3 (oEq (j54) (oLa 0 (oGf 98 36 125 (oLi 2 (oLi 4 (oWi 125 40 (oLa 0 (oLi 2 (oC (.int (-1 : Int32)) (oLi 4 (oCv GX13_judge 4 (oLa 0 (oGf 98 36 125 (oLi 2 (oC (.int (-1 : Int32)) (oWi 125 40 (j54))))))))))))))))))))))))))
noncomputable def wX13_tryMoves_61 (k : Int32 → Int32 → qM → Option (Unit × qM)) : qT (Unit × qM) := fun lo st m => match lo, st with
  | [some (.ref 98), some (.int a1), some (.int a2), _, _], [] => k a1 a2 m
  | _, _ => none
set_option maxRecDepth 20000 in
theorem sX13_tryMoves_27 {C : qCx} {w : qWp} (h : qOk C w RX13 cX13_tryMoves 5 5 155 155) (hm : qMt C none) (hx : qNx C) {j61 : qT (Unit × qM)} {j54 : qT (Unit × qM)} (k61 : qSnd C w 5 155 (qQf C w 155 155 jV) qfin 155 106 j61) (k54 : qSnd C w 5 155 (qQf C w 155 155 jV) qfin 155 93 j54) : qSnd C w 5 155 (qQf C w 155 155 jV) qfin 155 44 (tX13_tryMoves_27 j61 j54) :=
  cLI (pc := 44) h dX13_tryMoves_44 (cB (pc := 46) h dX13_tryMoves_46 rfl (jCGe (pc := 48) h dX13_tryMoves_48 rfl (cLa (pc := 99) h dX13_tryMoves_99 rfl (gGf (pc := 100) h dX13_tryMoves_100 ff_X13_221_98 (Nat.le_of_ble_eq_true rfl) (Nat.le_of_ble_eq_true rfl) rfl (cLi (pc := 103) h dX13_tryMoves_103 rfl (cLi (pc := 104) h dX13_tryMoves_104 rfl (rWi (pc := 105) h dX13_tryMoves_105 rfl (Nat.le_of_ble_eq_true rfl) (Nat.le_of_ble_eq_true rfl) (k61)))))) (cLI (pc := 51) h dX13_tryMoves_51 (cLi (pc := 53) h dX13_tryMoves_53 rfl (jCEq (pc := 54) h dX13_tryMoves_54 rfl (k54) (cLa (pc := 57) h dX13_tryMoves_57 rfl (cLi (pc := 58) h dX13_tryMoves_58 rfl (cLI (pc := 59) h dX13_tryMoves_59 (kCi (pc := 61) h (kd_X13_375 h dX13_tryMoves_61) spX13_mayBe (by decide) (by decide) (by decide) (by decide) (jNe (pc := 64) h dX13_tryMoves_64 rfl (cLa (pc := 70) h dX13_tryMoves_70 rfl (gGf (pc := 71) h dX13_tryMoves_71 ff_X13_221_98 (Nat.le_of_ble_eq_true rfl) (Nat.le_of_ble_eq_true rfl) rfl (cLi (pc := 74) h dX13_tryMoves_74 rfl (cLI (pc := 75) h dX13_tryMoves_75 (rWi (pc := 77) h dX13_tryMoves_77 rfl (Nat.le_of_ble_eq_true rfl) (Nat.le_of_ble_eq_true rfl) (cLa (pc := 78) h dX13_tryMoves_78 rfl (cLi (pc := 79) h dX13_tryMoves_79 rfl (cC (pc := 80) h dX13_tryMoves_80 rfl (cLI (pc := 81) h dX13_tryMoves_81 (kCv (pc := 83) h (kd_X13_431 h dX13_tryMoves_83) spX13_judge (by decide) (by decide) (by decide) (by decide) (cLa (pc := 86) h dX13_tryMoves_86 rfl (gGf (pc := 87) h dX13_tryMoves_87 ff_X13_221_98 (Nat.le_of_ble_eq_true rfl) (Nat.le_of_ble_eq_true rfl) rfl (cLi (pc := 90) h dX13_tryMoves_90 rfl (cC (pc := 91) h dX13_tryMoves_91 rfl (rWi (pc := 92) h dX13_tryMoves_92 rfl (Nat.le_of_ble_eq_true rfl) (Nat.le_of_ble_eq_true rfl) (k54)))))))))))))))) (jGo (pc := 67) h dX13_tryMoves_67 rfl (k54))))))))))))
set_option maxRecDepth 20000 in
theorem lX13_tryMoves_27 (k61 : Int32 → Int32 → qM → Option (Unit × qM)) (n : Nat) (a1 : Int32) (a2 : Int32) (a3 : Int32) (a4 : Int32) (m : qM) : tX13_tryMoves_27 (wX13_tryMoves_61 k61) (wX13_tryMoves_54 (fX13_tryMoves_54 (fX13_tryMoves_27 k61 n))) [some (.ref 98), some (.int a1), some (.int a2), some (.int a3), some (.int a4)] [] m = fX13_tryMoves_27 k61 (n + 1) a1 a2 a3 a4 m := rfl
theorem bX13_tryMoves_27 {C : qCx} {w : qWp} (h : qOk C w RX13 cX13_tryMoves 5 5 155 155) (hm : qMt C none) (hx : qNx C) {k61 : Int32 → Int32 → qM → Option (Unit × qM)} (h61 : qSnd C w 5 155 (qQf C w 155 155 jV) qfin 155 106 (wX13_tryMoves_61 k61)) : ∀ n : Nat, qSnd C w 5 155 (qQf C w 155 155 jV) qfin 155 44 (wX13_tryMoves_27 (fX13_tryMoves_27 k61 n))
  | 0 => qSnd_of0 (fun lo st m x hr0 => by
    unfold wX13_tryMoves_27 at hr0
    split at hr0
    · cases hr0
    · cases hr0)
  | n + 1 => by
    have ih := bX13_tryMoves_27 h hm hx h61 n
    exact qSnd_of (fun lo st m x hr0 => by
    unfold wX13_tryMoves_27 at hr0
    split at hr0
    · exact ⟨_, (qsub_e (qsub_e (qsub_e (qsub_e (qsub_e qsub_nil))))), (lX13_tryMoves_27 _ n _ _ _ _ _).trans hr0⟩
    · cases hr0) (sX13_tryMoves_27 h hm hx h61 (bX13_tryMoves_54 h hm hx ih))
noncomputable def tX13_tryMoves_61 (j2 : qT (Unit × qM)) : qT (Unit × qM) :=
  oInc 2 (1 : Int32) (j2)
noncomputable def wX13_tryMoves_2 (k : Int32 → Int32 → qM → Option (Unit × qM)) : qT (Unit × qM) := fun lo st m => match lo, st with
  | [some (.ref 98), some (.int a1), some (.int a2), _, _], [] => k a1 a2 m
  | _, _ => none
set_option maxRecDepth 20000 in
theorem sX13_tryMoves_61 {C : qCx} {w : qWp} (h : qOk C w RX13 cX13_tryMoves 5 5 155 155) (hm : qMt C none) (hx : qNx C) {j2 : qT (Unit × qM)} (k2 : qSnd C w 5 155 (qQf C w 155 155 jV) qfin 155 2 j2) : qSnd C w 5 155 (qQf C w 155 155 jV) qfin 155 106 (tX13_tryMoves_61 j2) :=
  cInc (pc := 106) h dX13_tryMoves_106 rfl (jGo (pc := 109) h dX13_tryMoves_109 rfl (k2))
set_option maxRecDepth 20000 in
theorem lX13_tryMoves_61 (k2 : Int32 → Int32 → qM → Option (Unit × qM)) (a1 : Int32) (a2 : Int32) (m : qM) : tX13_tryMoves_61 (wX13_tryMoves_2 k2) [some (.ref 98), some (.int a1), some (.int a2), none, none] [] m = fX13_tryMoves_61 k2 a1 a2 m := rfl
theorem bX13_tryMoves_61 {C : qCx} {w : qWp} (h : qOk C w RX13 cX13_tryMoves 5 5 155 155) (hm : qMt C none) (hx : qNx C) {k2 : Int32 → Int32 → qM → Option (Unit × qM)} (h2 : qSnd C w 5 155 (qQf C w 155 155 jV) qfin 155 2 (wX13_tryMoves_2 k2)) : qSnd C w 5 155 (qQf C w 155 155 jV) qfin 155 106 (wX13_tryMoves_61 (fX13_tryMoves_61 k2)) :=
  qSnd_of (fun lo st m x hr0 => by
    unfold wX13_tryMoves_61 at hr0
    split at hr0
    · exact ⟨_, (qsub_e (qsub_e (qsub_e (qsub_n (qsub_n qsub_nil))))), (lX13_tryMoves_61 _ _ _ _).trans hr0⟩
    · cases hr0) (sX13_tryMoves_61 h hm hx h2)
noncomputable def tX13_tryMoves_17 (j27 : qT (Unit × qM)) (j61 : qT (Unit × qM)) : qT (Unit × qM) :=
  oLi 1 (oCEq (oLa 0 (oGf 98 36 125 (oLi 2 (oC (.int (-1 : Int32)) (oWi 125 40 (oC (.int (0 : Int32)) (oSi 4 (j27)))))))) (j61))
noncomputable def wX13_tryMoves_17 (k : Int32 → Int32 → Int32 → Int32 → qM → Option (Unit × qM)) : qT (Unit × qM) := fun lo st m => match lo, st with
  | [some (.ref 98), some (.int a1), some (.int a2), some (.int a3), _], [.int s0] => k a1 a2 a3 s0 m
  | _, _ => none
set_option maxRecDepth 20000 in
theorem sX13_tryMoves_17 {C : qCx} {w : qWp} (h : qOk C w RX13 cX13_tryMoves 5 5 155 155) (hm : qMt C none) (hx : qNx C) {j27 : qT (Unit × qM)} {j61 : qT (Unit × qM)} (k27 : qSnd C w 5 155 (qQf C w 155 155 jV) qfin 155 44 j27) (k61 : qSnd C w 5 155 (qQf C w 155 155 jV) qfin 155 106 j61) : qSnd C w 5 155 (qQf C w 155 155 jV) qfin 155 27 (tX13_tryMoves_17 j27 j61) :=
  cLi (pc := 27) h dX13_tryMoves_27 rfl (jCEq (pc := 28) h dX13_tryMoves_28 rfl (cLa (pc := 34) h dX13_tryMoves_34 rfl (gGf (pc := 35) h dX13_tryMoves_35 ff_X13_221_98 (Nat.le_of_ble_eq_true rfl) (Nat.le_of_ble_eq_true rfl) rfl (cLi (pc := 38) h dX13_tryMoves_38 rfl (cC (pc := 39) h dX13_tryMoves_39 rfl (rWi (pc := 40) h dX13_tryMoves_40 rfl (Nat.le_of_ble_eq_true rfl) (Nat.le_of_ble_eq_true rfl) (cC (pc := 41) h dX13_tryMoves_41 rfl (cSI (pc := 42) h dX13_tryMoves_42 (k27)))))))) (jGo (pc := 31) h dX13_tryMoves_31 rfl (k61)))
set_option maxRecDepth 20000 in
theorem lX13_tryMoves_17 (k2 : Int32 → Int32 → qM → Option (Unit × qM)) (a1 : Int32) (a2 : Int32) (a3 : Int32) (s0 : Int32) (m : qM) : tX13_tryMoves_17 (wX13_tryMoves_27 (fX13_tryMoves_27 (fX13_tryMoves_61 k2) FU)) (wX13_tryMoves_61 (fX13_tryMoves_61 k2)) [some (.ref 98), some (.int a1), some (.int a2), some (.int a3), none] [(.int s0)] m = fX13_tryMoves_17 k2 a1 a2 a3 s0 m := rfl
theorem bX13_tryMoves_17 {C : qCx} {w : qWp} (h : qOk C w RX13 cX13_tryMoves 5 5 155 155) (hm : qMt C none) (hx : qNx C) {k2 : Int32 → Int32 → qM → Option (Unit × qM)} (h2 : qSnd C w 5 155 (qQf C w 155 155 jV) qfin 155 2 (wX13_tryMoves_2 k2)) : qSnd C w 5 155 (qQf C w 155 155 jV) qfin 155 27 (wX13_tryMoves_17 (fX13_tryMoves_17 k2)) :=
  qSnd_of (fun lo st m x hr0 => by
    unfold wX13_tryMoves_17 at hr0
    split at hr0
    · exact ⟨_, (qsub_e (qsub_e (qsub_e (qsub_e (qsub_n qsub_nil))))), (lX13_tryMoves_17 _ _ _ _ _ _).trans hr0⟩
    · cases hr0) (sX13_tryMoves_17 h hm hx (bX13_tryMoves_27 h hm hx (bX13_tryMoves_61 h hm hx h2) FU) (bX13_tryMoves_61 h hm hx h2))
noncomputable def tX13_tryMoves_2 (j17 : qT (Unit × qM)) : qT (Unit × qM) :=
  oLi 2 (oLa 0 (oGi 98 32 (oCGe (eV) (oLa 0 (oGf 98 36 125 (oLi 2 (oAi 125 40 (oSi 3 (oLi 3 (oC (.int (-1 : Int32)) (oCEq (oC (.int (0 : Int32)) (j17)) (oC (.int (1 : Int32)) (j17)))))))))))))
set_option maxRecDepth 20000 in
theorem sX13_tryMoves_2 {C : qCx} {w : qWp} (h : qOk C w RX13 cX13_tryMoves 5 5 155 155) (hm : qMt C none) (hx : qNx C) {j17 : qT (Unit × qM)} (k17 : qSnd C w 5 155 (qQf C w 155 155 jV) qfin 155 27 j17) : qSnd C w 5 155 (qQf C w 155 155 jV) qfin 155 2 (tX13_tryMoves_2 j17) :=
  cLi (pc := 2) h dX13_tryMoves_2 rfl (cLa (pc := 3) h dX13_tryMoves_3 rfl (gGi (pc := 4) h dX13_tryMoves_4 ff_X13_313_98 (Nat.le_of_ble_eq_true rfl) (Nat.le_of_ble_eq_true rfl) (jCGe (pc := 7) h dX13_tryMoves_7 rfl (zV (pc := 112) h hm (Nat.le_refl _) dX13_tryMoves_112) (cLa (pc := 10) h dX13_tryMoves_10 rfl (gGf (pc := 11) h dX13_tryMoves_11 ff_X13_221_98 (Nat.le_of_ble_eq_true rfl) (Nat.le_of_ble_eq_true rfl) rfl (cLi (pc := 14) h dX13_tryMoves_14 rfl (rAi (pc := 15) h dX13_tryMoves_15 rfl (Nat.le_of_ble_eq_true rfl) (Nat.le_of_ble_eq_true rfl) (cSi (pc := 16) h dX13_tryMoves_16 rfl (cLi (pc := 17) h dX13_tryMoves_17 rfl (cC (pc := 18) h dX13_tryMoves_18 rfl (jCEq (pc := 19) h dX13_tryMoves_19 rfl (cC (pc := 26) h dX13_tryMoves_26 rfl (k17)) (cC (pc := 22) h dX13_tryMoves_22 rfl (jGo (pc := 23) h dX13_tryMoves_23 rfl (k17))))))))))))))
set_option maxRecDepth 20000 in
theorem lX13_tryMoves_2 (n : Nat) (a1 : Int32) (a2 : Int32) (m : qM) : tX13_tryMoves_2 (wX13_tryMoves_17 (fX13_tryMoves_17 (fX13_tryMoves_2 n))) [some (.ref 98), some (.int a1), some (.int a2), none, none] [] m = fX13_tryMoves_2 (n + 1) a1 a2 m := rfl
theorem bX13_tryMoves_2 {C : qCx} {w : qWp} (h : qOk C w RX13 cX13_tryMoves 5 5 155 155) (hm : qMt C none) (hx : qNx C) : ∀ n : Nat, qSnd C w 5 155 (qQf C w 155 155 jV) qfin 155 2 (wX13_tryMoves_2 (fX13_tryMoves_2 n))
  | 0 => qSnd_of0 (fun lo st m x hr0 => by
    unfold wX13_tryMoves_2 at hr0
    split at hr0
    · cases hr0
    · cases hr0)
  | n + 1 => by
    have ih := bX13_tryMoves_2 h hm hx n
    exact qSnd_of (fun lo st m x hr0 => by
    unfold wX13_tryMoves_2 at hr0
    split at hr0
    · exact ⟨_, (qsub_e (qsub_e (qsub_e (qsub_n (qsub_n qsub_nil))))), (lX13_tryMoves_2 n _ _ _).trans hr0⟩
    · cases hr0) (sX13_tryMoves_2 h hm hx (bX13_tryMoves_17 h hm hx ih))
noncomputable def tX13_tryMoves_0 (j2 : qT (Unit × qM)) : qT (Unit × qM) :=
  oC (.int (0 : Int32)) (oSi 2 (j2))
set_option maxRecDepth 20000 in
theorem sX13_tryMoves_0 {C : qCx} {w : qWp} (h : qOk C w RX13 cX13_tryMoves 5 5 155 155) (hm : qMt C none) (hx : qNx C) {j2 : qT (Unit × qM)} (k2 : qSnd C w 5 155 (qQf C w 155 155 jV) qfin 155 2 j2) : qSnd C w 5 155 (qQf C w 155 155 jV) qfin 155 0 (tX13_tryMoves_0 j2) :=
  cC (pc := 0) h dX13_tryMoves_0 rfl (cSi (pc := 1) h dX13_tryMoves_1 rfl (k2))
set_option maxRecDepth 20000 in
theorem lX13_tryMoves_0 (a1 : Int32) (m : qM) : tX13_tryMoves_0 (wX13_tryMoves_2 (fX13_tryMoves_2 FU)) [some (.ref 98), some (.int a1), none, none, none] [] m = fX13_tryMoves_0 a1 m := rfl
noncomputable def GX13_tryMoves : qG Unit := fun av m => match av with
  | [.ref 98, .int a1] => fX13_tryMoves a1 m
  | _ => none
theorem spX13_tryMoves : qSpV yX13_tryMoves (.code yX13_tryMoves cX13_tryMoves 5 none) 5 qfin 155 155 1 GX13_tryMoves := by
  intro av m m' hG
  unfold GX13_tryMoves at hG
  split at hG
  · rename_i a1
    rw [fX13_tryMoves_d] at hG
    exact ⟨qmeet (J := jV) (r := ((), m')) (av := [.ref 98, .int a1]) (by decide +kernel) (Nat.le_of_ble_eq_true rfl) (fun C w h hm hx hn => sX13_tryMoves_0 h hm hx (bX13_tryMoves_2 h hm hx FU)) ((lX13_tryMoves_0 _ _).trans hG) (Nat.le_of_ble_eq_true rfl), Or.inl ⟨98, _, 13, _, _, rfl, by decide, rfl, qCk_13, rfl⟩⟩
  · cases hG
theorem dX13_trySwaps_0 : decode cX13_trySwaps 0 = .ok (.iconst 0, 1) := by decide +kernel
theorem dX13_trySwaps_1 : decode cX13_trySwaps 1 = .ok (.istore_n 1, 1) := by decide +kernel
theorem dX13_trySwaps_2 : decode cX13_trySwaps 2 = .ok (.iload_n 1, 1) := by decide +kernel
theorem dX13_trySwaps_3 : decode cX13_trySwaps 3 = .ok (.aload_n 0, 1) := by decide +kernel
theorem dX13_trySwaps_4 : decode cX13_trySwaps 4 = .ok (.getfield 313, 3) := by decide +kernel
theorem dX13_trySwaps_7 : decode cX13_trySwaps 7 = .ok (.if_icmp .ge 132, 3) := by decide +kernel
theorem dX13_trySwaps_10 : decode cX13_trySwaps 10 = .ok (.iload_n 1, 1) := by decide +kernel
theorem dX13_trySwaps_11 : decode cX13_trySwaps 11 = .ok (.iconst 1, 1) := by decide +kernel
theorem dX13_trySwaps_12 : decode cX13_trySwaps 12 = .ok (.iadd, 1) := by decide +kernel
theorem dX13_trySwaps_13 : decode cX13_trySwaps 13 = .ok (.istore_n 2, 1) := by decide +kernel
theorem dX13_trySwaps_14 : decode cX13_trySwaps 14 = .ok (.iload_n 2, 1) := by decide +kernel
theorem dX13_trySwaps_15 : decode cX13_trySwaps 15 = .ok (.aload_n 0, 1) := by decide +kernel
theorem dX13_trySwaps_16 : decode cX13_trySwaps 16 = .ok (.getfield 313, 3) := by decide +kernel
theorem dX13_trySwaps_19 : decode cX13_trySwaps 19 = .ok (.if_icmp .ge 114, 3) := by decide +kernel
theorem dX13_trySwaps_22 : decode cX13_trySwaps 22 = .ok (.aload_n 0, 1) := by decide +kernel
theorem dX13_trySwaps_23 : decode cX13_trySwaps 23 = .ok (.getfield 221, 3) := by decide +kernel
theorem dX13_trySwaps_26 : decode cX13_trySwaps 26 = .ok (.iload_n 1, 1) := by decide +kernel
theorem dX13_trySwaps_27 : decode cX13_trySwaps 27 = .ok (.iaload, 1) := by decide +kernel
theorem dX13_trySwaps_28 : decode cX13_trySwaps 28 = .ok (.istore_n 3, 1) := by decide +kernel
theorem dX13_trySwaps_29 : decode cX13_trySwaps 29 = .ok (.aload_n 0, 1) := by decide +kernel
theorem dX13_trySwaps_30 : decode cX13_trySwaps 30 = .ok (.getfield 221, 3) := by decide +kernel
theorem dX13_trySwaps_33 : decode cX13_trySwaps 33 = .ok (.iload_n 2, 1) := by decide +kernel
theorem dX13_trySwaps_34 : decode cX13_trySwaps 34 = .ok (.iaload, 1) := by decide +kernel
theorem dX13_trySwaps_35 : decode cX13_trySwaps 35 = .ok (.istore 4, 2) := by decide +kernel
theorem dX13_trySwaps_37 : decode cX13_trySwaps 37 = .ok (.iload_n 3, 1) := by decide +kernel
theorem dX13_trySwaps_38 : decode cX13_trySwaps 38 = .ok (.iconst (-1), 1) := by decide +kernel
theorem dX13_trySwaps_39 : decode cX13_trySwaps 39 = .ok (.if_icmp .eq 88, 3) := by decide +kernel
theorem dX13_trySwaps_42 : decode cX13_trySwaps 42 = .ok (.iload 4, 2) := by decide +kernel
theorem dX13_trySwaps_44 : decode cX13_trySwaps 44 = .ok (.iconst (-1), 1) := by decide +kernel
theorem dX13_trySwaps_45 : decode cX13_trySwaps 45 = .ok (.if_icmp .eq 82, 3) := by decide +kernel
theorem dX13_trySwaps_48 : decode cX13_trySwaps 48 = .ok (.iload_n 3, 1) := by decide +kernel
theorem dX13_trySwaps_49 : decode cX13_trySwaps 49 = .ok (.iload 4, 2) := by decide +kernel
theorem dX13_trySwaps_51 : decode cX13_trySwaps 51 = .ok (.if_icmp .ne 6, 3) := by decide +kernel
theorem dX13_trySwaps_54 : decode cX13_trySwaps 54 = .ok (.goto 73, 3) := by decide +kernel
theorem dX13_trySwaps_57 : decode cX13_trySwaps 57 = .ok (.aload_n 0, 1) := by decide +kernel
theorem dX13_trySwaps_58 : decode cX13_trySwaps 58 = .ok (.getfield 221, 3) := by decide +kernel
theorem dX13_trySwaps_61 : decode cX13_trySwaps 61 = .ok (.iload_n 1, 1) := by decide +kernel
theorem dX13_trySwaps_62 : decode cX13_trySwaps 62 = .ok (.iconst (-1), 1) := by decide +kernel
theorem dX13_trySwaps_63 : decode cX13_trySwaps 63 = .ok (.iastore, 1) := by decide +kernel
theorem dX13_trySwaps_64 : decode cX13_trySwaps 64 = .ok (.aload_n 0, 1) := by decide +kernel
theorem dX13_trySwaps_65 : decode cX13_trySwaps 65 = .ok (.getfield 221, 3) := by decide +kernel
theorem dX13_trySwaps_68 : decode cX13_trySwaps 68 = .ok (.iload_n 2, 1) := by decide +kernel
theorem dX13_trySwaps_69 : decode cX13_trySwaps 69 = .ok (.iconst (-1), 1) := by decide +kernel
theorem dX13_trySwaps_70 : decode cX13_trySwaps 70 = .ok (.iastore, 1) := by decide +kernel
theorem dX13_trySwaps_71 : decode cX13_trySwaps 71 = .ok (.aload_n 0, 1) := by decide +kernel
theorem dX13_trySwaps_72 : decode cX13_trySwaps 72 = .ok (.iload_n 1, 1) := by decide +kernel
theorem dX13_trySwaps_73 : decode cX13_trySwaps 73 = .ok (.iload 4, 2) := by decide +kernel
theorem dX13_trySwaps_75 : decode cX13_trySwaps 75 = .ok (.invokevirtual 375, 3) := by decide +kernel
theorem dX13_trySwaps_78 : decode cX13_trySwaps 78 = .ok (.ifCond .eq 34, 3) := by decide +kernel
theorem dX13_trySwaps_81 : decode cX13_trySwaps 81 = .ok (.aload_n 0, 1) := by decide +kernel
theorem dX13_trySwaps_82 : decode cX13_trySwaps 82 = .ok (.getfield 221, 3) := by decide +kernel
theorem dX13_trySwaps_85 : decode cX13_trySwaps 85 = .ok (.iload_n 1, 1) := by decide +kernel
theorem dX13_trySwaps_86 : decode cX13_trySwaps 86 = .ok (.iload 4, 2) := by decide +kernel
theorem dX13_trySwaps_88 : decode cX13_trySwaps 88 = .ok (.iastore, 1) := by decide +kernel
theorem dX13_trySwaps_89 : decode cX13_trySwaps 89 = .ok (.aload_n 0, 1) := by decide +kernel
theorem dX13_trySwaps_90 : decode cX13_trySwaps 90 = .ok (.iload_n 2, 1) := by decide +kernel
theorem dX13_trySwaps_91 : decode cX13_trySwaps 91 = .ok (.iload_n 3, 1) := by decide +kernel
theorem dX13_trySwaps_92 : decode cX13_trySwaps 92 = .ok (.invokevirtual 375, 3) := by decide +kernel
theorem dX13_trySwaps_95 : decode cX13_trySwaps 95 = .ok (.ifCond .eq 17, 3) := by decide +kernel
theorem dX13_trySwaps_98 : decode cX13_trySwaps 98 = .ok (.aload_n 0, 1) := by decide +kernel
theorem dX13_trySwaps_99 : decode cX13_trySwaps 99 = .ok (.getfield 221, 3) := by decide +kernel
theorem dX13_trySwaps_102 : decode cX13_trySwaps 102 = .ok (.iload_n 2, 1) := by decide +kernel
theorem dX13_trySwaps_103 : decode cX13_trySwaps 103 = .ok (.iload_n 3, 1) := by decide +kernel
theorem dX13_trySwaps_104 : decode cX13_trySwaps 104 = .ok (.iastore, 1) := by decide +kernel
theorem dX13_trySwaps_105 : decode cX13_trySwaps 105 = .ok (.aload_n 0, 1) := by decide +kernel
theorem dX13_trySwaps_106 : decode cX13_trySwaps 106 = .ok (.iload_n 1, 1) := by decide +kernel
theorem dX13_trySwaps_107 : decode cX13_trySwaps 107 = .ok (.iload_n 2, 1) := by decide +kernel
theorem dX13_trySwaps_108 : decode cX13_trySwaps 108 = .ok (.iconst (-1), 1) := by decide +kernel
theorem dX13_trySwaps_109 : decode cX13_trySwaps 109 = .ok (.invokevirtual 431, 3) := by decide +kernel
theorem dX13_trySwaps_112 : decode cX13_trySwaps 112 = .ok (.aload_n 0, 1) := by decide +kernel
theorem dX13_trySwaps_113 : decode cX13_trySwaps 113 = .ok (.getfield 221, 3) := by decide +kernel
theorem dX13_trySwaps_116 : decode cX13_trySwaps 116 = .ok (.iload_n 1, 1) := by decide +kernel
theorem dX13_trySwaps_117 : decode cX13_trySwaps 117 = .ok (.iload_n 3, 1) := by decide +kernel
theorem dX13_trySwaps_118 : decode cX13_trySwaps 118 = .ok (.iastore, 1) := by decide +kernel
theorem dX13_trySwaps_119 : decode cX13_trySwaps 119 = .ok (.aload_n 0, 1) := by decide +kernel
theorem dX13_trySwaps_120 : decode cX13_trySwaps 120 = .ok (.getfield 221, 3) := by decide +kernel
theorem dX13_trySwaps_123 : decode cX13_trySwaps 123 = .ok (.iload_n 2, 1) := by decide +kernel
theorem dX13_trySwaps_124 : decode cX13_trySwaps 124 = .ok (.iload 4, 2) := by decide +kernel
theorem dX13_trySwaps_126 : decode cX13_trySwaps 126 = .ok (.iastore, 1) := by decide +kernel
theorem dX13_trySwaps_127 : decode cX13_trySwaps 127 = .ok (.iinc 2 1, 3) := by decide +kernel
theorem dX13_trySwaps_130 : decode cX13_trySwaps 130 = .ok (.goto (-116), 3) := by decide +kernel
theorem dX13_trySwaps_133 : decode cX13_trySwaps 133 = .ok (.iinc 1 1, 3) := by decide +kernel
theorem dX13_trySwaps_136 : decode cX13_trySwaps 136 = .ok (.goto (-134), 3) := by decide +kernel
theorem dX13_trySwaps_139 : decode cX13_trySwaps 139 = .ok (.return_, 1) := by decide +kernel
noncomputable def tX13_trySwaps_79 (j10 : qT (Unit × qM)) : qT (Unit × qM) :=
  oInc 2 (1 : Int32) (j10)
noncomputable def wX13_trySwaps_79 (k : Int32 → Int32 → qM → Option (Unit × qM)) : qT (Unit × qM) := fun lo st m => match lo, st with
  | [some (.ref 98), some (.int a1), some (.int a2), _, _], [] => k a1 a2 m
  | _, _ => none
noncomputable def wX13_trySwaps_10 (k : Int32 → Int32 → qM → Option (Unit × qM)) : qT (Unit × qM) := fun lo st m => match lo, st with
  | [some (.ref 98), some (.int a1), some (.int a2), _, _], [] => k a1 a2 m
  | _, _ => none
set_option maxRecDepth 20000 in
theorem sX13_trySwaps_79 {C : qCx} {w : qWp} (h : qOk C w RX13 cX13_trySwaps 5 5 155 155) (hm : qMt C none) (hx : qNx C) {j10 : qT (Unit × qM)} (k10 : qSnd C w 5 155 (qQf C w 155 155 jV) qfin 155 14 j10) : qSnd C w 5 155 (qQf C w 155 155 jV) qfin 155 127 (tX13_trySwaps_79 j10) :=
  cInc (pc := 127) h dX13_trySwaps_127 rfl (jGo (pc := 130) h dX13_trySwaps_130 rfl (k10))
set_option maxRecDepth 20000 in
theorem lX13_trySwaps_79 (k10 : Int32 → Int32 → qM → Option (Unit × qM)) (a1 : Int32) (a2 : Int32) (m : qM) : tX13_trySwaps_79 (wX13_trySwaps_10 k10) [some (.ref 98), some (.int a1), some (.int a2), none, none] [] m = fX13_trySwaps_79 k10 a1 a2 m := rfl
theorem bX13_trySwaps_79 {C : qCx} {w : qWp} (h : qOk C w RX13 cX13_trySwaps 5 5 155 155) (hm : qMt C none) (hx : qNx C) {k10 : Int32 → Int32 → qM → Option (Unit × qM)} (h10 : qSnd C w 5 155 (qQf C w 155 155 jV) qfin 155 14 (wX13_trySwaps_10 k10)) : qSnd C w 5 155 (qQf C w 155 155 jV) qfin 155 127 (wX13_trySwaps_79 (fX13_trySwaps_79 k10)) :=
  qSnd_of (fun lo st m x hr0 => by
    unfold wX13_trySwaps_79 at hr0
    split at hr0
    · exact ⟨_, (qsub_e (qsub_e (qsub_e (qsub_n (qsub_n qsub_nil))))), (lX13_trySwaps_79 _ _ _ _).trans hr0⟩
    · cases hr0) (sX13_trySwaps_79 h hm hx h10)
noncomputable def tX13_trySwaps_69 (j79 : qT (Unit × qM)) : qT (Unit × qM) :=
  oLa 0 (oGf 98 36 125 (oLi 1 (oLi 3 (oWi 125 40 (oLa 0 (oGf 98 36 125 (oLi 2 (oLi 4 (oWi 125 40 (j79))))))))))
noncomputable def wX13_trySwaps_69 (k : Int32 → Int32 → Int32 → Int32 → qM → Option (Unit × qM)) : qT (Unit × qM) := fun lo st m => match lo, st with
  | [some (.ref 98), some (.int a1), some (.int a2), some (.int a3), some (.int a4)], [] => k a1 a2 a3 a4 m
  | _, _ => none
set_option maxRecDepth 20000 in
theorem sX13_trySwaps_69 {C : qCx} {w : qWp} (h : qOk C w RX13 cX13_trySwaps 5 5 155 155) (hm : qMt C none) (hx : qNx C) {j79 : qT (Unit × qM)} (k79 : qSnd C w 5 155 (qQf C w 155 155 jV) qfin 155 127 j79) : qSnd C w 5 155 (qQf C w 155 155 jV) qfin 155 112 (tX13_trySwaps_69 j79) :=
  cLa (pc := 112) h dX13_trySwaps_112 rfl (gGf (pc := 113) h dX13_trySwaps_113 ff_X13_221_98 (Nat.le_of_ble_eq_true rfl) (Nat.le_of_ble_eq_true rfl) rfl (cLi (pc := 116) h dX13_trySwaps_116 rfl (cLi (pc := 117) h dX13_trySwaps_117 rfl (rWi (pc := 118) h dX13_trySwaps_118 rfl (Nat.le_of_ble_eq_true rfl) (Nat.le_of_ble_eq_true rfl) (cLa (pc := 119) h dX13_trySwaps_119 rfl (gGf (pc := 120) h dX13_trySwaps_120 ff_X13_221_98 (Nat.le_of_ble_eq_true rfl) (Nat.le_of_ble_eq_true rfl) rfl (cLi (pc := 123) h dX13_trySwaps_123 rfl (cLI (pc := 124) h dX13_trySwaps_124 (rWi (pc := 126) h dX13_trySwaps_126 rfl (Nat.le_of_ble_eq_true rfl) (Nat.le_of_ble_eq_true rfl) (k79))))))))))
set_option maxRecDepth 20000 in
theorem lX13_trySwaps_69 (k10 : Int32 → Int32 → qM → Option (Unit × qM)) (a1 : Int32) (a2 : Int32) (a3 : Int32) (a4 : Int32) (m : qM) : tX13_trySwaps_69 (wX13_trySwaps_79 (fX13_trySwaps_79 k10)) [some (.ref 98), some (.int a1), some (.int a2), some (.int a3), some (.int a4)] [] m = fX13_trySwaps_69 k10 a1 a2 a3 a4 m := rfl
theorem bX13_trySwaps_69 {C : qCx} {w : qWp} (h : qOk C w RX13 cX13_trySwaps 5 5 155 155) (hm : qMt C none) (hx : qNx C) {k10 : Int32 → Int32 → qM → Option (Unit × qM)} (h10 : qSnd C w 5 155 (qQf C w 155 155 jV) qfin 155 14 (wX13_trySwaps_10 k10)) : qSnd C w 5 155 (qQf C w 155 155 jV) qfin 155 112 (wX13_trySwaps_69 (fX13_trySwaps_69 k10)) :=
  qSnd_of (fun lo st m x hr0 => by
    unfold wX13_trySwaps_69 at hr0
    split at hr0
    · exact ⟨_, (qsub_e (qsub_e (qsub_e (qsub_e (qsub_e qsub_nil))))), (lX13_trySwaps_69 _ _ _ _ _ _).trans hr0⟩
    · cases hr0) (sX13_trySwaps_69 h hm hx (bX13_trySwaps_79 h hm hx h10))
noncomputable def tX13_trySwaps_10 (j2 : qT (Unit × qM)) (j79 : qT (Unit × qM)) (j69 : qT (Unit × qM)) : qT (Unit × qM) :=
  oLi 2 (oLa 0 (oGi 98 32 (oCGe (oInc 1 (1 : Int32) (j2)) (oLa 0 (oGf 98 36 125 (oLi 1 (oAi 125 40 (oSi 3 (oLa 0 (oGf 98 36 125 (oLi 2 (oAi 125 40 (oSi 4 (oLi 3 (oC (.int (-1 : Int32)) (oCEq (j79) (oLi 4 (oC (.int (-1 : Int32)) (oCEq (j79) (oLi 3 (oLi 4 (oCEq (j79) (oLa 0 (oGf 98 36 125 (oLi 1 (oC (.int (-1 : Int32)) (oWi 125 40 (oLa 0 (oGf 98 36 125 (oLi 2 (oC (.int (-1 : Int32)) (oWi 125 40 (oLa 0 (oLi 1 (oLi 4 (oCi GX13_mayBe 3 (oEq (j69) (oLa 0 (oGf 98 36 125 (oLi 1 (oLi 4 (oWi 125 40 (oLa 0 (oLi 2 (oLi 3 (oCi GX13_mayBe 3 (oEq (j69) (oLa 0 (oGf 98 36 125 (oLi 2 (oLi 3 (oWi 125 40 (oLa 0 (oLi 1 (oLi 2 (oC (.int (-1 : Int32)) (oCv GX13_judge 4 (j69))))))))))))))))))))))))))))))))))))))))))))))))))))))))))
noncomputable def wX13_trySwaps_2 (k : Int32 → qM → Option (Unit × qM)) : qT (Unit × qM) := fun lo st m => match lo, st with
  | [some (.ref 98), some (.int a1), _, _, _], [] => k a1 m
  | _, _ => none
set_option maxRecDepth 20000 in
theorem sX13_trySwaps_10 {C : qCx} {w : qWp} (h : qOk C w RX13 cX13_trySwaps 5 5 155 155) (hm : qMt C none) (hx : qNx C) {j2 : qT (Unit × qM)} {j79 : qT (Unit × qM)} {j69 : qT (Unit × qM)} (k2 : qSnd C w 5 155 (qQf C w 155 155 jV) qfin 155 2 j2) (k79 : qSnd C w 5 155 (qQf C w 155 155 jV) qfin 155 127 j79) (k69 : qSnd C w 5 155 (qQf C w 155 155 jV) qfin 155 112 j69) : qSnd C w 5 155 (qQf C w 155 155 jV) qfin 155 14 (tX13_trySwaps_10 j2 j79 j69) :=
  cLi (pc := 14) h dX13_trySwaps_14 rfl (cLa (pc := 15) h dX13_trySwaps_15 rfl (gGi (pc := 16) h dX13_trySwaps_16 ff_X13_313_98 (Nat.le_of_ble_eq_true rfl) (Nat.le_of_ble_eq_true rfl) (jCGe (pc := 19) h dX13_trySwaps_19 rfl (cInc (pc := 133) h dX13_trySwaps_133 rfl (jGo (pc := 136) h dX13_trySwaps_136 rfl (k2))) (cLa (pc := 22) h dX13_trySwaps_22 rfl (gGf (pc := 23) h dX13_trySwaps_23 ff_X13_221_98 (Nat.le_of_ble_eq_true rfl) (Nat.le_of_ble_eq_true rfl) rfl (cLi (pc := 26) h dX13_trySwaps_26 rfl (rAi (pc := 27) h dX13_trySwaps_27 rfl (Nat.le_of_ble_eq_true rfl) (Nat.le_of_ble_eq_true rfl) (cSi (pc := 28) h dX13_trySwaps_28 rfl (cLa (pc := 29) h dX13_trySwaps_29 rfl (gGf (pc := 30) h dX13_trySwaps_30 ff_X13_221_98 (Nat.le_of_ble_eq_true rfl) (Nat.le_of_ble_eq_true rfl) rfl (cLi (pc := 33) h dX13_trySwaps_33 rfl (rAi (pc := 34) h dX13_trySwaps_34 rfl (Nat.le_of_ble_eq_true rfl) (Nat.le_of_ble_eq_true rfl) (cSI (pc := 35) h dX13_trySwaps_35 (cLi (pc := 37) h dX13_trySwaps_37 rfl (cC (pc := 38) h dX13_trySwaps_38 rfl (jCEq (pc := 39) h dX13_trySwaps_39 rfl (k79) (cLI (pc := 42) h dX13_trySwaps_42 (cC (pc := 44) h dX13_trySwaps_44 rfl (jCEq (pc := 45) h dX13_trySwaps_45 rfl (k79) (cLi (pc := 48) h dX13_trySwaps_48 rfl (cLI (pc := 49) h dX13_trySwaps_49 (jCNe (pc := 51) h dX13_trySwaps_51 rfl (cLa (pc := 57) h dX13_trySwaps_57 rfl (gGf (pc := 58) h dX13_trySwaps_58 ff_X13_221_98 (Nat.le_of_ble_eq_true rfl) (Nat.le_of_ble_eq_true rfl) rfl (cLi (pc := 61) h dX13_trySwaps_61 rfl (cC (pc := 62) h dX13_trySwaps_62 rfl (rWi (pc := 63) h dX13_trySwaps_63 rfl (Nat.le_of_ble_eq_true rfl) (Nat.le_of_ble_eq_true rfl) (cLa (pc := 64) h dX13_trySwaps_64 rfl (gGf (pc := 65) h dX13_trySwaps_65 ff_X13_221_98 (Nat.le_of_ble_eq_true rfl) (Nat.le_of_ble_eq_true rfl) rfl (cLi (pc := 68) h dX13_trySwaps_68 rfl (cC (pc := 69) h dX13_trySwaps_69 rfl (rWi (pc := 70) h dX13_trySwaps_70 rfl (Nat.le_of_ble_eq_true rfl) (Nat.le_of_ble_eq_true rfl) (cLa (pc := 71) h dX13_trySwaps_71 rfl (cLi (pc := 72) h dX13_trySwaps_72 rfl (cLI (pc := 73) h dX13_trySwaps_73 (kCi (pc := 75) h (kd_X13_375 h dX13_trySwaps_75) spX13_mayBe (by decide) (by decide) (by decide) (by decide) (jEq (pc := 78) h dX13_trySwaps_78 rfl (k69) (cLa (pc := 81) h dX13_trySwaps_81 rfl (gGf (pc := 82) h dX13_trySwaps_82 ff_X13_221_98 (Nat.le_of_ble_eq_true rfl) (Nat.le_of_ble_eq_true rfl) rfl (cLi (pc := 85) h dX13_trySwaps_85 rfl (cLI (pc := 86) h dX13_trySwaps_86 (rWi (pc := 88) h dX13_trySwaps_88 rfl (Nat.le_of_ble_eq_true rfl) (Nat.le_of_ble_eq_true rfl) (cLa (pc := 89) h dX13_trySwaps_89 rfl (cLi (pc := 90) h dX13_trySwaps_90 rfl (cLi (pc := 91) h dX13_trySwaps_91 rfl (kCi (pc := 92) h (kd_X13_375 h dX13_trySwaps_92) spX13_mayBe (by decide) (by decide) (by decide) (by decide) (jEq (pc := 95) h dX13_trySwaps_95 rfl (k69) (cLa (pc := 98) h dX13_trySwaps_98 rfl (gGf (pc := 99) h dX13_trySwaps_99 ff_X13_221_98 (Nat.le_of_ble_eq_true rfl) (Nat.le_of_ble_eq_true rfl) rfl (cLi (pc := 102) h dX13_trySwaps_102 rfl (cLi (pc := 103) h dX13_trySwaps_103 rfl (rWi (pc := 104) h dX13_trySwaps_104 rfl (Nat.le_of_ble_eq_true rfl) (Nat.le_of_ble_eq_true rfl) (cLa (pc := 105) h dX13_trySwaps_105 rfl (cLi (pc := 106) h dX13_trySwaps_106 rfl (cLi (pc := 107) h dX13_trySwaps_107 rfl (cC (pc := 108) h dX13_trySwaps_108 rfl (kCv (pc := 109) h (kd_X13_431 h dX13_trySwaps_109) spX13_judge (by decide) (by decide) (by decide) (by decide) (k69)))))))))))))))))))))))))))))))))))) (jGo (pc := 54) h dX13_trySwaps_54 rfl (k79))))))))))))))))))))))))
set_option maxRecDepth 20000 in
theorem lX13_trySwaps_10 (k2 : Int32 → qM → Option (Unit × qM)) (n : Nat) (a1 : Int32) (a2 : Int32) (m : qM) : tX13_trySwaps_10 (wX13_trySwaps_2 k2) (wX13_trySwaps_79 (fX13_trySwaps_79 (fX13_trySwaps_10 k2 n))) (wX13_trySwaps_69 (fX13_trySwaps_69 (fX13_trySwaps_10 k2 n))) [some (.ref 98), some (.int a1), some (.int a2), none, none] [] m = fX13_trySwaps_10 k2 (n + 1) a1 a2 m := rfl
theorem bX13_trySwaps_10 {C : qCx} {w : qWp} (h : qOk C w RX13 cX13_trySwaps 5 5 155 155) (hm : qMt C none) (hx : qNx C) {k2 : Int32 → qM → Option (Unit × qM)} (h2 : qSnd C w 5 155 (qQf C w 155 155 jV) qfin 155 2 (wX13_trySwaps_2 k2)) : ∀ n : Nat, qSnd C w 5 155 (qQf C w 155 155 jV) qfin 155 14 (wX13_trySwaps_10 (fX13_trySwaps_10 k2 n))
  | 0 => qSnd_of0 (fun lo st m x hr0 => by
    unfold wX13_trySwaps_10 at hr0
    split at hr0
    · cases hr0
    · cases hr0)
  | n + 1 => by
    have ih := bX13_trySwaps_10 h hm hx h2 n
    exact qSnd_of (fun lo st m x hr0 => by
    unfold wX13_trySwaps_10 at hr0
    split at hr0
    · exact ⟨_, (qsub_e (qsub_e (qsub_e (qsub_n (qsub_n qsub_nil))))), (lX13_trySwaps_10 _ n _ _ _).trans hr0⟩
    · cases hr0) (sX13_trySwaps_10 h hm hx h2 (bX13_trySwaps_79 h hm hx ih) (bX13_trySwaps_69 h hm hx ih))
noncomputable def tX13_trySwaps_2 (j10 : qT (Unit × qM)) : qT (Unit × qM) :=
  oLi 1 (oLa 0 (oGi 98 32 (oCGe (eV) (oLi 1 (oC (.int (1 : Int32)) (o2 (· + ·) (oSi 2 (j10))))))))
set_option maxRecDepth 20000 in
theorem sX13_trySwaps_2 {C : qCx} {w : qWp} (h : qOk C w RX13 cX13_trySwaps 5 5 155 155) (hm : qMt C none) (hx : qNx C) {j10 : qT (Unit × qM)} (k10 : qSnd C w 5 155 (qQf C w 155 155 jV) qfin 155 14 j10) : qSnd C w 5 155 (qQf C w 155 155 jV) qfin 155 2 (tX13_trySwaps_2 j10) :=
  cLi (pc := 2) h dX13_trySwaps_2 rfl (cLa (pc := 3) h dX13_trySwaps_3 rfl (gGi (pc := 4) h dX13_trySwaps_4 ff_X13_313_98 (Nat.le_of_ble_eq_true rfl) (Nat.le_of_ble_eq_true rfl) (jCGe (pc := 7) h dX13_trySwaps_7 rfl (zV (pc := 139) h hm (Nat.le_refl _) dX13_trySwaps_139) (cLi (pc := 10) h dX13_trySwaps_10 rfl (cC (pc := 11) h dX13_trySwaps_11 rfl (aAdd (pc := 12) h dX13_trySwaps_12 (cSi (pc := 13) h dX13_trySwaps_13 rfl (k10))))))))
set_option maxRecDepth 20000 in
theorem lX13_trySwaps_2 (n : Nat) (a1 : Int32) (m : qM) : tX13_trySwaps_2 (wX13_trySwaps_10 (fX13_trySwaps_10 (fX13_trySwaps_2 n) FU)) [some (.ref 98), some (.int a1), none, none, none] [] m = fX13_trySwaps_2 (n + 1) a1 m := rfl
theorem bX13_trySwaps_2 {C : qCx} {w : qWp} (h : qOk C w RX13 cX13_trySwaps 5 5 155 155) (hm : qMt C none) (hx : qNx C) : ∀ n : Nat, qSnd C w 5 155 (qQf C w 155 155 jV) qfin 155 2 (wX13_trySwaps_2 (fX13_trySwaps_2 n))
  | 0 => qSnd_of0 (fun lo st m x hr0 => by
    unfold wX13_trySwaps_2 at hr0
    split at hr0
    · cases hr0
    · cases hr0)
  | n + 1 => by
    have ih := bX13_trySwaps_2 h hm hx n
    exact qSnd_of (fun lo st m x hr0 => by
    unfold wX13_trySwaps_2 at hr0
    split at hr0
    · exact ⟨_, (qsub_e (qsub_e (qsub_n (qsub_n (qsub_n qsub_nil))))), (lX13_trySwaps_2 n _ _).trans hr0⟩
    · cases hr0) (sX13_trySwaps_2 h hm hx (bX13_trySwaps_10 h hm hx ih FU))
noncomputable def tX13_trySwaps_0 (j2 : qT (Unit × qM)) : qT (Unit × qM) :=
  oC (.int (0 : Int32)) (oSi 1 (j2))
set_option maxRecDepth 20000 in
theorem sX13_trySwaps_0 {C : qCx} {w : qWp} (h : qOk C w RX13 cX13_trySwaps 5 5 155 155) (hm : qMt C none) (hx : qNx C) {j2 : qT (Unit × qM)} (k2 : qSnd C w 5 155 (qQf C w 155 155 jV) qfin 155 2 j2) : qSnd C w 5 155 (qQf C w 155 155 jV) qfin 155 0 (tX13_trySwaps_0 j2) :=
  cC (pc := 0) h dX13_trySwaps_0 rfl (cSi (pc := 1) h dX13_trySwaps_1 rfl (k2))
set_option maxRecDepth 20000 in
theorem lX13_trySwaps_0 (m : qM) : tX13_trySwaps_0 (wX13_trySwaps_2 (fX13_trySwaps_2 FU)) [some (.ref 98), none, none, none, none] [] m = fX13_trySwaps_0 m := rfl
noncomputable def GX13_trySwaps : qG Unit := fun av m => match av with
  | [.ref 98] => fX13_trySwaps m
  | _ => none
theorem spX13_trySwaps : qSpV yX13_trySwaps (.code yX13_trySwaps cX13_trySwaps 5 none) 5 qfin 155 155 1 GX13_trySwaps := by
  intro av m m' hG
  unfold GX13_trySwaps at hG
  split at hG
  · rw [fX13_trySwaps_d] at hG
    exact ⟨qmeet (J := jV) (r := ((), m')) (av := [.ref 98]) (by decide +kernel) (Nat.le_of_ble_eq_true rfl) (fun C w h hm hx hn => sX13_trySwaps_0 h hm hx (bX13_trySwaps_2 h hm hx FU)) ((lX13_trySwaps_0 _).trans hG) (Nat.le_of_ble_eq_true rfl), Or.inl ⟨98, _, 13, _, _, rfl, by decide, rfl, qCk_13, rfl⟩⟩
  · cases hG

