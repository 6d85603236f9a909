/-! the constructor of the class (by program) -/
theorem fn_X11_9 : Jvm.Cond.classLink RX11 9 RX8 ∈ qTw := qm1 (List.mem_of_getElem? (i := 32) (by decide +kernel)) (by decide +kernel)
theorem fi_ParentEve_Tape : Jvm.Cond.instantiable RX8 2 ∈ qTw := qm1 (List.mem_of_getElem? (i := 33) (by decide +kernel)) (by decide +kernel)
theorem in_ParentEve_Tape : Jvm.Cond.initialized "ParentEve$Tape" ∈ qTw := qm1 (List.mem_of_getElem? (i := 2) (by decide +kernel)) (by decide +kernel)
theorem im_X8_init : Jvm.Cond.instanceMethod yX8_init ∈ qTw := qm1 (List.mem_of_getElem? (i := 35) (by decide +kernel)) (by decide +kernel)
theorem co_X8_init : Jvm.Cond.code yX8_init cX8_init 1 none ∈ qTw := qm1 (List.mem_of_getElem? (i := 36) (by decide +kernel)) (by decide +kernel)
theorem yk_X8_init : qYk yX8_init 0 := ⟨⟨by decide +kernel, by decide +kernel⟩, by decide +kernel⟩
theorem ml_X11_11 : Jvm.Cond.methodLinkNest RX11 11 yX8_init "ParentEve" ∈ qTw := qm1 (List.mem_of_getElem? (i := 34) (by decide +kernel)) (by decide +kernel)
theorem kd_X11_11 {C : qCx} {w : qWp} {cc : ByteArray} {nL dp n0 n1 pc : Nat} (h : qOk C w RX11 cc nL dp n0 n1) (d : decode cc pc = .ok (.invokespecial 11, 3)) : qCallOk C w nL dp n0 n1 pc 1 2 yX8_init (.code yX8_init cX8_init 1 none) := kindIN h d ml_X11_11 im_X8_init in_ParentEve_Tape co_X8_init yk_X8_init (by decide) rfl
theorem mf_X11_12 : Jvm.Cond.fieldLink RX11 12 (qTb 11 0).1 (qTb 11 0).2.1 (qTb 11 0).2.2.1 ∈ qTw := qm2 (List.mem_of_getElem? (i := 164) (by decide +kernel)) (by decide +kernel)
theorem ff_X11_12_0 : qFd RX11 12 0 11 0 3 := ⟨mf_X11_12, rfl, by decide, rfl⟩
theorem fn_X11_16 : Jvm.Cond.classLink RX11 16 RX6 ∈ qTw := qm1 (List.mem_of_getElem? (i := 46) (by decide +kernel)) (by decide +kernel)
theorem fi_ParentEve_Reader : Jvm.Cond.instantiable RX6 6 ∈ qTw := qm1 (List.mem_of_getElem? (i := 47) (by decide +kernel)) (by decide +kernel)
theorem in_ParentEve_Reader : Jvm.Cond.initialized "ParentEve$Reader" ∈ qTw := qm1 (List.mem_of_getElem? (i := 3) (by decide +kernel)) (by decide +kernel)
theorem im_X6_init : Jvm.Cond.instanceMethod yX6_init ∈ qTw := qm1 (List.mem_of_getElem? (i := 49) (by decide +kernel)) (by decide +kernel)
theorem co_X6_init : Jvm.Cond.code yX6_init cX6_init 2 none ∈ qTw := qm1 (List.mem_of_getElem? (i := 50) (by decide +kernel)) (by decide +kernel)
theorem yk_X6_init : qYk yX6_init 1 := ⟨⟨by decide +kernel, by decide +kernel⟩, by decide +kernel⟩
theorem ml_X11_18 : Jvm.Cond.methodLink RX11 18 yX6_init ∈ qTw := qm1 (List.mem_of_getElem? (i := 48) (by decide +kernel)) (by decide +kernel)
theorem kd_X11_18 {C : qCx} {w : qWp} {cc : ByteArray} {nL dp n0 n1 pc : Nat} (h : qOk C w RX11 cc nL dp n0 n1) (d : decode cc pc = .ok (.invokespecial 18, 3)) : qCallOk C w nL dp n0 n1 pc 2 2 yX6_init (.code yX6_init cX6_init 2 none) := kindI h d ml_X11_18 im_X6_init in_ParentEve_Reader co_X6_init yk_X6_init (by decide) rfl
theorem mf_X11_21 : Jvm.Cond.fieldLink RX11 21 (qTb 11 1).1 (qTb 11 1).2.1 (qTb 11 1).2.2.1 ∈ qTw := qm2 (List.mem_of_getElem? (i := 165) (by decide +kernel)) (by decide +kernel)
theorem ff_X11_21_0 : qFd RX11 21 0 11 1 3 := ⟨mf_X11_21, rfl, by decide, rfl⟩
theorem fn_X11_25 : Jvm.Cond.classLink RX11 25 RX7 ∈ qTw := qm1 (List.mem_of_getElem? (i := 71) (by decide +kernel)) (by decide +kernel)
theorem fi_ParentEve_Rules : Jvm.Cond.instantiable RX7 2 ∈ qTw := qm1 (List.mem_of_getElem? (i := 72) (by decide +kernel)) (by decide +kernel)
theorem in_ParentEve_Rules : Jvm.Cond.initialized "ParentEve$Rules" ∈ qTw := qm1 (List.mem_of_getElem? (i := 4) (by decide +kernel)) (by decide +kernel)
theorem im_X7_init : Jvm.Cond.instanceMethod yX7_init ∈ qTw := qm1 (List.mem_of_getElem? (i := 74) (by decide +kernel)) (by decide +kernel)
theorem co_X7_init : Jvm.Cond.code yX7_init cX7_init 2 none ∈ qTw := qm1 (List.mem_of_getElem? (i := 75) (by decide +kernel)) (by decide +kernel)
theorem yk_X7_init : qYk yX7_init 0 := ⟨⟨by decide +kernel, by decide +kernel⟩, by decide +kernel⟩
theorem ml_X11_27 : Jvm.Cond.methodLink RX11 27 yX7_init ∈ qTw := qm1 (List.mem_of_getElem? (i := 73) (by decide +kernel)) (by decide +kernel)
theorem kd_X11_27 {C : qCx} {w : qWp} {cc : ByteArray} {nL dp n0 n1 pc : Nat} (h : qOk C w RX11 cc nL dp n0 n1) (d : decode cc pc = .ok (.invokespecial 27, 3)) : qCallOk C w nL dp n0 n1 pc 1 2 yX7_init (.code yX7_init cX7_init 2 none) := kindI h d ml_X11_27 im_X7_init in_ParentEve_Rules co_X7_init yk_X7_init (by decide) rfl
theorem mf_X11_28 : Jvm.Cond.fieldLink RX11 28 (qTb 11 2).1 (qTb 11 2).2.1 (qTb 11 2).2.2.1 ∈ qTw := qm2 (List.mem_of_getElem? (i := 166) (by decide +kernel)) (by decide +kernel)
theorem ff_X11_28_0 : qFd RX11 28 0 11 2 3 := ⟨mf_X11_28, rfl, by decide, rfl⟩
theorem fn_X11_32 : Jvm.Cond.classLink RX11 32 RX10 ∈ qTw := qm1 (List.mem_of_getElem? (i := 86) (by decide +kernel)) (by decide +kernel)
theorem fi_ParentEve_Ways : Jvm.Cond.instantiable RX10 5 ∈ qTw := qm1 (List.mem_of_getElem? (i := 87) (by decide +kernel)) (by decide +kernel)
theorem in_ParentEve_Ways : Jvm.Cond.initialized "ParentEve$Ways" ∈ qTw := qm1 (List.mem_of_getElem? (i := 5) (by decide +kernel)) (by decide +kernel)
theorem im_X10_init : Jvm.Cond.instanceMethod yX10_init ∈ qTw := qm1 (List.mem_of_getElem? (i := 89) (by decide +kernel)) (by decide +kernel)
theorem co_X10_init : Jvm.Cond.code yX10_init cX10_init 2 none ∈ qTw := qm1 (List.mem_of_getElem? (i := 90) (by decide +kernel)) (by decide +kernel)
theorem yk_X10_init : qYk yX10_init 0 := ⟨⟨by decide +kernel, by decide +kernel⟩, by decide +kernel⟩
theorem ml_X11_34 : Jvm.Cond.methodLink RX11 34 yX10_init ∈ qTw := qm1 (List.mem_of_getElem? (i := 88) (by decide +kernel)) (by decide +kernel)
theorem kd_X11_34 {C : qCx} {w : qWp} {cc : ByteArray} {nL dp n0 n1 pc : Nat} (h : qOk C w RX11 cc nL dp n0 n1) (d : decode cc pc = .ok (.invokespecial 34, 3)) : qCallOk C w nL dp n0 n1 pc 1 2 yX10_init (.code yX10_init cX10_init 2 none) := kindI h d ml_X11_34 im_X10_init in_ParentEve_Ways co_X10_init yk_X10_init (by decide) rfl
theorem mf_X11_35 : Jvm.Cond.fieldLink RX11 35 (qTb 11 3).1 (qTb 11 3).2.1 (qTb 11 3).2.2.1 ∈ qTw := qm2 (List.mem_of_getElem? (i := 167) (by decide +kernel)) (by decide +kernel)
theorem ff_X11_35_0 : qFd RX11 35 0 11 3 3 := ⟨mf_X11_35, rfl, by decide, rfl⟩
theorem fn_X11_39 : Jvm.Cond.classLink RX11 39 RX3 ∈ qTw := qm1 (List.mem_of_getElem? (i := 137) (by decide +kernel)) (by decide +kernel)
theorem fi_ParentEve_People : Jvm.Cond.instantiable RX3 11 ∈ qTw := qm1 (List.mem_of_getElem? (i := 138) (by decide +kernel)) (by decide +kernel)
theorem in_ParentEve_People : Jvm.Cond.initialized "ParentEve$People" ∈ qTw := qm1 (List.mem_of_getElem? (i := 7) (by decide +kernel)) (by decide +kernel)
theorem im_X3_init : Jvm.Cond.instanceMethod yX3_init ∈ qTw := qm1 (List.mem_of_getElem? (i := 140) (by decide +kernel)) (by decide +kernel)
theorem co_X3_init : Jvm.Cond.code yX3_init cX3_init 3 none ∈ qTw := qm1 (List.mem_of_getElem? (i := 141) (by decide +kernel)) (by decide +kernel)
theorem yk_X3_init : qYk yX3_init 1 := ⟨⟨by decide +kernel, by decide +kernel⟩, by decide +kernel⟩
theorem ml_X11_41 : Jvm.Cond.methodLink RX11 41 yX3_init ∈ qTw := qm1 (List.mem_of_getElem? (i := 139) (by decide +kernel)) (by decide +kernel)
theorem kd_X11_41 {C : qCx} {w : qWp} {cc : ByteArray} {nL dp n0 n1 pc : Nat} (h : qOk C w RX11 cc nL dp n0 n1) (d : decode cc pc = .ok (.invokespecial 41, 3)) : qCallOk C w nL dp n0 n1 pc 2 2 yX3_init (.code yX3_init cX3_init 3 none) := kindI h d ml_X11_41 im_X3_init in_ParentEve_People co_X3_init yk_X3_init (by decide) rfl
theorem mf_X11_44 : Jvm.Cond.fieldLink RX11 44 (qTb 11 4).1 (qTb 11 4).2.1 (qTb 11 4).2.2.1 ∈ qTw := qm2 (List.mem_of_getElem? (i := 168) (by decide +kernel)) (by decide +kernel)
theorem ff_X11_44_0 : qFd RX11 44 0 11 4 3 := ⟨mf_X11_44, rfl, by decide, rfl⟩
theorem fn_X11_48 : Jvm.Cond.classLink RX11 48 RX4 ∈ qTw := qm1 (List.mem_of_getElem? (i := 178) (by decide +kernel)) (by decide +kernel)
theorem fi_ParentEve_Plan : Jvm.Cond.instantiable RX4 17 ∈ qTw := qm1 (List.mem_of_getElem? (i := 179) (by decide +kernel)) (by decide +kernel)
theorem in_ParentEve_Plan : Jvm.Cond.initialized "ParentEve$Plan" ∈ qTw := qm1 (List.mem_of_getElem? (i := 8) (by decide +kernel)) (by decide +kernel)
theorem im_X4_init : Jvm.Cond.instanceMethod yX4_init ∈ qTw := qm1 (List.mem_of_getElem? (i := 181) (by decide +kernel)) (by decide +kernel)
theorem co_X4_init : Jvm.Cond.code yX4_init cX4_init 4 none ∈ qTw := qm1 (List.mem_of_getElem? (i := 182) (by decide +kernel)) (by decide +kernel)
theorem yk_X4_init : qYk yX4_init 2 := ⟨⟨by decide +kernel, by decide +kernel⟩, by decide +kernel⟩
theorem ml_X11_50 : Jvm.Cond.methodLink RX11 50 yX4_init ∈ qTw := qm1 (List.mem_of_getElem? (i := 180) (by decide +kernel)) (by decide +kernel)
theorem kd_X11_50 {C : qCx} {w : qWp} {cc : ByteArray} {nL dp n0 n1 pc : Nat} (h : qOk C w RX11 cc nL dp n0 n1) (d : decode cc pc = .ok (.invokespecial 50, 3)) : qCallOk C w nL dp n0 n1 pc 3 2 yX4_init (.code yX4_init cX4_init 4 none) := kindI h d ml_X11_50 im_X4_init in_ParentEve_Plan co_X4_init yk_X4_init (by decide) rfl
theorem mf_X11_53 : Jvm.Cond.fieldLink RX11 53 (qTb 11 5).1 (qTb 11 5).2.1 (qTb 11 5).2.2.1 ∈ qTw := qm2 (List.mem_of_getElem? (i := 169) (by decide +kernel)) (by decide +kernel)
theorem ff_X11_53_0 : qFd RX11 53 0 11 5 3 := ⟨mf_X11_53, rfl, by decide, rfl⟩
theorem fn_X11_57 : Jvm.Cond.classLink RX11 57 RX0 ∈ qTw := qm1 (List.mem_of_getElem? (i := 237) (by decide +kernel)) (by decide +kernel)
theorem fi_ParentEve_Chooser : Jvm.Cond.instantiable RX0 14 ∈ qTw := qm1 (List.mem_of_getElem? (i := 238) (by decide +kernel)) (by decide +kernel)
theorem in_ParentEve_Chooser : Jvm.Cond.initialized "ParentEve$Chooser" ∈ qTw := qm1 (List.mem_of_getElem? (i := 9) (by decide +kernel)) (by decide +kernel)
theorem im_X0_init : Jvm.Cond.instanceMethod yX0_init ∈ qTw := qm2 (List.mem_of_getElem? (i := 0) (by decide +kernel)) (by decide +kernel)
theorem co_X0_init : Jvm.Cond.code yX0_init cX0_init 3 none ∈ qTw := qm2 (List.mem_of_getElem? (i := 1) (by decide +kernel)) (by decide +kernel)
theorem yk_X0_init : qYk yX0_init 2 := ⟨⟨by decide +kernel, by decide +kernel⟩, by decide +kernel⟩
theorem ml_X11_59 : Jvm.Cond.methodLink RX11 59 yX0_init ∈ qTw := qm1 (List.mem_of_getElem? (i := 239) (by decide +kernel)) (by decide +kernel)
theorem kd_X11_59 {C : qCx} {w : qWp} {cc : ByteArray} {nL dp n0 n1 pc : Nat} (h : qOk C w RX11 cc nL dp n0 n1) (d : decode cc pc = .ok (.invokespecial 59, 3)) : qCallOk C w nL dp n0 n1 pc 3 2 yX0_init (.code yX0_init cX0_init 3 none) := kindI h d ml_X11_59 im_X0_init in_ParentEve_Chooser co_X0_init yk_X0_init (by decide) rfl
theorem mf_X11_62 : Jvm.Cond.fieldLink RX11 62 (qTb 11 6).1 (qTb 11 6).2.1 (qTb 11 6).2.2.1 ∈ qTw := qm2 (List.mem_of_getElem? (i := 170) (by decide +kernel)) (by decide +kernel)
theorem ff_X11_62_0 : qFd RX11 62 0 11 6 3 := ⟨mf_X11_62, rfl, by decide, rfl⟩
theorem fn_X11_66 : Jvm.Cond.classLink RX11 66 RX9 ∈ qTw := qm2 (List.mem_of_getElem? (i := 47) (by decide +kernel)) (by decide +kernel)
theorem fi_ParentEve_Tellings : Jvm.Cond.instantiable RX9 6 ∈ qTw := qm2 (List.mem_of_getElem? (i := 48) (by decide +kernel)) (by decide +kernel)
theorem in_ParentEve_Tellings : Jvm.Cond.initialized "ParentEve$Tellings" ∈ qTw := qm1 (List.mem_of_getElem? (i := 10) (by decide +kernel)) (by decide +kernel)
theorem im_X9_init : Jvm.Cond.instanceMethod yX9_init ∈ qTw := qm2 (List.mem_of_getElem? (i := 50) (by decide +kernel)) (by decide +kernel)
theorem co_X9_init : Jvm.Cond.code yX9_init cX9_init 1 none ∈ qTw := qm2 (List.mem_of_getElem? (i := 51) (by decide +kernel)) (by decide +kernel)
theorem yk_X9_init : qYk yX9_init 0 := ⟨⟨by decide +kernel, by decide +kernel⟩, by decide +kernel⟩
theorem ml_X11_68 : Jvm.Cond.methodLinkNest RX11 68 yX9_init "ParentEve" ∈ qTw := qm2 (List.mem_of_getElem? (i := 49) (by decide +kernel)) (by decide +kernel)
theorem kd_X11_68 {C : qCx} {w : qWp} {cc : ByteArray} {nL dp n0 n1 pc : Nat} (h : qOk C w RX11 cc nL dp n0 n1) (d : decode cc pc = .ok (.invokespecial 68, 3)) : qCallOk C w nL dp n0 n1 pc 1 2 yX9_init (.code yX9_init cX9_init 1 none) := kindIN h d ml_X11_68 im_X9_init in_ParentEve_Tellings co_X9_init yk_X9_init (by decide) rfl
theorem mf_X11_69 : Jvm.Cond.fieldLink RX11 69 (qTb 11 7).1 (qTb 11 7).2.1 (qTb 11 7).2.2.1 ∈ qTw := qm2 (List.mem_of_getElem? (i := 171) (by decide +kernel)) (by decide +kernel)
theorem ff_X11_69_0 : qFd RX11 69 0 11 7 3 := ⟨mf_X11_69, rfl, by decide, rfl⟩
theorem fn_X11_73 : Jvm.Cond.classLink RX11 73 RX1 ∈ qTw := qm2 (List.mem_of_getElem? (i := 72) (by decide +kernel)) (by decide +kernel)
theorem fi_ParentEve_Evening : Jvm.Cond.instantiable RX1 19 ∈ qTw := qm2 (List.mem_of_getElem? (i := 73) (by decide +kernel)) (by decide +kernel)
theorem in_ParentEve_Evening : Jvm.Cond.initialized "ParentEve$Evening" ∈ qTw := qm1 (List.mem_of_getElem? (i := 11) (by decide +kernel)) (by decide +kernel)
theorem im_X1_init : Jvm.Cond.instanceMethod yX1_init ∈ qTw := qm2 (List.mem_of_getElem? (i := 75) (by decide +kernel)) (by decide +kernel)
theorem co_X1_init : Jvm.Cond.code yX1_init cX1_init 6 none ∈ qTw := qm2 (List.mem_of_getElem? (i := 76) (by decide +kernel)) (by decide +kernel)
theorem yk_X1_init : qYk yX1_init 5 := ⟨⟨by decide +kernel, by decide +kernel⟩, by decide +kernel⟩
theorem ml_X11_75 : Jvm.Cond.methodLink RX11 75 yX1_init ∈ qTw := qm2 (List.mem_of_getElem? (i := 74) (by decide +kernel)) (by decide +kernel)
theorem kd_X11_75 {C : qCx} {w : qWp} {cc : ByteArray} {nL dp n0 n1 pc : Nat} (h : qOk C w RX11 cc nL dp n0 n1) (d : decode cc pc = .ok (.invokespecial 75, 3)) : qCallOk C w nL dp n0 n1 pc 6 2 yX1_init (.code yX1_init cX1_init 6 none) := kindI h d ml_X11_75 im_X1_init in_ParentEve_Evening co_X1_init yk_X1_init (by decide) rfl
theorem mf_X11_78 : Jvm.Cond.fieldLink RX11 78 (qTb 11 8).1 (qTb 11 8).2.1 (qTb 11 8).2.2.1 ∈ qTw := qm2 (List.mem_of_getElem? (i := 172) (by decide +kernel)) (by decide +kernel)
theorem ff_X11_78_0 : qFd RX11 78 0 11 8 3 := ⟨mf_X11_78, rfl, by decide, rfl⟩
theorem fn_X11_82 : Jvm.Cond.classLink RX11 82 RX2 ∈ qTw := qm2 (List.mem_of_getElem? (i := 136) (by decide +kernel)) (by decide +kernel)
theorem fi_ParentEve_Notes : Jvm.Cond.instantiable RX2 7 ∈ qTw := qm2 (List.mem_of_getElem? (i := 137) (by decide +kernel)) (by decide +kernel)
theorem in_ParentEve_Notes : Jvm.Cond.initialized "ParentEve$Notes" ∈ qTw := qm1 (List.mem_of_getElem? (i := 12) (by decide +kernel)) (by decide +kernel)
theorem im_X2_init : Jvm.Cond.instanceMethod yX2_init ∈ qTw := qm2 (List.mem_of_getElem? (i := 139) (by decide +kernel)) (by decide +kernel)
theorem co_X2_init : Jvm.Cond.code yX2_init cX2_init 2 none ∈ qTw := qm2 (List.mem_of_getElem? (i := 140) (by decide +kernel)) (by decide +kernel)
theorem yk_X2_init : qYk yX2_init 1 := ⟨⟨by decide +kernel, by decide +kernel⟩, by decide +kernel⟩
theorem ml_X11_84 : Jvm.Cond.methodLink RX11 84 yX2_init ∈ qTw := qm2 (List.mem_of_getElem? (i := 138) (by decide +kernel)) (by decide +kernel)
theorem kd_X11_84 {C : qCx} {w : qWp} {cc : ByteArray} {nL dp n0 n1 pc : Nat} (h : qOk C w RX11 cc nL dp n0 n1) (d : decode cc pc = .ok (.invokespecial 84, 3)) : qCallOk C w nL dp n0 n1 pc 2 2 yX2_init (.code yX2_init cX2_init 2 none) := kindI h d ml_X11_84 im_X2_init in_ParentEve_Notes co_X2_init yk_X2_init (by decide) rfl
theorem mf_X11_87 : Jvm.Cond.fieldLink RX11 87 (qTb 11 9).1 (qTb 11 9).2.1 (qTb 11 9).2.2.1 ∈ qTw := qm2 (List.mem_of_getElem? (i := 173) (by decide +kernel)) (by decide +kernel)
theorem ff_X11_87_0 : qFd RX11 87 0 11 9 3 := ⟨mf_X11_87, rfl, by decide, rfl⟩
theorem mf_X11_91 : Jvm.Cond.fieldLink RX11 91 (qTb 11 10).1 (qTb 11 10).2.1 (qTb 11 10).2.2.1 ∈ qTw := qm2 (List.mem_of_getElem? (i := 174) (by decide +kernel)) (by decide +kernel)
theorem ff_X11_91_0 : qFd RX11 91 0 11 10 1 := ⟨mf_X11_91, rfl, by decide, rfl⟩
theorem fo_X11_3 : Jvm.Cond.methodLink RX11 3 objectInit ∈ qTw := qm1 (List.mem_of_getElem? (i := 29) (by decide +kernel)) (by decide +kernel)
theorem dX11_init_0 : decode cX11_init 0 = .ok (.aload_n 0, 1) := by decide +kernel
theorem dX11_init_1 : decode cX11_init 1 = .ok (.invokespecial 3, 3) := by decide +kernel
theorem dX11_init_4 : decode cX11_init 4 = .ok (.aload_n 0, 1) := by decide +kernel
theorem dX11_init_5 : decode cX11_init 5 = .ok (.new 9, 3) := by decide +kernel
theorem dX11_init_8 : decode cX11_init 8 = .ok (.dup, 1) := by decide +kernel
theorem dX11_init_9 : decode cX11_init 9 = .ok (.invokespecial 11, 3) := by decide +kernel
theorem dX11_init_12 : decode cX11_init 12 = .ok (.putfield 12, 3) := by decide +kernel
theorem dX11_init_15 : decode cX11_init 15 = .ok (.aload_n 0, 1) := by decide +kernel
theorem dX11_init_16 : decode cX11_init 16 = .ok (.new 16, 3) := by decide +kernel
theorem dX11_init_19 : decode cX11_init 19 = .ok (.dup, 1) := by decide +kernel
theorem dX11_init_20 : decode cX11_init 20 = .ok (.aload_n 0, 1) := by decide +kernel
theorem dX11_init_21 : decode cX11_init 21 = .ok (.getfield 12, 3) := by decide +kernel
theorem dX11_init_24 : decode cX11_init 24 = .ok (.invokespecial 18, 3) := by decide +kernel
theorem dX11_init_27 : decode cX11_init 27 = .ok (.putfield 21, 3) := by decide +kernel
theorem dX11_init_30 : decode cX11_init 30 = .ok (.aload_n 0, 1) := by decide +kernel
theorem dX11_init_31 : decode cX11_init 31 = .ok (.new 25, 3) := by decide +kernel
theorem dX11_init_34 : decode cX11_init 34 = .ok (.dup, 1) := by decide +kernel
theorem dX11_init_35 : decode cX11_init 35 = .ok (.invokespecial 27, 3) := by decide +kernel
theorem dX11_init_38 : decode cX11_init 38 = .ok (.putfield 28, 3) := by decide +kernel
theorem dX11_init_41 : decode cX11_init 41 = .ok (.aload_n 0, 1) := by decide +kernel
theorem dX11_init_42 : decode cX11_init 42 = .ok (.new 32, 3) := by decide +kernel
theorem dX11_init_45 : decode cX11_init 45 = .ok (.dup, 1) := by decide +kernel
theorem dX11_init_46 : decode cX11_init 46 = .ok (.invokespecial 34, 3) := by decide +kernel
theorem dX11_init_49 : decode cX11_init 49 = .ok (.putfield 35, 3) := by decide +kernel
theorem dX11_init_52 : decode cX11_init 52 = .ok (.aload_n 0, 1) := by decide +kernel
theorem dX11_init_53 : decode cX11_init 53 = .ok (.new 39, 3) := by decide +kernel
theorem dX11_init_56 : decode cX11_init 56 = .ok (.dup, 1) := by decide +kernel
theorem dX11_init_57 : decode cX11_init 57 = .ok (.aload_n 0, 1) := by decide +kernel
theorem dX11_init_58 : decode cX11_init 58 = .ok (.getfield 28, 3) := by decide +kernel
theorem dX11_init_61 : decode cX11_init 61 = .ok (.invokespecial 41, 3) := by decide +kernel
theorem dX11_init_64 : decode cX11_init 64 = .ok (.putfield 44, 3) := by decide +kernel
theorem dX11_init_67 : decode cX11_init 67 = .ok (.aload_n 0, 1) := by decide +kernel
theorem dX11_init_68 : decode cX11_init 68 = .ok (.new 48, 3) := by decide +kernel
theorem dX11_init_71 : decode cX11_init 71 = .ok (.dup, 1) := by decide +kernel
theorem dX11_init_72 : decode cX11_init 72 = .ok (.aload_n 0, 1) := by decide +kernel
theorem dX11_init_73 : decode cX11_init 73 = .ok (.getfield 28, 3) := by decide +kernel
theorem dX11_init_76 : decode cX11_init 76 = .ok (.aload_n 0, 1) := by decide +kernel
theorem dX11_init_77 : decode cX11_init 77 = .ok (.getfield 44, 3) := by decide +kernel
theorem dX11_init_80 : decode cX11_init 80 = .ok (.invokespecial 50, 3) := by decide +kernel
theorem dX11_init_83 : decode cX11_init 83 = .ok (.putfield 53, 3) := by decide +kernel
theorem dX11_init_86 : decode cX11_init 86 = .ok (.aload_n 0, 1) := by decide +kernel
theorem dX11_init_87 : decode cX11_init 87 = .ok (.new 57, 3) := by decide +kernel
theorem dX11_init_90 : decode cX11_init 90 = .ok (.dup, 1) := by decide +kernel
theorem dX11_init_91 : decode cX11_init 91 = .ok (.aload_n 0, 1) := by decide +kernel
theorem dX11_init_92 : decode cX11_init 92 = .ok (.getfield 44, 3) := by decide +kernel
theorem dX11_init_95 : decode cX11_init 95 = .ok (.aload_n 0, 1) := by decide +kernel
theorem dX11_init_96 : decode cX11_init 96 = .ok (.getfield 53, 3) := by decide +kernel
theorem dX11_init_99 : decode cX11_init 99 = .ok (.invokespecial 59, 3) := by decide +kernel
theorem dX11_init_102 : decode cX11_init 102 = .ok (.putfield 62, 3) := by decide +kernel
theorem dX11_init_105 : decode cX11_init 105 = .ok (.aload_n 0, 1) := by decide +kernel
theorem dX11_init_106 : decode cX11_init 106 = .ok (.new 66, 3) := by decide +kernel
theorem dX11_init_109 : decode cX11_init 109 = .ok (.dup, 1) := by decide +kernel
theorem dX11_init_110 : decode cX11_init 110 = .ok (.invokespecial 68, 3) := by decide +kernel
theorem dX11_init_113 : decode cX11_init 113 = .ok (.putfield 69, 3) := by decide +kernel
theorem dX11_init_116 : decode cX11_init 116 = .ok (.aload_n 0, 1) := by decide +kernel
theorem dX11_init_117 : decode cX11_init 117 = .ok (.new 73, 3) := by decide +kernel
theorem dX11_init_120 : decode cX11_init 120 = .ok (.dup, 1) := by decide +kernel
theorem dX11_init_121 : decode cX11_init 121 = .ok (.aload_n 0, 1) := by decide +kernel
theorem dX11_init_122 : decode cX11_init 122 = .ok (.getfield 28, 3) := by decide +kernel
theorem dX11_init_125 : decode cX11_init 125 = .ok (.aload_n 0, 1) := by decide +kernel
theorem dX11_init_126 : decode cX11_init 126 = .ok (.getfield 35, 3) := by decide +kernel
theorem dX11_init_129 : decode cX11_init 129 = .ok (.aload_n 0, 1) := by decide +kernel
theorem dX11_init_130 : decode cX11_init 130 = .ok (.getfield 44, 3) := by decide +kernel
theorem dX11_init_133 : decode cX11_init 133 = .ok (.aload_n 0, 1) := by decide +kernel
theorem dX11_init_134 : decode cX11_init 134 = .ok (.getfield 53, 3) := by decide +kernel
theorem dX11_init_137 : decode cX11_init 137 = .ok (.aload_n 0, 1) := by decide +kernel
theorem dX11_init_138 : decode cX11_init 138 = .ok (.getfield 69, 3) := by decide +kernel
theorem dX11_init_141 : decode cX11_init 141 = .ok (.invokespecial 75, 3) := by decide +kernel
theorem dX11_init_144 : decode cX11_init 144 = .ok (.putfield 78, 3) := by decide +kernel
theorem dX11_init_147 : decode cX11_init 147 = .ok (.aload_n 0, 1) := by decide +kernel
theorem dX11_init_148 : decode cX11_init 148 = .ok (.new 82, 3) := by decide +kernel
theorem dX11_init_151 : decode cX11_init 151 = .ok (.dup, 1) := by decide +kernel
theorem dX11_init_152 : decode cX11_init 152 = .ok (.aload_n 0, 1) := by decide +kernel
theorem dX11_init_153 : decode cX11_init 153 = .ok (.getfield 53, 3) := by decide +kernel
theorem dX11_init_156 : decode cX11_init 156 = .ok (.invokespecial 84, 3) := by decide +kernel
theorem dX11_init_159 : decode cX11_init 159 = .ok (.putfield 87, 3) := by decide +kernel
theorem dX11_init_162 : decode cX11_init 162 = .ok (.aload_n 0, 1) := by decide +kernel
theorem dX11_init_163 : decode cX11_init 163 = .ok (.iconst 0, 1) := by decide +kernel
theorem dX11_init_164 : decode cX11_init 164 = .ok (.putfield 91, 3) := by decide +kernel
theorem dX11_init_167 : decode cX11_init 167 = .ok (.return_, 1) := by decide +kernel
noncomputable def fX11_init_0 (m : qM) : Option (Unit × qM) :=
  let m1 := (qz m 1); qbV (fX8_init m1) (fun m2 => let m3 := (sR m2 0 0 (some 1)); let m4 := (qz m3 3); qbN (gR m4 0 0) (fun q5 => bif Nat.beq q5 1 then qbV (fX6_init m4) (fun m6 => let m7 := (sR m6 0 1 (some 3)); let m8 := (qz m7 4); qbV (fX7_init m8) (fun m9 => let m10 := (sR m9 0 2 (some 4)); let m11 := (qz m10 7); qbV (fX10_init m11) (fun m12 => let m13 := (sR m12 0 3 (some 7)); let m14 := (qz m13 47); qbN (gR m14 0 2) (fun q15 => bif Nat.beq q15 4 then qbV (fX3_init m14) (fun m16 => let m17 := (sR m16 0 4 (some 47)); let m18 := (qz m17 58); qbN (gR m18 0 2) (fun q19 => bif Nat.beq q19 4 then qbN (gR m18 0 4) (fun q20 => bif Nat.beq q20 47 then qbV (fX4_init m18) (fun m21 => let m22 := (sR m21 0 5 (some 58)); let m23 := (qz m22 68); qbN (gR m23 0 4) (fun q24 => bif Nat.beq q24 47 then qbN (gR m23 0 5) (fun q25 => bif Nat.beq q25 58 then qbV (fX0_init m23) (fun m26 => let m27 := (sR m26 0 6 (some 68)); let m28 := (qz m27 74); qbV (fX9_init m28) (fun m29 => let m30 := (sR m29 0 7 (some 74)); let m31 := (qz m30 80); qbN (gR m31 0 2) (fun q32 => bif Nat.beq q32 4 then qbN (gR m31 0 3) (fun q33 => bif Nat.beq q33 7 then qbN (gR m31 0 4) (fun q34 => bif Nat.beq q34 47 then qbN (gR m31 0 5) (fun q35 => bif Nat.beq q35 58 then qbN (gR m31 0 7) (fun q36 => bif Nat.beq q36 74 then qbV (fX1_init m31) (fun m37 => let m38 := (sR m37 0 8 (some 80)); let m39 := (qz m38 93); qbN (gR m39 0 5) (fun q40 => bif Nat.beq q40 58 then qbV (fX2_init m39) (fun m41 => let m42 := (sR m41 0 9 (some 93)); bif qb ((0 : Int32)) then let m43 := (sI m42 0 10 ((0 : Int32))); some ((), m43) else none) else none) none) else none) none else none) none else none) none else none) none else none) none)) else none) none else none) none) else none) none else none) none) else none) none))) else none) none)
noncomputable def tX11_init_0 : qT (Unit × qM) :=
  oLa 0 (oObj (oLa 0 (oNew 1 (oDup (oCv GX8_init 1 (oPr 0 0 (oLa 0 (oNew 3 (oDup (oLa 0 (oGr 0 0 (oIs 1 (oCv GX6_init 2 (oPr 0 1 (oLa 0 (oNew 4 (oDup (oCv GX7_init 1 (oPr 0 2 (oLa 0 (oNew 7 (oDup (oCv GX10_init 1 (oPr 0 3 (oLa 0 (oNew 47 (oDup (oLa 0 (oGr 0 2 (oIs 4 (oCv GX3_init 2 (oPr 0 4 (oLa 0 (oNew 58 (oDup (oLa 0 (oGr 0 2 (oIs 4 (oLa 0 (oGr 0 4 (oIs 47 (oCv GX4_init 3 (oPr 0 5 (oLa 0 (oNew 68 (oDup (oLa 0 (oGr 0 4 (oIs 47 (oLa 0 (oGr 0 5 (oIs 58 (oCv GX0_init 3 (oPr 0 6 (oLa 0 (oNew 74 (oDup (oCv GX9_init 1 (oPr 0 7 (oLa 0 (oNew 80 (oDup (oLa 0 (oGr 0 2 (oIs 4 (oLa 0 (oGr 0 3 (oIs 7 (oLa 0 (oGr 0 4 (oIs 47 (oLa 0 (oGr 0 5 (oIs 58 (oLa 0 (oGr 0 7 (oIs 74 (oCv GX1_init 6 (oPr 0 8 (oLa 0 (oNew 93 (oDup (oLa 0 (oGr 0 5 (oIs 58 (oCv GX2_init 2 (oPr 0 9 (oLa 0 (oC (.int (0 : Int32)) (oPz 0 10 (eV)))))))))))))))))))))))))))))))))))))))))))))))))))))))))))))))))))))))))))))))))))))))))))
set_option maxRecDepth 20000 in
theorem sX11_init_0 {C : qCx} {w : qWp} (h : qOk C w RX11 cX11_init 1 3 1 98) (hm : qMt C none) (hx : qNx C) (hin : C.2.2.2.2.2.2.2.2.1.name = "<init>") : qSnd C w 1 1 (qQf C w 1 98 jV) qf0 1 0 (tX11_init_0) :=
  cLa (pc := 0) h dX11_init_0 rfl (nObj (pc := 1) h dX11_init_1 fo_X11_3 fo_inst fo_code (by decide) (cLa (pc := 4) h dX11_init_4 rfl (nNew (pc := 5) h dX11_init_5 qCk_8 k4_8 rfl fn_X11_9 fi_ParentEve_Tape in_ParentEve_Tape (by decide) (by decide) (by decide) (fun _ => rfl) (aDup (pc := 8) h dX11_init_8 (kCv (pc := 9) h (kd_X11_11 h dX11_init_9) spX8_init (by decide) (by decide) (by decide) (by decide) (gPr (pc := 12) h dX11_init_12 ff_X11_12_0 (Or.inr ⟨rfl, hin, rfl⟩) (Nat.le_of_ble_eq_true rfl) (Nat.le_of_ble_eq_true rfl) rfl (cLa (pc := 15) h dX11_init_15 rfl (nNew (pc := 16) h dX11_init_16 qCk_6 k4_6 rfl fn_X11_16 fi_ParentEve_Reader in_ParentEve_Reader (by decide) (by decide) (by decide) (fun _ => rfl) (aDup (pc := 19) h dX11_init_19 (cLa (pc := 20) h dX11_init_20 rfl (gGr (pc := 21) h dX11_init_21 ff_X11_12_0 (Nat.le_of_ble_eq_true rfl) (Nat.le_of_ble_eq_true rfl) rfl (nIs (kCv (pc := 24) h (kd_X11_18 h dX11_init_24) spX6_init (by decide) (by decide) (by decide) (by decide) (gPr (pc := 27) h dX11_init_27 ff_X11_21_0 (Or.inr ⟨rfl, hin, rfl⟩) (Nat.le_of_ble_eq_true rfl) (Nat.le_of_ble_eq_true rfl) rfl (cLa (pc := 30) h dX11_init_30 rfl (nNew (pc := 31) h dX11_init_31 qCk_7 k4_7 rfl fn_X11_25 fi_ParentEve_Rules in_ParentEve_Rules (by decide) (by decide) (by decide) (fun _ => rfl) (aDup (pc := 34) h dX11_init_34 (kCv (pc := 35) h (kd_X11_27 h dX11_init_35) spX7_init (by decide) (by decide) (by decide) (by decide) (gPr (pc := 38) h dX11_init_38 ff_X11_28_0 (Or.inr ⟨rfl, hin, rfl⟩) (Nat.le_of_ble_eq_true rfl) (Nat.le_of_ble_eq_true rfl) rfl (cLa (pc := 41) h dX11_init_41 rfl (nNew (pc := 42) h dX11_init_42 qCk_10 k4_10 rfl fn_X11_32 fi_ParentEve_Ways in_ParentEve_Ways (by decide) (by decide) (by decide) (fun _ => rfl) (aDup (pc := 45) h dX11_init_45 (kCv (pc := 46) h (kd_X11_34 h dX11_init_46) spX10_init (by decide) (by decide) (by decide) (by decide) (gPr (pc := 49) h dX11_init_49 ff_X11_35_0 (Or.inr ⟨rfl, hin, rfl⟩) (Nat.le_of_ble_eq_true rfl) (Nat.le_of_ble_eq_true rfl) rfl (cLa (pc := 52) h dX11_init_52 rfl (nNew (pc := 53) h dX11_init_53 qCk_3 k4_3 rfl fn_X11_39 fi_ParentEve_People in_ParentEve_People (by decide) (by decide) (by decide) (fun _ => rfl) (aDup (pc := 56) h dX11_init_56 (cLa (pc := 57) h dX11_init_57 rfl (gGr (pc := 58) h dX11_init_58 ff_X11_28_0 (Nat.le_of_ble_eq_true rfl) (Nat.le_of_ble_eq_true rfl) rfl (nIs (kCv (pc := 61) h (kd_X11_41 h dX11_init_61) spX3_init (by decide) (by decide) (by decide) (by decide) (gPr (pc := 64) h dX11_init_64 ff_X11_44_0 (Or.inr ⟨rfl, hin, rfl⟩) (Nat.le_of_ble_eq_true rfl) (Nat.le_of_ble_eq_true rfl) rfl (cLa (pc := 67) h dX11_init_67 rfl (nNew (pc := 68) h dX11_init_68 qCk_4 k4_4 rfl fn_X11_48 fi_ParentEve_Plan in_ParentEve_Plan (by decide) (by decide) (by decide) (fun _ => rfl) (aDup (pc := 71) h dX11_init_71 (cLa (pc := 72) h dX11_init_72 rfl (gGr (pc := 73) h dX11_init_73 ff_X11_28_0 (Nat.le_of_ble_eq_true rfl) (Nat.le_of_ble_eq_true rfl) rfl (nIs (cLa (pc := 76) h dX11_init_76 rfl (gGr (pc := 77) h dX11_init_77 ff_X11_44_0 (Nat.le_of_ble_eq_true rfl) (Nat.le_of_ble_eq_true rfl) rfl (nIs (kCv (pc := 80) h (kd_X11_50 h dX11_init_80) spX4_init (by decide) (by decide) (by decide) (by decide) (gPr (pc := 83) h dX11_init_83 ff_X11_53_0 (Or.inr ⟨rfl, hin, rfl⟩) (Nat.le_of_ble_eq_true rfl) (Nat.le_of_ble_eq_true rfl) rfl (cLa (pc := 86) h dX11_init_86 rfl (nNew (pc := 87) h dX11_init_87 qCk_0 k4_0 rfl fn_X11_57 fi_ParentEve_Chooser in_ParentEve_Chooser (by decide) (by decide) (by decide) (fun _ => rfl) (aDup (pc := 90) h dX11_init_90 (cLa (pc := 91) h dX11_init_91 rfl (gGr (pc := 92) h dX11_init_92 ff_X11_44_0 (Nat.le_of_ble_eq_true rfl) (Nat.le_of_ble_eq_true rfl) rfl (nIs (cLa (pc := 95) h dX11_init_95 rfl (gGr (pc := 96) h dX11_init_96 ff_X11_53_0 (Nat.le_of_ble_eq_true rfl) (Nat.le_of_ble_eq_true rfl) rfl (nIs (kCv (pc := 99) h (kd_X11_59 h dX11_init_99) spX0_init (by decide) (by decide) (by decide) (by decide) (gPr (pc := 102) h dX11_init_102 ff_X11_62_0 (Or.inr ⟨rfl, hin, rfl⟩) (Nat.le_of_ble_eq_true rfl) (Nat.le_of_ble_eq_true rfl) rfl (cLa (pc := 105) h dX11_init_105 rfl (nNew (pc := 106) h dX11_init_106 qCk_9 k4_9 rfl fn_X11_66 fi_ParentEve_Tellings in_ParentEve_Tellings (by decide) (by decide) (by decide) (fun _ => rfl) (aDup (pc := 109) h dX11_init_109 (kCv (pc := 110) h (kd_X11_68 h dX11_init_110) spX9_init (by decide) (by decide) (by decide) (by decide) (gPr (pc := 113) h dX11_init_113 ff_X11_69_0 (Or.inr ⟨rfl, hin, rfl⟩) (Nat.le_of_ble_eq_true rfl) (Nat.le_of_ble_eq_true rfl) rfl (cLa (pc := 116) h dX11_init_116 rfl (nNew (pc := 117) h dX11_init_117 qCk_1 k4_1 rfl fn_X11_73 fi_ParentEve_Evening in_ParentEve_Evening (by decide) (by decide) (by decide) (fun _ => rfl) (aDup (pc := 120) h dX11_init_120 (cLa (pc := 121) h dX11_init_121 rfl (gGr (pc := 122) h dX11_init_122 ff_X11_28_0 (Nat.le_of_ble_eq_true rfl) (Nat.le_of_ble_eq_true rfl) rfl (nIs (cLa (pc := 125) h dX11_init_125 rfl (gGr (pc := 126) h dX11_init_126 ff_X11_35_0 (Nat.le_of_ble_eq_true rfl) (Nat.le_of_ble_eq_true rfl) rfl (nIs (cLa (pc := 129) h dX11_init_129 rfl (gGr (pc := 130) h dX11_init_130 ff_X11_44_0 (Nat.le_of_ble_eq_true rfl) (Nat.le_of_ble_eq_true rfl) rfl (nIs (cLa (pc := 133) h dX11_init_133 rfl (gGr (pc := 134) h dX11_init_134 ff_X11_53_0 (Nat.le_of_ble_eq_true rfl) (Nat.le_of_ble_eq_true rfl) rfl (nIs (cLa (pc := 137) h dX11_init_137 rfl (gGr (pc := 138) h dX11_init_138 ff_X11_69_0 (Nat.le_of_ble_eq_true rfl) (Nat.le_of_ble_eq_true rfl) rfl (nIs (kCv (pc := 141) h (kd_X11_75 h dX11_init_141) spX1_init (by decide) (by decide) (by decide) (by decide) (gPr (pc := 144) h dX11_init_144 ff_X11_78_0 (Or.inr ⟨rfl, hin, rfl⟩) (Nat.le_of_ble_eq_true rfl) (Nat.le_of_ble_eq_true rfl) rfl (cLa (pc := 147) h dX11_init_147 rfl (nNew (pc := 148) h dX11_init_148 qCk_2 k4_2 rfl fn_X11_82 fi_ParentEve_Notes in_ParentEve_Notes (by decide) (by decide) (by decide) (fun _ => rfl) (aDup (pc := 151) h dX11_init_151 (cLa (pc := 152) h dX11_init_152 rfl (gGr (pc := 153) h dX11_init_153 ff_X11_53_0 (Nat.le_of_ble_eq_true rfl) (Nat.le_of_ble_eq_true rfl) rfl (nIs (kCv (pc := 156) h (kd_X11_84 h dX11_init_156) spX2_init (by decide) (by decide) (by decide) (by decide) (gPr (pc := 159) h dX11_init_159 ff_X11_87_0 (Or.inr ⟨rfl, hin, rfl⟩) (Nat.le_of_ble_eq_true rfl) (Nat.le_of_ble_eq_true rfl) rfl (cLa (pc := 162) h dX11_init_162 rfl (cC (pc := 163) h dX11_init_163 rfl (gPz (pc := 164) h dX11_init_164 ff_X11_91_0 (Or.inl rfl) (Nat.le_of_ble_eq_true rfl) (Nat.le_of_ble_eq_true rfl) (zV (pc := 167) h hm (by decide) dX11_init_167)))))))))))))))))))))))))))))))))))))))))))))))))))))))))))))))))))))))))))))))))))))))))) (fun _ _ => trivial))
set_option maxRecDepth 20000 in
theorem lX11_init_0 (m : qM) : tX11_init_0 [some (.ref 0)] [] m = fX11_init_0 m := rfl
theorem fX11_init_x : ∃ f : qM → Option (Unit × qM), f = fun m => fX11_init_0 m := ⟨_, rfl⟩
noncomputable def fX11_init : qM → Option (Unit × qM) := Classical.choose fX11_init_x
theorem fX11_init_d : fX11_init = fun m => fX11_init_0 m := Classical.choose_spec fX11_init_x
noncomputable def GX11_init : qG Unit := fun av m => match av with
  | [.ref 0] => fX11_init m
  | _ => none
theorem spX11_init : qSpV yX11_init (.code yX11_init cX11_init 1 none) 3 qf0 1 98 2 GX11_init := by
  intro av m m' hG
  unfold GX11_init at hG
  split at hG
  · rw [fX11_init_d] at hG
    exact ⟨qmeet (J := jV) (r := ((), m')) (av := [.ref 0]) (by decide +kernel) (Nat.le_of_ble_eq_true rfl) (fun C w h hm hx hn => sX11_init_0 h hm hx (by rw [hn]; rfl)) ((lX11_init_0 _).trans hG) (Nat.le_of_ble_eq_true rfl), ⟨0, _, rfl, by decide⟩⟩
  · cases hG
