/-! constructors (by program): no reference is final here, the world grows -/
def qf0 : Nat → Nat → Option Nat := fun _ _ => none
section
variable {ρ : Type}
noncomputable def oIs (q : Nat) (t : qT ρ) : qT ρ := fun lo st m => match st with
  | .ref x :: s => bif Nat.beq x q then t lo (.ref q :: s) m else none
  | _ => none
variable {C : qCx} {w : qWp} {nL n0 : Nat} {Qf : ρ → State → Prop} {fin : Nat → Nat → Option Nat} {n pc : Nat} {t : qT ρ}
theorem nIs {q : Nat} (kk : qSnd C w nL n0 Qf fin n pc t) : qSnd C w nL n0 Qf fin n pc (oIs q t) := by
  intro lo st m r hr hF H ls locs a2 a3 a4
  unfold oIs at hr
  split at hr
  · obtain ⟨rfl, h1⟩ := qbeq hr
    exact kk lo _ m r h1 hF H ls locs a2 a3 a4
  · cases hr
end
theorem qok_9 {n : Nat} (h : 9 < n) : ∀ q, (fun q => Nat.beq q 9) q = true → q < n ∧ qsh q = (0, 5) := fun q hq => by
  cases Nat.eq_of_beq_eq_true hq
  exact ⟨h, rfl⟩
theorem qok_19 {n : Nat} (h : 19 < n) : ∀ q, (fun q => Nat.beq q 19) q = true → q < n ∧ qsh q = (0, 5) := fun q hq => by
  cases Nat.eq_of_beq_eq_true hq
  exact ⟨h, rfl⟩
theorem qok_26 {n : Nat} (h : 26 < n) : ∀ q, (fun q => Nat.beq q 26) q = true → q < n ∧ qsh q = (0, 5) := fun q hq => by
  cases Nat.eq_of_beq_eq_true hq
  exact ⟨h, rfl⟩
theorem qok_33 {n : Nat} (h : 33 < n) : ∀ q, (fun q => Nat.beq q 33) q = true → q < n ∧ qsh q = (0, 5) := fun q hq => by
  cases Nat.eq_of_beq_eq_true hq
  exact ⟨h, rfl⟩
theorem qok_40 {n : Nat} (h : 40 < n) : ∀ q, (fun q => Nat.beq q 40) q = true → q < n ∧ qsh q = (0, 5) := fun q hq => by
  cases Nat.eq_of_beq_eq_true hq
  exact ⟨h, rfl⟩
theorem k4_0 : qK4 0 := by
  unfold qK4
  decide +kernel
theorem k4_1 : qK4 1 := by
  unfold qK4
  decide +kernel
theorem k4_2 : qK4 2 := by
  unfold qK4
  decide +kernel
theorem k4_3 : qK4 3 := by
  unfold qK4
  decide +kernel
theorem k4_4 : qK4 4 := by
  unfold qK4
  decide +kernel
theorem k4_5 : qK4 5 := by
  unfold qK4
  decide +kernel
theorem k4_6 : qK4 6 := by
  unfold qK4
  decide +kernel
theorem k4_7 : qK4 7 := by
  unfold qK4
  decide +kernel
theorem k4_8 : qK4 8 := by
  unfold qK4
  decide +kernel
theorem k4_9 : qK4 9 := by
  unfold qK4
  decide +kernel
theorem k4_10 : qK4 10 := by
  unfold qK4
  decide +kernel
theorem k4_11 : qK4 11 := by
  unfold qK4
  decide +kernel
theorem k4_12 : qK4 12 := by
  unfold qK4
  decide +kernel
theorem k4_13 : qK4 13 := by
  unfold qK4
  decide +kernel
theorem ac_int : Jvm.Cond.arrayClass .int ∈ qTw := qm1 (List.mem_of_getElem? (i := 45) (by decide +kernel)) (by decide +kernel)
theorem ac_boolean : Jvm.Cond.arrayClass .boolean ∈ qTw := qm1 (List.mem_of_getElem? (i := 236) (by decide +kernel)) (by decide +kernel)
theorem ac_byte : Jvm.Cond.arrayClass .byte ∈ qTw := qm3 (List.mem_of_getElem? (i := 127) (by decide +kernel)) (by decide +kernel)
theorem ac_long : Jvm.Cond.arrayClass .long ∈ qTw := qm2 (List.mem_of_getElem? (i := 46) (by decide +kernel)) (by decide +kernel)
def RJEx : String := "java/lang/Exception"
def RJTh : String := "java/lang/Throwable"
def yEx_init : MethodName := ⟨RJEx, "<init>", "(Ljava/lang/String;Ljava/lang/Throwable;ZZ)V"⟩
def yTh_init : MethodName := ⟨RJTh, "<init>", "(Ljava/lang/String;Ljava/lang/Throwable;ZZ)V"⟩
abbrev cEx_init : ByteArray := prog_16_method_5_code
abbrev cTh_init : ByteArray := prog_23_method_5_code
theorem mf_Th_7 : Jvm.Cond.fieldLink RJTh 7 (qTb 12 0).1 (qTb 12 0).2.1 (qTb 12 0).2.2.1 ∈ qTw := qm6 (List.mem_of_getElem? (i := 207) (by decide +kernel)) (by decide +kernel)
theorem ff_Th_7_109 : qFd RJTh 7 109 12 0 3 := ⟨mf_Th_7, rfl, by decide, rfl⟩
theorem mfz_Th_13 : Jvm.Cond.fieldLink RJTh 13 "java/lang/Throwable" "UNASSIGNED_STACK" "[Ljava/lang/StackTraceElement;" ∈ qTw := qm6 (List.mem_of_getElem? (i := 183) (by decide +kernel)) (by decide +kernel)
theorem fz_Th_13 {ρ : Type} {C : qCx} {w : qWp} {cc : ByteArray} {nL dp n0 n1 pc n : Nat} {Qf : ρ → State → Prop} {fin : Nat → Nat → Option Nat} {t : qT ρ} (h : qOk C w RJTh cc nL dp n0 n1) (d : decode cc pc = .ok (.getstatic 13, 3)) (k : qSnd C w nL n0 Qf fin n (pc + 3) t) : qSnd C w nL n0 Qf fin n pc (oC (.ref 10010) t) := cGs h d mfz_Th_13 (qOk_G h).2.2.2.2.2.2.1 k
theorem mf_Th_17 : Jvm.Cond.fieldLink RJTh 17 (qTb 12 1).1 (qTb 12 1).2.1 (qTb 12 1).2.2.1 ∈ qTw := qm6 (List.mem_of_getElem? (i := 208) (by decide +kernel)) (by decide +kernel)
theorem ff_Th_17_109 : qFd RJTh 17 109 12 1 3 := ⟨mf_Th_17, rfl, by decide, rfl⟩
theorem mfz_Th_20 : Jvm.Cond.fieldLink RJTh 20 "java/lang/Throwable" "SUPPRESSED_SENTINEL" "Ljava/util/List;" ∈ qTw := qm6 (List.mem_of_getElem? (i := 185) (by decide +kernel)) (by decide +kernel)
theorem fz_Th_20 {ρ : Type} {C : qCx} {w : qWp} {cc : ByteArray} {nL dp n0 n1 pc n : Nat} {Qf : ρ → State → Prop} {fin : Nat → Nat → Option Nat} {t : qT ρ} (h : qOk C w RJTh cc nL dp n0 n1) (d : decode cc pc = .ok (.getstatic 20, 3)) (k : qSnd C w nL n0 Qf fin n (pc + 3) t) : qSnd C w nL n0 Qf fin n pc (oC (.ref 10011) t) := cGs h d mfz_Th_20 (qOk_G h).2.2.2.2.2.2.2.1 k
theorem mf_Th_24 : Jvm.Cond.fieldLink RJTh 24 (qTb 12 2).1 (qTb 12 2).2.1 (qTb 12 2).2.2.1 ∈ qTw := qm6 (List.mem_of_getElem? (i := 209) (by decide +kernel)) (by decide +kernel)
theorem ff_Th_24_109 : qFd RJTh 24 109 12 2 3 := ⟨mf_Th_24, rfl, by decide, rfl⟩
theorem fo_Th_1 : Jvm.Cond.methodLink RJTh 1 objectInit ∈ qTw := qm6 (List.mem_of_getElem? (i := 182) (by decide +kernel)) (by decide +kernel)
theorem fo_inst : Jvm.Cond.instanceMethod objectInit ∈ qTw := qm1 (List.mem_of_getElem? (i := 30) (by decide +kernel)) (by decide +kernel)
theorem fo_code : Jvm.Cond.code objectInit ⟨#[0xb1]⟩ 1 none ∈ qTw := qm1 (List.mem_of_getElem? (i := 31) (by decide +kernel)) (by decide +kernel)
theorem mf_Th_31 : Jvm.Cond.fieldLink RJTh 31 (qTb 12 3).1 (qTb 12 3).2.1 (qTb 12 3).2.2.1 ∈ qTw := qm6 (List.mem_of_getElem? (i := 206) (by decide +kernel)) (by decide +kernel)
theorem ff_Th_31_109 : qFd RJTh 31 109 12 3 3 := ⟨mf_Th_31, rfl, by decide, rfl⟩
theorem dTh_init_0 : decode cTh_init 0 = .ok (.aload_n 0, 1) := by decide +kernel
theorem dTh_init_1 : decode cTh_init 1 = .ok (.invokespecial 1, 3) := by decide +kernel
theorem dTh_init_4 : decode cTh_init 4 = .ok (.aload_n 0, 1) := by decide +kernel
theorem dTh_init_5 : decode cTh_init 5 = .ok (.aload_n 0, 1) := by decide +kernel
theorem dTh_init_6 : decode cTh_init 6 = .ok (.putfield 7, 3) := by decide +kernel
theorem dTh_init_9 : decode cTh_init 9 = .ok (.aload_n 0, 1) := by decide +kernel
theorem dTh_init_10 : decode cTh_init 10 = .ok (.getstatic 13, 3) := by decide +kernel
theorem dTh_init_13 : decode cTh_init 13 = .ok (.putfield 17, 3) := by decide +kernel
theorem dTh_init_16 : decode cTh_init 16 = .ok (.aload_n 0, 1) := by decide +kernel
theorem dTh_init_17 : decode cTh_init 17 = .ok (.getstatic 20, 3) := by decide +kernel
theorem dTh_init_20 : decode cTh_init 20 = .ok (.putfield 24, 3) := by decide +kernel
theorem dTh_init_23 : decode cTh_init 23 = .ok (.iload 4, 2) := by decide +kernel
theorem dTh_init_25 : decode cTh_init 25 = .ok (.ifCond .eq 11, 3) := by decide +kernel
theorem dTh_init_28 : decode cTh_init 28 = .ok (.aload_n 0, 1) := by decide +kernel
theorem dTh_init_36 : decode cTh_init 36 = .ok (.aload_n 0, 1) := by decide +kernel
theorem dTh_init_37 : decode cTh_init 37 = .ok (.aconst_null, 1) := by decide +kernel
theorem dTh_init_38 : decode cTh_init 38 = .ok (.putfield 17, 3) := by decide +kernel
theorem dTh_init_41 : decode cTh_init 41 = .ok (.aload_n 0, 1) := by decide +kernel
theorem dTh_init_42 : decode cTh_init 42 = .ok (.aload_n 1, 1) := by decide +kernel
theorem dTh_init_43 : decode cTh_init 43 = .ok (.putfield 31, 3) := by decide +kernel
theorem dTh_init_46 : decode cTh_init 46 = .ok (.aload_n 0, 1) := by decide +kernel
theorem dTh_init_47 : decode cTh_init 47 = .ok (.aload_n 2, 1) := by decide +kernel
theorem dTh_init_48 : decode cTh_init 48 = .ok (.putfield 7, 3) := by decide +kernel
theorem dTh_init_51 : decode cTh_init 51 = .ok (.iload_n 3, 1) := by decide +kernel
theorem dTh_init_52 : decode cTh_init 52 = .ok (.ifCond .ne 8, 3) := by decide +kernel
theorem dTh_init_55 : decode cTh_init 55 = .ok (.aload_n 0, 1) := by decide +kernel
theorem dTh_init_56 : decode cTh_init 56 = .ok (.aconst_null, 1) := by decide +kernel
theorem dTh_init_57 : decode cTh_init 57 = .ok (.putfield 24, 3) := by decide +kernel
theorem dTh_init_60 : decode cTh_init 60 = .ok (.return_, 1) := by decide +kernel
noncomputable def fTh_init_31 (m : qM) : Option (Unit × qM) :=
  some ((), m)
noncomputable def tTh_init_31 : qT (Unit × qM) :=
  eV
noncomputable def wTh_init_31 (k : qM → Option (Unit × qM)) : qT (Unit × qM) := fun lo st m => match lo, st with
  | [_, _, _, _, _], [] => k m
  | _, _ => none
set_option maxRecDepth 20000 in
theorem sTh_init_31 {C : qCx} {w : qWp} (h : qOk C w RJTh cTh_init 5 1 110 110) (hm : qMt C none) (hx : qNx C) (hin : C.2.2.2.2.2.2.2.2.1.name = "<init>") : qSnd C w 5 110 (qQf C w 110 110 jV) qf0 110 60 (tTh_init_31) :=
  zV (pc := 60) h hm (by decide) dTh_init_60
set_option maxRecDepth 20000 in
theorem lTh_init_31 (m : qM) : tTh_init_31 [none, none, none, none, none] [] m = fTh_init_31 m := rfl
theorem bTh_init_31 {C : qCx} {w : qWp} (h : qOk C w RJTh cTh_init 5 1 110 110) (hm : qMt C none) (hx : qNx C) (hin : C.2.2.2.2.2.2.2.2.1.name = "<init>") : qSnd C w 5 110 (qQf C w 110 110 jV) qf0 110 60 (wTh_init_31 fTh_init_31) :=
  qSnd_of (fun lo st m x hr0 => by
    unfold wTh_init_31 at hr0
    split at hr0
    · exact ⟨_, (qsub_n (qsub_n (qsub_n (qsub_n (qsub_n qsub_nil))))), (lTh_init_31 _).trans hr0⟩
    · cases hr0) (sTh_init_31 h hm hx hin)
noncomputable def fTh_init_20 (a3 : Int32) (m : qM) : Option (Unit × qM) :=
  let m5 := (sR m 109 3 none); let m6 := (sR m5 109 0 none); bif eqb a3 ((0 : Int32)) then let m7 := (sR m6 109 2 none); fTh_init_31 m7 else fTh_init_31 m6
noncomputable def tTh_init_20 (j31 : qT (Unit × qM)) : qT (Unit × qM) :=
  oLa 0 (oLa 1 (oPr 109 3 (oLa 0 (oLa 2 (oPr 109 0 (oLi 3 (oEq (oLa 0 (oC .null (oPr 109 2 (j31)))) (j31))))))))
noncomputable def wTh_init_20 (k : Int32 → qM → Option (Unit × qM)) : qT (Unit × qM) := fun lo st m => match lo, st with
  | [some (.ref 109), some .null, some .null, some (.int a3), _], [] => k a3 m
  | _, _ => none
set_option maxRecDepth 20000 in
theorem sTh_init_20 {C : qCx} {w : qWp} (h : qOk C w RJTh cTh_init 5 1 110 110) (hm : qMt C none) (hx : qNx C) (hin : C.2.2.2.2.2.2.2.2.1.name = "<init>") {j31 : qT (Unit × qM)} (k31 : qSnd C w 5 110 (qQf C w 110 110 jV) qf0 110 60 j31) : qSnd C w 5 110 (qQf C w 110 110 jV) qf0 110 41 (tTh_init_20 j31) :=
  cLa (pc := 41) h dTh_init_41 rfl (cLa (pc := 42) h dTh_init_42 rfl (gPr (pc := 43) h dTh_init_43 ff_Th_31_109 (Or.inl rfl) (Nat.le_of_ble_eq_true rfl) (Nat.le_of_ble_eq_true rfl) rfl (cLa (pc := 46) h dTh_init_46 rfl (cLa (pc := 47) h dTh_init_47 rfl (gPr (pc := 48) h dTh_init_48 ff_Th_7_109 (Or.inl rfl) (Nat.le_of_ble_eq_true rfl) (Nat.le_of_ble_eq_true rfl) rfl (cLi (pc := 51) h dTh_init_51 rfl (jNe (pc := 52) h dTh_init_52 rfl (k31) (cLa (pc := 55) h dTh_init_55 rfl (aNull (pc := 56) h dTh_init_56 (gPr (pc := 57) h dTh_init_57 ff_Th_24_109 (Or.inl rfl) (Nat.le_of_ble_eq_true rfl) (Nat.le_of_ble_eq_true rfl) rfl (k31)))))))))))
set_option maxRecDepth 20000 in
theorem lTh_init_20 (a3 : Int32) (m : qM) : tTh_init_20 (wTh_init_31 fTh_init_31) [some (.ref 109), some .null, some .null, some (.int a3), none] [] m = fTh_init_20 a3 m := rfl
theorem bTh_init_20 {C : qCx} {w : qWp} (h : qOk C w RJTh cTh_init 5 1 110 110) (hm : qMt C none) (hx : qNx C) (hin : C.2.2.2.2.2.2.2.2.1.name = "<init>") : qSnd C w 5 110 (qQf C w 110 110 jV) qf0 110 41 (wTh_init_20 fTh_init_20) :=
  qSnd_of (fun lo st m x hr0 => by
    unfold wTh_init_20 at hr0
    split at hr0
    · exact ⟨_, (qsub_e (qsub_e (qsub_e (qsub_e (qsub_n qsub_nil))))), (lTh_init_20 _ _).trans hr0⟩
    · cases hr0) (sTh_init_20 h hm hx hin (bTh_init_31 h hm hx hin))
noncomputable def fTh_init_0 (a3 : Int32) (a4 : Int32) (m : qM) : Option (Unit × qM) :=
  let m1 := (sR m 109 0 (some 109)); let m2 := (sR m1 109 1 (some 10010)); let m3 := (sR m2 109 2 (some 10011)); bif eqb a4 ((0 : Int32)) then let m4 := (sR m3 109 1 none); fTh_init_20 a3 m4 else none
noncomputable def tTh_init_0 (j20 : qT (Unit × qM)) : qT (Unit × qM) :=
  oLa 0 (oObj (oLa 0 (oLa 0 (oPr 109 0 (oLa 0 (oC (.ref 10010) (oPr 109 1 (oLa 0 (oC (.ref 10011) (oPr 109 2 (oLi 4 (oEq (oLa 0 (oC .null (oPr 109 1 (j20)))) (oLa 0 (fun _ _ _ => none))))))))))))))
set_option maxRecDepth 20000 in
theorem sTh_init_0 {C : qCx} {w : qWp} (h : qOk C w RJTh cTh_init 5 1 110 110) (hm : qMt C none) (hx : qNx C) (hin : C.2.2.2.2.2.2.2.2.1.name = "<init>") {j20 : qT (Unit × qM)} (k20 : qSnd C w 5 110 (qQf C w 110 110 jV) qf0 110 41 j20) : qSnd C w 5 110 (qQf C w 110 110 jV) qf0 110 0 (tTh_init_0 j20) :=
  cLa (pc := 0) h dTh_init_0 rfl (nObj (pc := 1) h dTh_init_1 fo_Th_1 fo_inst fo_code (by decide) (cLa (pc := 4) h dTh_init_4 rfl (cLa (pc := 5) h dTh_init_5 rfl (gPr (pc := 6) h dTh_init_6 ff_Th_7_109 (Or.inl rfl) (Nat.le_of_ble_eq_true rfl) (Nat.le_of_ble_eq_true rfl) rfl (cLa (pc := 9) h dTh_init_9 rfl (fz_Th_13 (pc := 10) h dTh_init_10 (gPr (pc := 13) h dTh_init_13 ff_Th_17_109 (Or.inl rfl) (Nat.le_of_ble_eq_true rfl) (Nat.le_of_ble_eq_true rfl) rfl (cLa (pc := 16) h dTh_init_16 rfl (fz_Th_20 (pc := 17) h dTh_init_17 (gPr (pc := 20) h dTh_init_20 ff_Th_24_109 (Or.inl rfl) (Nat.le_of_ble_eq_true rfl) (Nat.le_of_ble_eq_true rfl) rfl (cLI (pc := 23) h dTh_init_23 (jEq (pc := 25) h dTh_init_25 rfl (cLa (pc := 36) h dTh_init_36 rfl (aNull (pc := 37) h dTh_init_37 (gPr (pc := 38) h dTh_init_38 ff_Th_17_109 (Or.inl rfl) (Nat.le_of_ble_eq_true rfl) (Nat.le_of_ble_eq_true rfl) rfl (k20)))) (cLa (pc := 28) h dTh_init_28 rfl (qSnd_no))))))))))))) (fun _ _ => trivial))
set_option maxRecDepth 20000 in
theorem lTh_init_0 (a3 : Int32) (a4 : Int32) (m : qM) : tTh_init_0 (wTh_init_20 fTh_init_20) [some (.ref 109), some .null, some .null, some (.int a3), some (.int a4)] [] m = fTh_init_0 a3 a4 m := rfl
theorem fTh_init_x : ∃ f : Int32 → Int32 → qM → Option (Unit × qM), f = fun a3 a4 m => fTh_init_0 a3 a4 m := ⟨_, rfl⟩
noncomputable def fTh_init : Int32 → Int32 → qM → Option (Unit × qM) := Classical.choose fTh_init_x
theorem fTh_init_d : fTh_init = fun a3 a4 m => fTh_init_0 a3 a4 m := Classical.choose_spec fTh_init_x
noncomputable def GTh_init : qG Unit := fun av m => match av with
  | [.ref 109, .null, .null, .int a3, .int a4] => fTh_init a3 a4 m
  | _ => none
theorem spTh_init : qSpV yTh_init (.code yTh_init cTh_init 5 none) 1 qf0 110 110 2 GTh_init := by
  intro av m m' hG
  unfold GTh_init at hG
  split at hG
  · rename_i a3 a4
    rw [fTh_init_d] at hG
    exact ⟨qmeet (J := jV) (r := ((), m')) (av := [.ref 109, .null, .null, .int a3, .int a4]) (by decide +kernel) (Nat.le_of_ble_eq_true rfl) (fun C w h hm hx hn => sTh_init_0 h hm hx (by rw [hn]; rfl) (bTh_init_20 h hm hx (by rw [hn]; rfl))) ((lTh_init_0 _ _ _).trans hG) (Nat.le_of_ble_eq_true rfl), ⟨109, _, rfl, by decide⟩⟩
  · cases hG
theorem im_Th_init : Jvm.Cond.instanceMethod yTh_init ∈ qTw := qm6 (List.mem_of_getElem? (i := 203) (by decide +kernel)) (by decide +kernel)
theorem in_java_lang_Throwable : Jvm.Cond.initialized "java/lang/Throwable" ∈ qTw := qm1 (List.mem_of_getElem? (i := 14) (by decide +kernel)) (by decide +kernel)
theorem co_Th_init : Jvm.Cond.code yTh_init cTh_init 5 none ∈ qTw := qm6 (List.mem_of_getElem? (i := 204) (by decide +kernel)) (by decide +kernel)
theorem yk_Th_init : qYk yTh_init 4 := ⟨⟨by decide +kernel, by decide +kernel⟩, by decide +kernel⟩
theorem ml_Ex_16 : Jvm.Cond.methodLink RJEx 16 yTh_init ∈ qTw := qm6 (List.mem_of_getElem? (i := 202) (by decide +kernel)) (by decide +kernel)
theorem kd_Ex_16 {C : qCx} {w : qWp} {cc : ByteArray} {nL dp n0 n1 pc : Nat} (h : qOk C w RJEx cc nL dp n0 n1) (d : decode cc pc = .ok (.invokespecial 16, 3)) : qCallOk C w nL dp n0 n1 pc 5 2 yTh_init (.code yTh_init cTh_init 5 none) := kindI h d ml_Ex_16 im_Th_init in_java_lang_Throwable co_Th_init yk_Th_init (by decide) rfl
theorem dEx_init_0 : decode cEx_init 0 = .ok (.aload_n 0, 1) := by decide +kernel
theorem dEx_init_1 : decode cEx_init 1 = .ok (.aload_n 1, 1) := by decide +kernel
theorem dEx_init_2 : decode cEx_init 2 = .ok (.aload_n 2, 1) := by decide +kernel
theorem dEx_init_3 : decode cEx_init 3 = .ok (.iload_n 3, 1) := by decide +kernel
theorem dEx_init_4 : decode cEx_init 4 = .ok (.iload 4, 2) := by decide +kernel
theorem dEx_init_6 : decode cEx_init 6 = .ok (.invokespecial 16, 3) := by decide +kernel
theorem dEx_init_9 : decode cEx_init 9 = .ok (.return_, 1) := by decide +kernel
noncomputable def fEx_init_0 (a3 : Int32) (a4 : Int32) (m : qM) : Option (Unit × qM) :=
  qbV (fTh_init a3 a4 m) (fun m1 => some ((), m1))
noncomputable def tEx_init_0 : qT (Unit × qM) :=
  oLa 0 (oLa 1 (oLa 2 (oLi 3 (oLi 4 (oCv GTh_init 5 (eV))))))
set_option maxRecDepth 20000 in
theorem sEx_init_0 {C : qCx} {w : qWp} (h : qOk C w RJEx cEx_init 5 2 110 110) (hm : qMt C none) (hx : qNx C) (hin : C.2.2.2.2.2.2.2.2.1.name = "<init>") : qSnd C w 5 110 (qQf C w 110 110 jV) qf0 110 0 (tEx_init_0) :=
  cLa (pc := 0) h dEx_init_0 rfl (cLa (pc := 1) h dEx_init_1 rfl (cLa (pc := 2) h dEx_init_2 rfl (cLi (pc := 3) h dEx_init_3 rfl (cLI (pc := 4) h dEx_init_4 (kCv (pc := 6) h (kd_Ex_16 h dEx_init_6) spTh_init (by decide) (by decide) (by decide) (by decide) (zV (pc := 9) h hm (by decide) dEx_init_9))))))
set_option maxRecDepth 20000 in
theorem lEx_init_0 (a3 : Int32) (a4 : Int32) (m : qM) : tEx_init_0 [some (.ref 109), some .null, some .null, some (.int a3), some (.int a4)] [] m = fEx_init_0 a3 a4 m := rfl
theorem fEx_init_x : ∃ f : Int32 → Int32 → qM → Option (Unit × qM), f = fun a3 a4 m => fEx_init_0 a3 a4 m := ⟨_, rfl⟩
noncomputable def fEx_init : Int32 → Int32 → qM → Option (Unit × qM) := Classical.choose fEx_init_x
theorem fEx_init_d : fEx_init = fun a3 a4 m => fEx_init_0 a3 a4 m := Classical.choose_spec fEx_init_x
noncomputable def GEx_init : qG Unit := fun av m => match av with
  | [.ref 109, .null, .null, .int a3, .int a4] => fEx_init a3 a4 m
  | _ => none
theorem spEx_init : qSpV yEx_init (.code yEx_init cEx_init 5 none) 2 qf0 110 110 2 GEx_init := by
  intro av m m' hG
  unfold GEx_init at hG
  split at hG
  · rename_i a3 a4
    rw [fEx_init_d] at hG
    exact ⟨qmeet (J := jV) (r := ((), m')) (av := [.ref 109, .null, .null, .int a3, .int a4]) (by decide +kernel) (Nat.le_of_ble_eq_true rfl) (fun C w h hm hx hn => sEx_init_0 h hm hx (by rw [hn]; rfl)) ((lEx_init_0 _ _ _).trans hG) (Nat.le_of_ble_eq_true rfl), ⟨109, _, rfl, by decide⟩⟩
  · cases hG
theorem im_Ex_init : Jvm.Cond.instanceMethod yEx_init ∈ qTw := qm6 (List.mem_of_getElem? (i := 200) (by decide +kernel)) (by decide +kernel)
theorem in_java_lang_Exception : Jvm.Cond.initialized "java/lang/Exception" ∈ qTw := qm1 (List.mem_of_getElem? (i := 15) (by decide +kernel)) (by decide +kernel)
theorem co_Ex_init : Jvm.Cond.code yEx_init cEx_init 5 none ∈ qTw := qm6 (List.mem_of_getElem? (i := 201) (by decide +kernel)) (by decide +kernel)
theorem yk_Ex_init : qYk yEx_init 4 := ⟨⟨by decide +kernel, by decide +kernel⟩, by decide +kernel⟩
theorem ml_X12_1 : Jvm.Cond.methodLink RX12 1 yEx_init ∈ qTw := qm6 (List.mem_of_getElem? (i := 199) (by decide +kernel)) (by decide +kernel)
theorem kd_X12_1 {C : qCx} {w : qWp} {cc : ByteArray} {nL dp n0 n1 pc : Nat} (h : qOk C w RX12 cc nL dp n0 n1) (d : decode cc pc = .ok (.invokespecial 1, 3)) : qCallOk C w nL dp n0 n1 pc 5 2 yEx_init (.code yEx_init cEx_init 5 none) := kindI h d ml_X12_1 im_Ex_init in_java_lang_Exception co_Ex_init yk_Ex_init (by decide) rfl
theorem dX12_init_0 : decode cX12_init 0 = .ok (.aload_n 0, 1) := by decide +kernel
theorem dX12_init_1 : decode cX12_init 1 = .ok (.aconst_null, 1) := by decide +kernel
theorem dX12_init_2 : decode cX12_init 2 = .ok (.aconst_null, 1) := by decide +kernel
theorem dX12_init_3 : decode cX12_init 3 = .ok (.iconst 0, 1) := by decide +kernel
theorem dX12_init_4 : decode cX12_init 4 = .ok (.iconst 0, 1) := by decide +kernel
theorem dX12_init_5 : decode cX12_init 5 = .ok (.invokespecial 1, 3) := by decide +kernel
theorem dX12_init_8 : decode cX12_init 8 = .ok (.return_, 1) := by decide +kernel
noncomputable def fX12_init_0 (m : qM) : Option (Unit × qM) :=
  qbV (fEx_init ((0 : Int32)) ((0 : Int32)) m) (fun m1 => some ((), m1))
noncomputable def tX12_init_0 : qT (Unit × qM) :=
  oLa 0 (oC .null (oC .null (oC (.int (0 : Int32)) (oC (.int (0 : Int32)) (oCv GEx_init 5 (eV))))))
set_option maxRecDepth 20000 in
theorem sX12_init_0 {C : qCx} {w : qWp} (h : qOk C w RX12 cX12_init 1 3 110 110) (hm : qMt C none) (hx : qNx C) (hin : C.2.2.2.2.2.2.2.2.1.name = "<init>") : qSnd C w 1 110 (qQf C w 110 110 jV) qf0 110 0 (tX12_init_0) :=
  cLa (pc := 0) h dX12_init_0 rfl (aNull (pc := 1) h dX12_init_1 (aNull (pc := 2) h dX12_init_2 (cC (pc := 3) h dX12_init_3 rfl (cC (pc := 4) h dX12_init_4 rfl (kCv (pc := 5) h (kd_X12_1 h dX12_init_5) spEx_init (by decide) (by decide) (by decide) (by decide) (zV (pc := 8) h hm (by decide) dX12_init_8))))))
set_option maxRecDepth 20000 in
theorem lX12_init_0 (m : qM) : tX12_init_0 [some (.ref 109)] [] m = fX12_init_0 m := rfl
theorem fX12_init_x : ∃ f : qM → Option (Unit × qM), f = fun m => fX12_init_0 m := ⟨_, rfl⟩
noncomputable def fX12_init : qM → Option (Unit × qM) := Classical.choose fX12_init_x
theorem fX12_init_d : fX12_init = fun m => fX12_init_0 m := Classical.choose_spec fX12_init_x
noncomputable def GX12_init : qG Unit := fun av m => match av with
  | [.ref 109] => fX12_init m
  | _ => none
theorem spX12_init : qSpV yX12_init (.code yX12_init cX12_init 1 none) 3 qf0 110 110 2 GX12_init := by
  intro av m m' hG
  unfold GX12_init at hG
  split at hG
  · rw [fX12_init_d] at hG
    exact ⟨qmeet (J := jV) (r := ((), m')) (av := [.ref 109]) (by decide +kernel) (Nat.le_of_ble_eq_true rfl) (fun C w h hm hx hn => sX12_init_0 h hm hx (by rw [hn]; rfl)) ((lX12_init_0 _).trans hG) (Nat.le_of_ble_eq_true rfl), ⟨109, _, rfl, by decide⟩⟩
  · cases hG
theorem mf_X8_9 : Jvm.Cond.fieldLink RX8 9 (qTb 8 0).1 (qTb 8 0).2.1 (qTb 8 0).2.2.1 ∈ qTw := qm1 (List.mem_of_getElem? (i := 38) (by decide +kernel)) (by decide +kernel)
theorem ff_X8_9_1 : qFd RX8 9 1 8 0 3 := ⟨mf_X8_9, rfl, by decide, rfl⟩
theorem mf_X8_15 : Jvm.Cond.fieldLink RX8 15 (qTb 8 1).1 (qTb 8 1).2.1 (qTb 8 1).2.2.1 ∈ qTw := qm1 (List.mem_of_getElem? (i := 39) (by decide +kernel)) (by decide +kernel)
theorem ff_X8_15_1 : qFd RX8 15 1 8 1 0 := ⟨mf_X8_15, rfl, by decide, rfl⟩
theorem fo_X8_3 : Jvm.Cond.methodLink RX8 3 objectInit ∈ qTw := qm1 (List.mem_of_getElem? (i := 37) (by decide +kernel)) (by decide +kernel)
theorem dX8_init_0 : decode cX8_init 0 = .ok (.aload_n 0, 1) := by decide +kernel
theorem dX8_init_1 : decode cX8_init 1 = .ok (.invokespecial 3, 3) := by decide +kernel
theorem dX8_init_4 : decode cX8_init 4 = .ok (.aload_n 0, 1) := by decide +kernel
theorem dX8_init_5 : decode cX8_init 5 = .ok (.sipush 400, 3) := by decide +kernel
theorem dX8_init_8 : decode cX8_init 8 = .ok (.newarray .int, 2) := by decide +kernel
theorem dX8_init_10 : decode cX8_init 10 = .ok (.putfield 9, 3) := by decide +kernel
theorem dX8_init_13 : decode cX8_init 13 = .ok (.aload_n 0, 1) := by decide +kernel
theorem dX8_init_14 : decode cX8_init 14 = .ok (.iconst 0, 1) := by decide +kernel
theorem dX8_init_15 : decode cX8_init 15 = .ok (.putfield 15, 3) := by decide +kernel
theorem dX8_init_18 : decode cX8_init 18 = .ok (.return_, 1) := by decide +kernel
noncomputable def fX8_init_0 (m : qM) : Option (Unit × qM) :=
  bif Nat.beq (Int32.toNatClampNeg ((400 : Int32))) 400 then (bif Nat.beq 400 0 then none else (let m1 := (qz m 2); let m2 := (sR m1 1 0 (some 2)); let m3 := (sI m2 1 1 ((0 : Int32))); some ((), m3))) else none
noncomputable def tX8_init_0 : qT (Unit × qM) :=
  oLa 0 (oObj (oLa 0 (oC (.int (400 : Int32)) (oNewa 2 400 (oPr 1 0 (oLa 0 (oC (.int (0 : Int32)) (oPi 1 1 (eV)))))))))
set_option maxRecDepth 20000 in
theorem sX8_init_0 {C : qCx} {w : qWp} (h : qOk C w RX8 cX8_init 1 1 2 3) (hm : qMt C none) (hx : qNx C) (hin : C.2.2.2.2.2.2.2.2.1.name = "<init>") : qSnd C w 1 2 (qQf C w 2 3 jV) qf0 2 0 (tX8_init_0) :=
  cLa (pc := 0) h dX8_init_0 rfl (nObj (pc := 1) h dX8_init_1 fo_X8_3 fo_inst fo_code (by decide) (cLa (pc := 4) h dX8_init_4 rfl (cS (pc := 5) h dX8_init_5 rfl (nNewi (pc := 8) h dX8_init_8 rfl ac_int (by decide) (by decide) (by decide) (by decide) (gPr (pc := 10) h dX8_init_10 ff_X8_9_1 (Or.inr ⟨rfl, hin, rfl⟩) (Nat.le_of_ble_eq_true rfl) (Nat.le_of_ble_eq_true rfl) rfl (cLa (pc := 13) h dX8_init_13 rfl (cC (pc := 14) h dX8_init_14 rfl (gPi (pc := 15) h dX8_init_15 ff_X8_15_1 (Or.inl rfl) (Nat.le_of_ble_eq_true rfl) (Nat.le_of_ble_eq_true rfl) (zV (pc := 18) h hm (by decide) dX8_init_18)))))))) (fun _ _ => trivial))
set_option maxRecDepth 20000 in
theorem lX8_init_0 (m : qM) : tX8_init_0 [some (.ref 1)] [] m = fX8_init_0 m := rfl
theorem fX8_init_x : ∃ f : qM → Option (Unit × qM), f = fun m => fX8_init_0 m := ⟨_, rfl⟩
noncomputable def fX8_init : qM → Option (Unit × qM) := Classical.choose fX8_init_x
theorem fX8_init_d : fX8_init = fun m => fX8_init_0 m := Classical.choose_spec fX8_init_x
noncomputable def GX8_init : qG Unit := fun av m => match av with
  | [.ref 1] => fX8_init m
  | _ => none
theorem spX8_init : qSpV yX8_init (.code yX8_init cX8_init 1 none) 1 qf0 2 3 2 GX8_init := by
  intro av m m' hG
  unfold GX8_init at hG
  split at hG
  · rw [fX8_init_d] at hG
    exact ⟨qmeet (J := jV) (r := ((), m')) (av := [.ref 1]) (by decide +kernel) (Nat.le_of_ble_eq_true rfl) (fun C w h hm hx hn => sX8_init_0 h hm hx (by rw [hn]; rfl)) ((lX8_init_0 _).trans hG) (Nat.le_of_ble_eq_true rfl), ⟨1, _, rfl, by decide⟩⟩
  · cases hG
theorem mf_X6_11 : Jvm.Cond.fieldLink RX6 11 (qTb 6 1).1 (qTb 6 1).2.1 (qTb 6 1).2.2.1 ∈ qTw := qm1 (List.mem_of_getElem? (i := 53) (by decide +kernel)) (by decide +kernel)
theorem ff_X6_11_3 : qFd RX6 11 3 6 1 0 := ⟨mf_X6_11, rfl, by decide, rfl⟩
theorem mf_X6_15 : Jvm.Cond.fieldLink RX6 15 (qTb 6 2).1 (qTb 6 2).2.1 (qTb 6 2).2.2.1 ∈ qTw := qm1 (List.mem_of_getElem? (i := 54) (by decide +kernel)) (by decide +kernel)
theorem ff_X6_15_3 : qFd RX6 15 3 6 2 0 := ⟨mf_X6_15, rfl, by decide, rfl⟩
theorem mf_X6_18 : Jvm.Cond.fieldLink RX6 18 (qTb 6 3).1 (qTb 6 3).2.1 (qTb 6 3).2.2.1 ∈ qTw := qm1 (List.mem_of_getElem? (i := 55) (by decide +kernel)) (by decide +kernel)
theorem ff_X6_18_3 : qFd RX6 18 3 6 3 0 := ⟨mf_X6_18, rfl, by decide, rfl⟩
theorem mf_X6_21 : Jvm.Cond.fieldLink RX6 21 (qTb 6 4).1 (qTb 6 4).2.1 (qTb 6 4).2.2.1 ∈ qTw := qm1 (List.mem_of_getElem? (i := 56) (by decide +kernel)) (by decide +kernel)
theorem ff_X6_21_3 : qFd RX6 21 3 6 4 0 := ⟨mf_X6_21, rfl, by decide, rfl⟩
theorem mf_X6_24 : Jvm.Cond.fieldLink RX6 24 (qTb 6 5).1 (qTb 6 5).2.1 (qTb 6 5).2.2.1 ∈ qTw := qm1 (List.mem_of_getElem? (i := 57) (by decide +kernel)) (by decide +kernel)
theorem ff_X6_24_3 : qFd RX6 24 3 6 5 0 := ⟨mf_X6_24, rfl, by decide, rfl⟩
theorem mf_X6_27 : Jvm.Cond.fieldLink RX6 27 (qTb 6 0).1 (qTb 6 0).2.1 (qTb 6 0).2.2.1 ∈ qTw := qm1 (List.mem_of_getElem? (i := 52) (by decide +kernel)) (by decide +kernel)
theorem ff_X6_27_3 : qFd RX6 27 3 6 0 3 := ⟨mf_X6_27, rfl, by decide, rfl⟩
theorem fo_X6_3 : Jvm.Cond.methodLink RX6 3 objectInit ∈ qTw := qm1 (List.mem_of_getElem? (i := 51) (by decide +kernel)) (by decide +kernel)
theorem dX6_init_0 : decode cX6_init 0 = .ok (.aload_n 0, 1) := by decide +kernel
theorem dX6_init_1 : decode cX6_init 1 = .ok (.invokespecial 3, 3) := by decide +kernel
theorem dX6_init_4 : decode cX6_init 4 = .ok (.aload_n 0, 1) := by decide +kernel
theorem dX6_init_5 : decode cX6_init 5 = .ok (.iconst 0, 1) := by decide +kernel
theorem dX6_init_6 : decode cX6_init 6 = .ok (.putfield 11, 3) := by decide +kernel
theorem dX6_init_9 : decode cX6_init 9 = .ok (.aload_n 0, 1) := by decide +kernel
theorem dX6_init_10 : decode cX6_init 10 = .ok (.iconst 0, 1) := by decide +kernel
theorem dX6_init_11 : decode cX6_init 11 = .ok (.putfield 15, 3) := by decide +kernel
theorem dX6_init_14 : decode cX6_init 14 = .ok (.aload_n 0, 1) := by decide +kernel
theorem dX6_init_15 : decode cX6_init 15 = .ok (.iconst 0, 1) := by decide +kernel
theorem dX6_init_16 : decode cX6_init 16 = .ok (.putfield 18, 3) := by decide +kernel
theorem dX6_init_19 : decode cX6_init 19 = .ok (.aload_n 0, 1) := by decide +kernel
theorem dX6_init_20 : decode cX6_init 20 = .ok (.iconst 0, 1) := by decide +kernel
theorem dX6_init_21 : decode cX6_init 21 = .ok (.putfield 21, 3) := by decide +kernel
theorem dX6_init_24 : decode cX6_init 24 = .ok (.aload_n 0, 1) := by decide +kernel
theorem dX6_init_25 : decode cX6_init 25 = .ok (.iconst (-1), 1) := by decide +kernel
theorem dX6_init_26 : decode cX6_init 26 = .ok (.putfield 24, 3) := by decide +kernel
theorem dX6_init_29 : decode cX6_init 29 = .ok (.aload_n 0, 1) := by decide +kernel
theorem dX6_init_30 : decode cX6_init 30 = .ok (.aload_n 1, 1) := by decide +kernel
theorem dX6_init_31 : decode cX6_init 31 = .ok (.putfield 27, 3) := by decide +kernel
theorem dX6_init_34 : decode cX6_init 34 = .ok (.return_, 1) := by decide +kernel
noncomputable def fX6_init_0 (m : qM) : Option (Unit × qM) :=
  let m1 := (sI m 3 1 ((0 : Int32))); let m2 := (sI m1 3 2 ((0 : Int32))); let m3 := (sI m2 3 3 ((0 : Int32))); let m4 := (sI m3 3 4 ((0 : Int32))); let m5 := (sI m4 3 5 ((-1 : Int32))); let m6 := (sR m5 3 0 (some 1)); some ((), m6)
noncomputable def tX6_init_0 : qT (Unit × qM) :=
  oLa 0 (oObj (oLa 0 (oC (.int (0 : Int32)) (oPi 3 1 (oLa 0 (oC (.int (0 : Int32)) (oPi 3 2 (oLa 0 (oC (.int (0 : Int32)) (oPi 3 3 (oLa 0 (oC (.int (0 : Int32)) (oPi 3 4 (oLa 0 (oC (.int (-1 : Int32)) (oPi 3 5 (oLa 0 (oLa 1 (oPr 3 0 (eV))))))))))))))))))))
set_option maxRecDepth 20000 in
theorem sX6_init_0 {C : qCx} {w : qWp} (h : qOk C w RX6 cX6_init 2 1 4 4) (hm : qMt C none) (hx : qNx C) (hin : C.2.2.2.2.2.2.2.2.1.name = "<init>") : qSnd C w 2 4 (qQf C w 4 4 jV) qf0 4 0 (tX6_init_0) :=
  cLa (pc := 0) h dX6_init_0 rfl (nObj (pc := 1) h dX6_init_1 fo_X6_3 fo_inst fo_code (by decide) (cLa (pc := 4) h dX6_init_4 rfl (cC (pc := 5) h dX6_init_5 rfl (gPi (pc := 6) h dX6_init_6 ff_X6_11_3 (Or.inl rfl) (Nat.le_of_ble_eq_true rfl) (Nat.le_of_ble_eq_true rfl) (cLa (pc := 9) h dX6_init_9 rfl (cC (pc := 10) h dX6_init_10 rfl (gPi (pc := 11) h dX6_init_11 ff_X6_15_3 (Or.inl rfl) (Nat.le_of_ble_eq_true rfl) (Nat.le_of_ble_eq_true rfl) (cLa (pc := 14) h dX6_init_14 rfl (cC (pc := 15) h dX6_init_15 rfl (gPi (pc := 16) h dX6_init_16 ff_X6_18_3 (Or.inl rfl) (Nat.le_of_ble_eq_true rfl) (Nat.le_of_ble_eq_true rfl) (cLa (pc := 19) h dX6_init_19 rfl (cC (pc := 20) h dX6_init_20 rfl (gPi (pc := 21) h dX6_init_21 ff_X6_21_3 (Or.inl rfl) (Nat.le_of_ble_eq_true rfl) (Nat.le_of_ble_eq_true rfl) (cLa (pc := 24) h dX6_init_24 rfl (cC (pc := 25) h dX6_init_25 rfl (gPi (pc := 26) h dX6_init_26 ff_X6_24_3 (Or.inl rfl) (Nat.le_of_ble_eq_true rfl) (Nat.le_of_ble_eq_true rfl) (cLa (pc := 29) h dX6_init_29 rfl (cLa (pc := 30) h dX6_init_30 rfl (gPr (pc := 31) h dX6_init_31 ff_X6_27_3 (Or.inr ⟨rfl, hin, rfl⟩) (Nat.le_of_ble_eq_true rfl) (Nat.le_of_ble_eq_true rfl) rfl (zV (pc := 34) h hm (by decide) dX6_init_34))))))))))))))))))) (fun _ _ => trivial))
set_option maxRecDepth 20000 in
theorem lX6_init_0 (m : qM) : tX6_init_0 [some (.ref 3), some (.ref 1)] [] m = fX6_init_0 m := rfl
theorem fX6_init_x : ∃ f : qM → Option (Unit × qM), f = fun m => fX6_init_0 m := ⟨_, rfl⟩
noncomputable def fX6_init : qM → Option (Unit × qM) := Classical.choose fX6_init_x
theorem fX6_init_d : fX6_init = fun m => fX6_init_0 m := Classical.choose_spec fX6_init_x
noncomputable def GX6_init : qG Unit := fun av m => match av with
  | [.ref 3, .ref 1] => fX6_init m
  | _ => none
theorem spX6_init : qSpV yX6_init (.code yX6_init cX6_init 2 none) 1 qf0 4 4 2 GX6_init := by
  intro av m m' hG
  unfold GX6_init at hG
  split at hG
  · rw [fX6_init_d] at hG
    exact ⟨qmeet (J := jV) (r := ((), m')) (av := [.ref 3, .ref 1]) (by decide +kernel) (Nat.le_of_ble_eq_true rfl) (fun C w h hm hx hn => sX6_init_0 h hm hx (by rw [hn]; rfl)) ((lX6_init_0 _).trans hG) (Nat.le_of_ble_eq_true rfl), ⟨3, _, rfl, by decide⟩⟩
  · cases hG
theorem mf_X7_9 : Jvm.Cond.fieldLink RX7 9 (qTb 7 0).1 (qTb 7 0).2.1 (qTb 7 0).2.2.1 ∈ qTw := qm1 (List.mem_of_getElem? (i := 79) (by decide +kernel)) (by decide +kernel)
theorem ff_X7_9_4 : qFd RX7 9 4 7 0 3 := ⟨mf_X7_9, rfl, by decide, rfl⟩
theorem mf_X7_15 : Jvm.Cond.fieldLink RX7 15 (qTb 7 1).1 (qTb 7 1).2.1 (qTb 7 1).2.2.1 ∈ qTw := qm1 (List.mem_of_getElem? (i := 80) (by decide +kernel)) (by decide +kernel)
theorem ff_X7_15_4 : qFd RX7 15 4 7 1 3 := ⟨mf_X7_15, rfl, by decide, rfl⟩
theorem fo_X7_3 : Jvm.Cond.methodLink RX7 3 objectInit ∈ qTw := qm1 (List.mem_of_getElem? (i := 76) (by decide +kernel)) (by decide +kernel)
theorem mfz_X7_18 : Jvm.Cond.fieldLinkNest RX7 18 "ParentEve" "RULE_UNTOLD" "[I" "ParentEve" ∈ qTw := qm1 (List.mem_of_getElem? (i := 77) (by decide +kernel)) (by decide +kernel)
theorem fz_X7_18 {ρ : Type} {C : qCx} {w : qWp} {cc : ByteArray} {nL dp n0 n1 pc n : Nat} {Qf : ρ → State → Prop} {fin : Nat → Nat → Option Nat} {t : qT ρ} (h : qOk C w RX7 cc nL dp n0 n1) (d : decode cc pc = .ok (.getstatic 18, 3)) (k : qSnd C w nL n0 Qf fin n (pc + 3) t) : qSnd C w nL n0 Qf fin n pc (oC (.ref 10000) t) := cGsN h d mfz_X7_18 (qOk_G h).2.2.2.1 k
theorem fx_10000 {C : qCx} {w : qWp} {own : String} {cc : ByteArray} {nL dp n0 n1 : Nat} (h : qOk C w own cc nL dp n0 n1) : ∃ a, w.2.1 10000 = .ref a ∧ va_T .int a 6 (fun i => .int (qx10000 i)) (qAd w.1) (qSt C) (qSt C).heap := (qOk_G h).1
theorem dX7_init_0 : decode cX7_init 0 = .ok (.aload_n 0, 1) := by decide +kernel
theorem dX7_init_1 : decode cX7_init 1 = .ok (.invokespecial 3, 3) := by decide +kernel
theorem dX7_init_4 : decode cX7_init 4 = .ok (.aload_n 0, 1) := by decide +kernel
theorem dX7_init_5 : decode cX7_init 5 = .ok (.bipush 6, 2) := by decide +kernel
theorem dX7_init_7 : decode cX7_init 7 = .ok (.newarray .int, 2) := by decide +kernel
theorem dX7_init_9 : decode cX7_init 9 = .ok (.putfield 9, 3) := by decide +kernel
theorem dX7_init_12 : decode cX7_init 12 = .ok (.aload_n 0, 1) := by decide +kernel
theorem dX7_init_13 : decode cX7_init 13 = .ok (.bipush 6, 2) := by decide +kernel
theorem dX7_init_15 : decode cX7_init 15 = .ok (.newarray .int, 2) := by decide +kernel
theorem dX7_init_17 : decode cX7_init 17 = .ok (.putfield 15, 3) := by decide +kernel
theorem dX7_init_20 : decode cX7_init 20 = .ok (.iconst 0, 1) := by decide +kernel
theorem dX7_init_21 : decode cX7_init 21 = .ok (.istore_n 1, 1) := by decide +kernel
theorem dX7_init_22 : decode cX7_init 22 = .ok (.iload_n 1, 1) := by decide +kernel
theorem dX7_init_23 : decode cX7_init 23 = .ok (.bipush 6, 2) := by decide +kernel
theorem dX7_init_25 : decode cX7_init 25 = .ok (.if_icmp .ge 20, 3) := by decide +kernel
theorem dX7_init_28 : decode cX7_init 28 = .ok (.aload_n 0, 1) := by decide +kernel
theorem dX7_init_29 : decode cX7_init 29 = .ok (.getfield 9, 3) := by decide +kernel
theorem dX7_init_32 : decode cX7_init 32 = .ok (.iload_n 1, 1) := by decide +kernel
theorem dX7_init_33 : decode cX7_init 33 = .ok (.getstatic 18, 3) := by decide +kernel
theorem dX7_init_36 : decode cX7_init 36 = .ok (.iload_n 1, 1) := by decide +kernel
theorem dX7_init_37 : decode cX7_init 37 = .ok (.iaload, 1) := by decide +kernel
theorem dX7_init_38 : decode cX7_init 38 = .ok (.iastore, 1) := by decide +kernel
theorem dX7_init_39 : decode cX7_init 39 = .ok (.iinc 1 1, 3) := by decide +kernel
theorem dX7_init_42 : decode cX7_init 42 = .ok (.goto (-20), 3) := by decide +kernel
theorem dX7_init_45 : decode cX7_init 45 = .ok (.return_, 1) := by decide +kernel
noncomputable def fX7_init_12 : Nat → Int32 → qM → Option (Unit × qM)
  | 0, _, _ => none
  | n + 1, a1, m =>
    bif leb ((6 : Int32)) a1 then some ((), m) else qbN (gR m 4 0) (fun q5 => bif Nat.beq q5 5 then bif inb a1 6 then bif inb a1 6 then let m6 := (sI m 5 (ix a1) ((qx10000 (ix a1)))); (fX7_init_12 n) ((a1 + (1 : Int32))) m6 else none else none else none) none
noncomputable def tX7_init_12 (j12 : qT (Unit × qM)) : qT (Unit × qM) :=
  oLi 1 (oC (.int (6 : Int32)) (oCGe (eV) (oLa 0 (oGr 4 0 (oIs 5 (oLi 1 (oC (.ref 10000) (oLi 1 (oAx 10000 6 qx10000 (oWi 5 6 (oInc 1 (1 : Int32) (j12))))))))))))
noncomputable def wX7_init_12 (k : Int32 → qM → Option (Unit × qM)) : qT (Unit × qM) := fun lo st m => match lo, st with
  | [some (.ref 4), some (.int a1)], [] => k a1 m
  | _, _ => none
set_option maxRecDepth 20000 in
theorem sX7_init_12 {C : qCx} {w : qWp} (h : qOk C w RX7 cX7_init 2 1 5 7) (hm : qMt C none) (hx : qNx C) (hin : C.2.2.2.2.2.2.2.2.1.name = "<init>") {j12 : qT (Unit × qM)} (k12 : qSnd C w 2 5 (qQf C w 5 7 jV) qf0 7 22 j12) : qSnd C w 2 5 (qQf C w 5 7 jV) qf0 7 22 (tX7_init_12 j12) :=
  cLi (pc := 22) h dX7_init_22 rfl (cB (pc := 23) h dX7_init_23 rfl (jCGe (pc := 25) h dX7_init_25 rfl (zV (pc := 45) h hm (by decide) dX7_init_45) (cLa (pc := 28) h dX7_init_28 rfl (gGr (pc := 29) h dX7_init_29 ff_X7_9_4 (Nat.le_of_ble_eq_true rfl) (Nat.le_of_ble_eq_true rfl) rfl (nIs (cLi (pc := 32) h dX7_init_32 rfl (fz_X7_18 (pc := 33) h dX7_init_33 (cLi (pc := 36) h dX7_init_36 rfl (rAx (fx_10000 h) h dX7_init_37 (rWi (pc := 38) h dX7_init_38 rfl (Nat.le_of_ble_eq_true rfl) (Nat.le_of_ble_eq_true rfl) (cInc (pc := 39) h dX7_init_39 rfl (jGo (pc := 42) h dX7_init_42 rfl (k12)))))))))))))
set_option maxRecDepth 20000 in
theorem lX7_init_12 (n : Nat) (a1 : Int32) (m : qM) : tX7_init_12 (wX7_init_12 ((fX7_init_12 n))) [some (.ref 4), some (.int a1)] [] m = fX7_init_12 (n + 1) a1 m := rfl
theorem bX7_init_12 {C : qCx} {w : qWp} (h : qOk C w RX7 cX7_init 2 1 5 7) (hm : qMt C none) (hx : qNx C) (hin : C.2.2.2.2.2.2.2.2.1.name = "<init>") : ∀ n : Nat, qSnd C w 2 5 (qQf C w 5 7 jV) qf0 7 22 (wX7_init_12 (fX7_init_12 n))
  | 0 => qSnd_of0 (fun lo st m x hr0 => by
    unfold wX7_init_12 at hr0
    split at hr0
    · cases hr0
    · cases hr0)
  | n + 1 => by
    have ih := bX7_init_12 h hm hx hin n
    exact qSnd_of (fun lo st m x hr0 => by
    unfold wX7_init_12 at hr0
    split at hr0
    · exact ⟨_, (qsub_e (qsub_e qsub_nil)), (lX7_init_12 n _ _).trans hr0⟩
    · cases hr0) (sX7_init_12 h hm hx hin ih)
noncomputable def fX7_init_0 (m : qM) : Option (Unit × qM) :=
  bif Nat.beq (Int32.toNatClampNeg ((6 : Int32))) 6 then (bif Nat.beq 6 0 then none else (let m1 := (qz m 5); let m2 := (sR m1 4 0 (some 5)); bif Nat.beq (Int32.toNatClampNeg ((6 : Int32))) 6 then (bif Nat.beq 6 0 then none else (let m3 := (qz m2 6); let m4 := (sR m3 4 1 (some 6)); fX7_init_12 FU ((0 : Int32)) m4)) else none)) else none
noncomputable def tX7_init_0 (j12 : qT (Unit × qM)) : qT (Unit × qM) :=
  oLa 0 (oObj (oLa 0 (oC (.int (6 : Int32)) (oNewa 5 6 (oPr 4 0 (oLa 0 (oC (.int (6 : Int32)) (oNewa 6 6 (oPr 4 1 (oC (.int (0 : Int32)) (oSi 1 (j12))))))))))))
set_option maxRecDepth 20000 in
theorem sX7_init_0 {C : qCx} {w : qWp} (h : qOk C w RX7 cX7_init 2 1 5 7) (hm : qMt C none) (hx : qNx C) (hin : C.2.2.2.2.2.2.2.2.1.name = "<init>") {j12 : qT (Unit × qM)} (k12 : qSnd C w 2 5 (qQf C w 5 7 jV) qf0 7 22 j12) : qSnd C w 2 5 (qQf C w 5 7 jV) qf0 5 0 (tX7_init_0 j12) :=
  cLa (pc := 0) h dX7_init_0 rfl (nObj (pc := 1) h dX7_init_1 fo_X7_3 fo_inst fo_code (by decide) (cLa (pc := 4) h dX7_init_4 rfl (cB (pc := 5) h dX7_init_5 rfl (nNewi (pc := 7) h dX7_init_7 rfl ac_int (by decide) (by decide) (by decide) (by decide) (gPr (pc := 9) h dX7_init_9 ff_X7_9_4 (Or.inr ⟨rfl, hin, rfl⟩) (Nat.le_of_ble_eq_true rfl) (Nat.le_of_ble_eq_true rfl) rfl (cLa (pc := 12) h dX7_init_12 rfl (cB (pc := 13) h dX7_init_13 rfl (nNewi (pc := 15) h dX7_init_15 rfl ac_int (by decide) (by decide) (by decide) (by decide) (gPr (pc := 17) h dX7_init_17 ff_X7_15_4 (Or.inr ⟨rfl, hin, rfl⟩) (Nat.le_of_ble_eq_true rfl) (Nat.le_of_ble_eq_true rfl) rfl (cC (pc := 20) h dX7_init_20 rfl (cSi (pc := 21) h dX7_init_21 rfl (k12))))))))))) (fun _ _ => trivial))
set_option maxRecDepth 20000 in
theorem lX7_init_0 (m : qM) : tX7_init_0 (wX7_init_12 (fX7_init_12 FU)) [some (.ref 4), none] [] m = fX7_init_0 m := rfl
theorem fX7_init_x : ∃ f : qM → Option (Unit × qM), f = fun m => fX7_init_0 m := ⟨_, rfl⟩
noncomputable def fX7_init : qM → Option (Unit × qM) := Classical.choose fX7_init_x
theorem fX7_init_d : fX7_init = fun m => fX7_init_0 m := Classical.choose_spec fX7_init_x
noncomputable def GX7_init : qG Unit := fun av m => match av with
  | [.ref 4] => fX7_init m
  | _ => none
theorem spX7_init : qSpV yX7_init (.code yX7_init cX7_init 2 none) 1 qf0 5 7 2 GX7_init := by
  intro av m m' hG
  unfold GX7_init at hG
  split at hG
  · rw [fX7_init_d] at hG
    exact ⟨qmeet (J := jV) (r := ((), m')) (av := [.ref 4]) (by decide +kernel) (Nat.le_of_ble_eq_true rfl) (fun C w h hm hx hn => sX7_init_0 h hm hx (by rw [hn]; rfl) (bX7_init_12 h hm hx (by rw [hn]; rfl) FU)) ((lX7_init_0 _).trans hG) (Nat.le_of_ble_eq_true rfl), ⟨4, _, rfl, by decide⟩⟩
  · cases hG
theorem mf_X5_9 : Jvm.Cond.fieldLink RX5 9 (qTb 5 0).1 (qTb 5 0).2.1 (qTb 5 0).2.2.1 ∈ qTw := qm1 (List.mem_of_getElem? (i := 99) (by decide +kernel)) (by decide +kernel)
theorem ff_X5_9_9 : qFd RX5 9 9 5 0 3 := ⟨mf_X5_9, rfl, by decide, rfl⟩
theorem mf_X5_15 : Jvm.Cond.fieldLink RX5 15 (qTb 5 1).1 (qTb 5 1).2.1 (qTb 5 1).2.2.1 ∈ qTw := qm1 (List.mem_of_getElem? (i := 100) (by decide +kernel)) (by decide +kernel)
theorem ff_X5_15_9 : qFd RX5 15 9 5 1 3 := ⟨mf_X5_15, rfl, by decide, rfl⟩
theorem mf_X5_18 : Jvm.Cond.fieldLink RX5 18 (qTb 5 2).1 (qTb 5 2).2.1 (qTb 5 2).2.2.1 ∈ qTw := qm1 (List.mem_of_getElem? (i := 101) (by decide +kernel)) (by decide +kernel)
theorem ff_X5_18_9 : qFd RX5 18 9 5 2 3 := ⟨mf_X5_18, rfl, by decide, rfl⟩
theorem mf_X5_21 : Jvm.Cond.fieldLink RX5 21 (qTb 5 3).1 (qTb 5 3).2.1 (qTb 5 3).2.2.1 ∈ qTw := qm1 (List.mem_of_getElem? (i := 102) (by decide +kernel)) (by decide +kernel)
theorem ff_X5_21_9 : qFd RX5 21 9 5 3 3 := ⟨mf_X5_21, rfl, by decide, rfl⟩
theorem mf_X5_24 : Jvm.Cond.fieldLink RX5 24 (qTb 5 4).1 (qTb 5 4).2.1 (qTb 5 4).2.2.1 ∈ qTw := qm1 (List.mem_of_getElem? (i := 103) (by decide +kernel)) (by decide +kernel)
theorem ff_X5_24_9 : qFd RX5 24 9 5 4 3 := ⟨mf_X5_24, rfl, by decide, rfl⟩
theorem mf_X5_27 : Jvm.Cond.fieldLink RX5 27 (qTb 5 5).1 (qTb 5 5).2.1 (qTb 5 5).2.2.1 ∈ qTw := qm1 (List.mem_of_getElem? (i := 104) (by decide +kernel)) (by decide +kernel)
theorem ff_X5_27_9 : qFd RX5 27 9 5 5 3 := ⟨mf_X5_27, rfl, by decide, rfl⟩
theorem mf_X5_30 : Jvm.Cond.fieldLink RX5 30 (qTb 5 6).1 (qTb 5 6).2.1 (qTb 5 6).2.2.1 ∈ qTw := qm1 (List.mem_of_getElem? (i := 105) (by decide +kernel)) (by decide +kernel)
theorem ff_X5_30_9 : qFd RX5 30 9 5 6 0 := ⟨mf_X5_30, rfl, by decide, rfl⟩
theorem fo_X5_3 : Jvm.Cond.methodLink RX5 3 objectInit ∈ qTw := qm1 (List.mem_of_getElem? (i := 98) (by decide +kernel)) (by decide +kernel)
theorem dX5_init_0 : decode cX5_init 0 = .ok (.aload_n 0, 1) := by decide +kernel
theorem dX5_init_1 : decode cX5_init 1 = .ok (.invokespecial 3, 3) := by decide +kernel
theorem dX5_init_4 : decode cX5_init 4 = .ok (.aload_n 0, 1) := by decide +kernel
theorem dX5_init_5 : decode cX5_init 5 = .ok (.bipush 8, 2) := by decide +kernel
theorem dX5_init_7 : decode cX5_init 7 = .ok (.newarray .int, 2) := by decide +kernel
theorem dX5_init_9 : decode cX5_init 9 = .ok (.putfield 9, 3) := by decide +kernel
theorem dX5_init_12 : decode cX5_init 12 = .ok (.aload_n 0, 1) := by decide +kernel
theorem dX5_init_13 : decode cX5_init 13 = .ok (.bipush 32, 2) := by decide +kernel
theorem dX5_init_15 : decode cX5_init 15 = .ok (.newarray .int, 2) := by decide +kernel
theorem dX5_init_17 : decode cX5_init 17 = .ok (.putfield 15, 3) := by decide +kernel
theorem dX5_init_20 : decode cX5_init 20 = .ok (.aload_n 0, 1) := by decide +kernel
theorem dX5_init_21 : decode cX5_init 21 = .ok (.bipush 32, 2) := by decide +kernel
theorem dX5_init_23 : decode cX5_init 23 = .ok (.newarray .int, 2) := by decide +kernel
theorem dX5_init_25 : decode cX5_init 25 = .ok (.putfield 18, 3) := by decide +kernel
theorem dX5_init_28 : decode cX5_init 28 = .ok (.aload_n 0, 1) := by decide +kernel
theorem dX5_init_29 : decode cX5_init 29 = .ok (.bipush 32, 2) := by decide +kernel
theorem dX5_init_31 : decode cX5_init 31 = .ok (.newarray .int, 2) := by decide +kernel
theorem dX5_init_33 : decode cX5_init 33 = .ok (.putfield 21, 3) := by decide +kernel
theorem dX5_init_36 : decode cX5_init 36 = .ok (.aload_n 0, 1) := by decide +kernel
theorem dX5_init_37 : decode cX5_init 37 = .ok (.bipush 8, 2) := by decide +kernel
theorem dX5_init_39 : decode cX5_init 39 = .ok (.newarray .int, 2) := by decide +kernel
theorem dX5_init_41 : decode cX5_init 41 = .ok (.putfield 24, 3) := by decide +kernel
theorem dX5_init_44 : decode cX5_init 44 = .ok (.aload_n 0, 1) := by decide +kernel
theorem dX5_init_45 : decode cX5_init 45 = .ok (.bipush 8, 2) := by decide +kernel
theorem dX5_init_47 : decode cX5_init 47 = .ok (.newarray .int, 2) := by decide +kernel
theorem dX5_init_49 : decode cX5_init 49 = .ok (.putfield 27, 3) := by decide +kernel
theorem dX5_init_52 : decode cX5_init 52 = .ok (.aload_n 0, 1) := by decide +kernel
theorem dX5_init_53 : decode cX5_init 53 = .ok (.iconst 0, 1) := by decide +kernel
theorem dX5_init_54 : decode cX5_init 54 = .ok (.putfield 30, 3) := by decide +kernel
theorem dX5_init_57 : decode cX5_init 57 = .ok (.return_, 1) := by decide +kernel
noncomputable def fX5_init_9_0 (m : qM) : Option (Unit × qM) :=
  bif Nat.beq (Int32.toNatClampNeg ((8 : Int32))) 8 then (bif Nat.beq 8 0 then none else (let m1 := (qz m 10); let m2 := (sR m1 9 0 (some 10)); bif Nat.beq (Int32.toNatClampNeg ((32 : Int32))) 32 then (bif Nat.beq 32 0 then none else (let m3 := (qz m2 11); let m4 := (sR m3 9 1 (some 11)); bif Nat.beq (Int32.toNatClampNeg ((32 : Int32))) 32 then (bif Nat.beq 32 0 then none else (let m5 := (qz m4 12); let m6 := (sR m5 9 2 (some 12)); bif Nat.beq (Int32.toNatClampNeg ((32 : Int32))) 32 then (bif Nat.beq 32 0 then none else (let m7 := (qz m6 13); let m8 := (sR m7 9 3 (some 13)); bif Nat.beq (Int32.toNatClampNeg ((8 : Int32))) 8 then (bif Nat.beq 8 0 then none else (let m9 := (qz m8 14); let m10 := (sR m9 9 4 (some 14)); bif Nat.beq (Int32.toNatClampNeg ((8 : Int32))) 8 then (bif Nat.beq 8 0 then none else (let m11 := (qz m10 15); let m12 := (sR m11 9 5 (some 15)); let m13 := (sI m12 9 6 ((0 : Int32))); some ((), m13))) else none)) else none)) else none)) else none)) else none)) else none
noncomputable def tX5_init_9_0 : qT (Unit × qM) :=
  oLa 0 (oObj (oLa 0 (oC (.int (8 : Int32)) (oNewa 10 8 (oPr 9 0 (oLa 0 (oC (.int (32 : Int32)) (oNewa 11 32 (oPr 9 1 (oLa 0 (oC (.int (32 : Int32)) (oNewa 12 32 (oPr 9 2 (oLa 0 (oC (.int (32 : Int32)) (oNewa 13 32 (oPr 9 3 (oLa 0 (oC (.int (8 : Int32)) (oNewa 14 8 (oPr 9 4 (oLa 0 (oC (.int (8 : Int32)) (oNewa 15 8 (oPr 9 5 (oLa 0 (oC (.int (0 : Int32)) (oPi 9 6 (eV)))))))))))))))))))))))))))))
set_option maxRecDepth 20000 in
theorem sX5_init_9_0 {C : qCx} {w : qWp} (h : qOk C w RX5 cX5_init 1 1 10 16) (hm : qMt C none) (hx : qNx C) (hin : C.2.2.2.2.2.2.2.2.1.name = "<init>") : qSnd C w 1 10 (qQf C w 10 16 jV) qf0 10 0 (tX5_init_9_0) :=
  cLa (pc := 0) h dX5_init_0 rfl (nObj (pc := 1) h dX5_init_1 fo_X5_3 fo_inst fo_code (by decide) (cLa (pc := 4) h dX5_init_4 rfl (cB (pc := 5) h dX5_init_5 rfl (nNewi (pc := 7) h dX5_init_7 rfl ac_int (by decide) (by decide) (by decide) (by decide) (gPr (pc := 9) h dX5_init_9 ff_X5_9_9 (Or.inr ⟨rfl, hin, rfl⟩) (Nat.le_of_ble_eq_true rfl) (Nat.le_of_ble_eq_true rfl) rfl (cLa (pc := 12) h dX5_init_12 rfl (cB (pc := 13) h dX5_init_13 rfl (nNewi (pc := 15) h dX5_init_15 rfl ac_int (by decide) (by decide) (by decide) (by decide) (gPr (pc := 17) h dX5_init_17 ff_X5_15_9 (Or.inr ⟨rfl, hin, rfl⟩) (Nat.le_of_ble_eq_true rfl) (Nat.le_of_ble_eq_true rfl) rfl (cLa (pc := 20) h dX5_init_20 rfl (cB (pc := 21) h dX5_init_21 rfl (nNewi (pc := 23) h dX5_init_23 rfl ac_int (by decide) (by decide) (by decide) (by decide) (gPr (pc := 25) h dX5_init_25 ff_X5_18_9 (Or.inr ⟨rfl, hin, rfl⟩) (Nat.le_of_ble_eq_true rfl) (Nat.le_of_ble_eq_true rfl) rfl (cLa (pc := 28) h dX5_init_28 rfl (cB (pc := 29) h dX5_init_29 rfl (nNewi (pc := 31) h dX5_init_31 rfl ac_int (by decide) (by decide) (by decide) (by decide) (gPr (pc := 33) h dX5_init_33 ff_X5_21_9 (Or.inr ⟨rfl, hin, rfl⟩) (Nat.le_of_ble_eq_true rfl) (Nat.le_of_ble_eq_true rfl) rfl (cLa (pc := 36) h dX5_init_36 rfl (cB (pc := 37) h dX5_init_37 rfl (nNewi (pc := 39) h dX5_init_39 rfl ac_int (by decide) (by decide) (by decide) (by decide) (gPr (pc := 41) h dX5_init_41 ff_X5_24_9 (Or.inr ⟨rfl, hin, rfl⟩) (Nat.le_of_ble_eq_true rfl) (Nat.le_of_ble_eq_true rfl) rfl (cLa (pc := 44) h dX5_init_44 rfl (cB (pc := 45) h dX5_init_45 rfl (nNewi (pc := 47) h dX5_init_47 rfl ac_int (by decide) (by decide) (by decide) (by decide) (gPr (pc := 49) h dX5_init_49 ff_X5_27_9 (Or.inr ⟨rfl, hin, rfl⟩) (Nat.le_of_ble_eq_true rfl) (Nat.le_of_ble_eq_true rfl) rfl (cLa (pc := 52) h dX5_init_52 rfl (cC (pc := 53) h dX5_init_53 rfl (gPi (pc := 54) h dX5_init_54 ff_X5_30_9 (Or.inl rfl) (Nat.le_of_ble_eq_true rfl) (Nat.le_of_ble_eq_true rfl) (zV (pc := 57) h hm (by decide) dX5_init_57)))))))))))))))))))))))))))) (fun _ _ => trivial))
set_option maxRecDepth 20000 in
theorem lX5_init_9_0 (m : qM) : tX5_init_9_0 [some (.ref 9)] [] m = fX5_init_9_0 m := rfl
theorem fX5_init_9_x : ∃ f : qM → Option (Unit × qM), f = fun m => fX5_init_9_0 m := ⟨_, rfl⟩
noncomputable def fX5_init_9 : qM → Option (Unit × qM) := Classical.choose fX5_init_9_x
theorem fX5_init_9_d : fX5_init_9 = fun m => fX5_init_9_0 m := Classical.choose_spec fX5_init_9_x
noncomputable def GX5_init_9 : qG Unit := fun av m => match av with
  | [.ref 9] => fX5_init_9 m
  | _ => none
theorem spX5_init_9 : qSpV yX5_init (.code yX5_init cX5_init 1 none) 1 qf0 10 16 2 GX5_init_9 := by
  intro av m m' hG
  unfold GX5_init_9 at hG
  split at hG
  · rw [fX5_init_9_d] at hG
    exact ⟨qmeet (J := jV) (r := ((), m')) (av := [.ref 9]) (by decide +kernel) (Nat.le_of_ble_eq_true rfl) (fun C w h hm hx hn => sX5_init_9_0 h hm hx (by rw [hn]; rfl)) ((lX5_init_9_0 _).trans hG) (Nat.le_of_ble_eq_true rfl), ⟨9, _, rfl, by decide⟩⟩
  · cases hG
theorem ff_X5_9_19 : qFd RX5 9 19 5 0 3 := ⟨mf_X5_9, rfl, by decide, rfl⟩
theorem ff_X5_15_19 : qFd RX5 15 19 5 1 3 := ⟨mf_X5_15, rfl, by decide, rfl⟩
theorem ff_X5_18_19 : qFd RX5 18 19 5 2 3 := ⟨mf_X5_18, rfl, by decide, rfl⟩
theorem ff_X5_21_19 : qFd RX5 21 19 5 3 3 := ⟨mf_X5_21, rfl, by decide, rfl⟩
theorem ff_X5_24_19 : qFd RX5 24 19 5 4 3 := ⟨mf_X5_24, rfl, by decide, rfl⟩
theorem ff_X5_27_19 : qFd RX5 27 19 5 5 3 := ⟨mf_X5_27, rfl, by decide, rfl⟩
theorem ff_X5_30_19 : qFd RX5 30 19 5 6 0 := ⟨mf_X5_30, rfl, by decide, rfl⟩
noncomputable def fX5_init_19_0 (m : qM) : Option (Unit × qM) :=
  bif Nat.beq (Int32.toNatClampNeg ((8 : Int32))) 8 then (bif Nat.beq 8 0 then none else (let m1 := (qz m 20); let m2 := (sR m1 19 0 (some 20)); bif Nat.beq (Int32.toNatClampNeg ((32 : Int32))) 32 then (bif Nat.beq 32 0 then none else (let m3 := (qz m2 21); let m4 := (sR m3 19 1 (some 21)); bif Nat.beq (Int32.toNatClampNeg ((32 : Int32))) 32 then (bif Nat.beq 32 0 then none else (let m5 := (qz m4 22); let m6 := (sR m5 19 2 (some 22)); bif Nat.beq (Int32.toNatClampNeg ((32 : Int32))) 32 then (bif Nat.beq 32 0 then none else (let m7 := (qz m6 23); let m8 := (sR m7 19 3 (some 23)); bif Nat.beq (Int32.toNatClampNeg ((8 : Int32))) 8 then (bif Nat.beq 8 0 then none else (let m9 := (qz m8 24); let m10 := (sR m9 19 4 (some 24)); bif Nat.beq (Int32.toNatClampNeg ((8 : Int32))) 8 then (bif Nat.beq 8 0 then none else (let m11 := (qz m10 25); let m12 := (sR m11 19 5 (some 25)); let m13 := (sI m12 19 6 ((0 : Int32))); some ((), m13))) else none)) else none)) else none)) else none)) else none)) else none
noncomputable def tX5_init_19_0 : qT (Unit × qM) :=
  oLa 0 (oObj (oLa 0 (oC (.int (8 : Int32)) (oNewa 20 8 (oPr 19 0 (oLa 0 (oC (.int (32 : Int32)) (oNewa 21 32 (oPr 19 1 (oLa 0 (oC (.int (32 : Int32)) (oNewa 22 32 (oPr 19 2 (oLa 0 (oC (.int (32 : Int32)) (oNewa 23 32 (oPr 19 3 (oLa 0 (oC (.int (8 : Int32)) (oNewa 24 8 (oPr 19 4 (oLa 0 (oC (.int (8 : Int32)) (oNewa 25 8 (oPr 19 5 (oLa 0 (oC (.int (0 : Int32)) (oPi 19 6 (eV)))))))))))))))))))))))))))))
set_option maxRecDepth 20000 in
theorem sX5_init_19_0 {C : qCx} {w : qWp} (h : qOk C w RX5 cX5_init 1 1 20 26) (hm : qMt C none) (hx : qNx C) (hin : C.2.2.2.2.2.2.2.2.1.name = "<init>") : qSnd C w 1 20 (qQf C w 20 26 jV) qf0 20 0 (tX5_init_19_0) :=
  cLa (pc := 0) h dX5_init_0 rfl (nObj (pc := 1) h dX5_init_1 fo_X5_3 fo_inst fo_code (by decide) (cLa (pc := 4) h dX5_init_4 rfl (cB (pc := 5) h dX5_init_5 rfl (nNewi (pc := 7) h dX5_init_7 rfl ac_int (by decide) (by decide) (by decide) (by decide) (gPr (pc := 9) h dX5_init_9 ff_X5_9_19 (Or.inr ⟨rfl, hin, rfl⟩) (Nat.le_of_ble_eq_true rfl) (Nat.le_of_ble_eq_true rfl) rfl (cLa (pc := 12) h dX5_init_12 rfl (cB (pc := 13) h dX5_init_13 rfl (nNewi (pc := 15) h dX5_init_15 rfl ac_int (by decide) (by decide) (by decide) (by decide) (gPr (pc := 17) h dX5_init_17 ff_X5_15_19 (Or.inr ⟨rfl, hin, rfl⟩) (Nat.le_of_ble_eq_true rfl) (Nat.le_of_ble_eq_true rfl) rfl (cLa (pc := 20) h dX5_init_20 rfl (cB (pc := 21) h dX5_init_21 rfl (nNewi (pc := 23) h dX5_init_23 rfl ac_int (by decide) (by decide) (by decide) (by decide) (gPr (pc := 25) h dX5_init_25 ff_X5_18_19 (Or.inr ⟨rfl, hin, rfl⟩) (Nat.le_of_ble_eq_true rfl) (Nat.le_of_ble_eq_true rfl) rfl (cLa (pc := 28) h dX5_init_28 rfl (cB (pc := 29) h dX5_init_29 rfl (nNewi (pc := 31) h dX5_init_31 rfl ac_int (by decide) (by decide) (by decide) (by decide) (gPr (pc := 33) h dX5_init_33 ff_X5_21_19 (Or.inr ⟨rfl, hin, rfl⟩) (Nat.le_of_ble_eq_true rfl) (Nat.le_of_ble_eq_true rfl) rfl (cLa (pc := 36) h dX5_init_36 rfl (cB (pc := 37) h dX5_init_37 rfl (nNewi (pc := 39) h dX5_init_39 rfl ac_int (by decide) (by decide) (by decide) (by decide) (gPr (pc := 41) h dX5_init_41 ff_X5_24_19 (Or.inr ⟨rfl, hin, rfl⟩) (Nat.le_of_ble_eq_true rfl) (Nat.le_of_ble_eq_true rfl) rfl (cLa (pc := 44) h dX5_init_44 rfl (cB (pc := 45) h dX5_init_45 rfl (nNewi (pc := 47) h dX5_init_47 rfl ac_int (by decide) (by decide) (by decide) (by decide) (gPr (pc := 49) h dX5_init_49 ff_X5_27_19 (Or.inr ⟨rfl, hin, rfl⟩) (Nat.le_of_ble_eq_true rfl) (Nat.le_of_ble_eq_true rfl) rfl (cLa (pc := 52) h dX5_init_52 rfl (cC (pc := 53) h dX5_init_53 rfl (gPi (pc := 54) h dX5_init_54 ff_X5_30_19 (Or.inl rfl) (Nat.le_of_ble_eq_true rfl) (Nat.le_of_ble_eq_true rfl) (zV (pc := 57) h hm (by decide) dX5_init_57)))))))))))))))))))))))))))) (fun _ _ => trivial))
set_option maxRecDepth 20000 in
theorem lX5_init_19_0 (m : qM) : tX5_init_19_0 [some (.ref 19)] [] m = fX5_init_19_0 m := rfl
theorem fX5_init_19_x : ∃ f : qM → Option (Unit × qM), f = fun m => fX5_init_19_0 m := ⟨_, rfl⟩
noncomputable def fX5_init_19 : qM → Option (Unit × qM) := Classical.choose fX5_init_19_x
theorem fX5_init_19_d : fX5_init_19 = fun m => fX5_init_19_0 m := Classical.choose_spec fX5_init_19_x
noncomputable def GX5_init_19 : qG Unit := fun av m => match av with
  | [.ref 19] => fX5_init_19 m
  | _ => none
theorem spX5_init_19 : qSpV yX5_init (.code yX5_init cX5_init 1 none) 1 qf0 20 26 2 GX5_init_19 := by
  intro av m m' hG
  unfold GX5_init_19 at hG
  split at hG
  · rw [fX5_init_19_d] at hG
    exact ⟨qmeet (J := jV) (r := ((), m')) (av := [.ref 19]) (by decide +kernel) (Nat.le_of_ble_eq_true rfl) (fun C w h hm hx hn => sX5_init_19_0 h hm hx (by rw [hn]; rfl)) ((lX5_init_19_0 _).trans hG) (Nat.le_of_ble_eq_true rfl), ⟨19, _, rfl, by decide⟩⟩
  · cases hG
theorem ff_X5_9_26 : qFd RX5 9 26 5 0 3 := ⟨mf_X5_9, rfl, by decide, rfl⟩
theorem ff_X5_15_26 : qFd RX5 15 26 5 1 3 := ⟨mf_X5_15, rfl, by decide, rfl⟩
theorem ff_X5_18_26 : qFd RX5 18 26 5 2 3 := ⟨mf_X5_18, rfl, by decide, rfl⟩
theorem ff_X5_21_26 : qFd RX5 21 26 5 3 3 := ⟨mf_X5_21, rfl, by decide, rfl⟩
theorem ff_X5_24_26 : qFd RX5 24 26 5 4 3 := ⟨mf_X5_24, rfl, by decide, rfl⟩
theorem ff_X5_27_26 : qFd RX5 27 26 5 5 3 := ⟨mf_X5_27, rfl, by decide, rfl⟩
theorem ff_X5_30_26 : qFd RX5 30 26 5 6 0 := ⟨mf_X5_30, rfl, by decide, rfl⟩
noncomputable def fX5_init_26_0 (m : qM) : Option (Unit × qM) :=
  bif Nat.beq (Int32.toNatClampNeg ((8 : Int32))) 8 then (bif Nat.beq 8 0 then none else (let m1 := (qz m 27); let m2 := (sR m1 26 0 (some 27)); bif Nat.beq (Int32.toNatClampNeg ((32 : Int32))) 32 then (bif Nat.beq 32 0 then none else (let m3 := (qz m2 28); let m4 := (sR m3 26 1 (some 28)); bif Nat.beq (Int32.toNatClampNeg ((32 : Int32))) 32 then (bif Nat.beq 32 0 then none else (let m5 := (qz m4 29); let m6 := (sR m5 26 2 (some 29)); bif Nat.beq (Int32.toNatClampNeg ((32 : Int32))) 32 then (bif Nat.beq 32 0 then none else (let m7 := (qz m6 30); let m8 := (sR m7 26 3 (some 30)); bif Nat.beq (Int32.toNatClampNeg ((8 : Int32))) 8 then (bif Nat.beq 8 0 then none else (let m9 := (qz m8 31); let m10 := (sR m9 26 4 (some 31)); bif Nat.beq (Int32.toNatClampNeg ((8 : Int32))) 8 then (bif Nat.beq 8 0 then none else (let m11 := (qz m10 32); let m12 := (sR m11 26 5 (some 32)); let m13 := (sI m12 26 6 ((0 : Int32))); some ((), m13))) else none)) else none)) else none)) else none)) else none)) else none
noncomputable def tX5_init_26_0 : qT (Unit × qM) :=
  oLa 0 (oObj (oLa 0 (oC (.int (8 : Int32)) (oNewa 27 8 (oPr 26 0 (oLa 0 (oC (.int (32 : Int32)) (oNewa 28 32 (oPr 26 1 (oLa 0 (oC (.int (32 : Int32)) (oNewa 29 32 (oPr 26 2 (oLa 0 (oC (.int (32 : Int32)) (oNewa 30 32 (oPr 26 3 (oLa 0 (oC (.int (8 : Int32)) (oNewa 31 8 (oPr 26 4 (oLa 0 (oC (.int (8 : Int32)) (oNewa 32 8 (oPr 26 5 (oLa 0 (oC (.int (0 : Int32)) (oPi 26 6 (eV)))))))))))))))))))))))))))))
set_option maxRecDepth 20000 in
theorem sX5_init_26_0 {C : qCx} {w : qWp} (h : qOk C w RX5 cX5_init 1 1 27 33) (hm : qMt C none) (hx : qNx C) (hin : C.2.2.2.2.2.2.2.2.1.name = "<init>") : qSnd C w 1 27 (qQf C w 27 33 jV) qf0 27 0 (tX5_init_26_0) :=
  cLa (pc := 0) h dX5_init_0 rfl (nObj (pc := 1) h dX5_init_1 fo_X5_3 fo_inst fo_code (by decide) (cLa (pc := 4) h dX5_init_4 rfl (cB (pc := 5) h dX5_init_5 rfl (nNewi (pc := 7) h dX5_init_7 rfl ac_int (by decide) (by decide) (by decide) (by decide) (gPr (pc := 9) h dX5_init_9 ff_X5_9_26 (Or.inr ⟨rfl, hin, rfl⟩) (Nat.le_of_ble_eq_true rfl) (Nat.le_of_ble_eq_true rfl) rfl (cLa (pc := 12) h dX5_init_12 rfl (cB (pc := 13) h dX5_init_13 rfl (nNewi (pc := 15) h dX5_init_15 rfl ac_int (by decide) (by decide) (by decide) (by decide) (gPr (pc := 17) h dX5_init_17 ff_X5_15_26 (Or.inr ⟨rfl, hin, rfl⟩) (Nat.le_of_ble_eq_true rfl) (Nat.le_of_ble_eq_true rfl) rfl (cLa (pc := 20) h dX5_init_20 rfl (cB (pc := 21) h dX5_init_21 rfl (nNewi (pc := 23) h dX5_init_23 rfl ac_int (by decide) (by decide) (by decide) (by decide) (gPr (pc := 25) h dX5_init_25 ff_X5_18_26 (Or.inr ⟨rfl, hin, rfl⟩) (Nat.le_of_ble_eq_true rfl) (Nat.le_of_ble_eq_true rfl) rfl (cLa (pc := 28) h dX5_init_28 rfl (cB (pc := 29) h dX5_init_29 rfl (nNewi (pc := 31) h dX5_init_31 rfl ac_int (by decide) (by decide) (by decide) (by decide) (gPr (pc := 33) h dX5_init_33 ff_X5_21_26 (Or.inr ⟨rfl, hin, rfl⟩) (Nat.le_of_ble_eq_true rfl) (Nat.le_of_ble_eq_true rfl) rfl (cLa (pc := 36) h dX5_init_36 rfl (cB (pc := 37) h dX5_init_37 rfl (nNewi (pc := 39) h dX5_init_39 rfl ac_int (by decide) (by decide) (by decide) (by decide) (gPr (pc := 41) h dX5_init_41 ff_X5_24_26 (Or.inr ⟨rfl, hin, rfl⟩) (Nat.le_of_ble_eq_true rfl) (Nat.le_of_ble_eq_true rfl) rfl (cLa (pc := 44) h dX5_init_44 rfl (cB (pc := 45) h dX5_init_45 rfl (nNewi (pc := 47) h dX5_init_47 rfl ac_int (by decide) (by decide) (by decide) (by decide) (gPr (pc := 49) h dX5_init_49 ff_X5_27_26 (Or.inr ⟨rfl, hin, rfl⟩) (Nat.le_of_ble_eq_true rfl) (Nat.le_of_ble_eq_true rfl) rfl (cLa (pc := 52) h dX5_init_52 rfl (cC (pc := 53) h dX5_init_53 rfl (gPi (pc := 54) h dX5_init_54 ff_X5_30_26 (Or.inl rfl) (Nat.le_of_ble_eq_true rfl) (Nat.le_of_ble_eq_true rfl) (zV (pc := 57) h hm (by decide) dX5_init_57)))))))))))))))))))))))))))) (fun _ _ => trivial))
set_option maxRecDepth 20000 in
theorem lX5_init_26_0 (m : qM) : tX5_init_26_0 [some (.ref 26)] [] m = fX5_init_26_0 m := rfl
theorem fX5_init_26_x : ∃ f : qM → Option (Unit × qM), f = fun m => fX5_init_26_0 m := ⟨_, rfl⟩
noncomputable def fX5_init_26 : qM → Option (Unit × qM) := Classical.choose fX5_init_26_x
theorem fX5_init_26_d : fX5_init_26 = fun m => fX5_init_26_0 m := Classical.choose_spec fX5_init_26_x
noncomputable def GX5_init_26 : qG Unit := fun av m => match av with
  | [.ref 26] => fX5_init_26 m
  | _ => none
theorem spX5_init_26 : qSpV yX5_init (.code yX5_init cX5_init 1 none) 1 qf0 27 33 2 GX5_init_26 := by
  intro av m m' hG
  unfold GX5_init_26 at hG
  split at hG
  · rw [fX5_init_26_d] at hG
    exact ⟨qmeet (J := jV) (r := ((), m')) (av := [.ref 26]) (by decide +kernel) (Nat.le_of_ble_eq_true rfl) (fun C w h hm hx hn => sX5_init_26_0 h hm hx (by rw [hn]; rfl)) ((lX5_init_26_0 _).trans hG) (Nat.le_of_ble_eq_true rfl), ⟨26, _, rfl, by decide⟩⟩
  · cases hG
theorem ff_X5_9_33 : qFd RX5 9 33 5 0 3 := ⟨mf_X5_9, rfl, by decide, rfl⟩
theorem ff_X5_15_33 : qFd RX5 15 33 5 1 3 := ⟨mf_X5_15, rfl, by decide, rfl⟩
theorem ff_X5_18_33 : qFd RX5 18 33 5 2 3 := ⟨mf_X5_18, rfl, by decide, rfl⟩
theorem ff_X5_21_33 : qFd RX5 21 33 5 3 3 := ⟨mf_X5_21, rfl, by decide, rfl⟩
theorem ff_X5_24_33 : qFd RX5 24 33 5 4 3 := ⟨mf_X5_24, rfl, by decide, rfl⟩
theorem ff_X5_27_33 : qFd RX5 27 33 5 5 3 := ⟨mf_X5_27, rfl, by decide, rfl⟩
theorem ff_X5_30_33 : qFd RX5 30 33 5 6 0 := ⟨mf_X5_30, rfl, by decide, rfl⟩
noncomputable def fX5_init_33_0 (m : qM) : Option (Unit × qM) :=
  bif Nat.beq (Int32.toNatClampNeg ((8 : Int32))) 8 then (bif Nat.beq 8 0 then none else (let m1 := (qz m 34); let m2 := (sR m1 33 0 (some 34)); bif Nat.beq (Int32.toNatClampNeg ((32 : Int32))) 32 then (bif Nat.beq 32 0 then none else (let m3 := (qz m2 35); let m4 := (sR m3 33 1 (some 35)); bif Nat.beq (Int32.toNatClampNeg ((32 : Int32))) 32 then (bif Nat.beq 32 0 then none else (let m5 := (qz m4 36); let m6 := (sR m5 33 2 (some 36)); bif Nat.beq (Int32.toNatClampNeg ((32 : Int32))) 32 then (bif Nat.beq 32 0 then none else (let m7 := (qz m6 37); let m8 := (sR m7 33 3 (some 37)); bif Nat.beq (Int32.toNatClampNeg ((8 : Int32))) 8 then (bif Nat.beq 8 0 then none else (let m9 := (qz m8 38); let m10 := (sR m9 33 4 (some 38)); bif Nat.beq (Int32.toNatClampNeg ((8 : Int32))) 8 then (bif Nat.beq 8 0 then none else (let m11 := (qz m10 39); let m12 := (sR m11 33 5 (some 39)); let m13 := (sI m12 33 6 ((0 : Int32))); some ((), m13))) else none)) else none)) else none)) else none)) else none)) else none
noncomputable def tX5_init_33_0 : qT (Unit × qM) :=
  oLa 0 (oObj (oLa 0 (oC (.int (8 : Int32)) (oNewa 34 8 (oPr 33 0 (oLa 0 (oC (.int (32 : Int32)) (oNewa 35 32 (oPr 33 1 (oLa 0 (oC (.int (32 : Int32)) (oNewa 36 32 (oPr 33 2 (oLa 0 (oC (.int (32 : Int32)) (oNewa 37 32 (oPr 33 3 (oLa 0 (oC (.int (8 : Int32)) (oNewa 38 8 (oPr 33 4 (oLa 0 (oC (.int (8 : Int32)) (oNewa 39 8 (oPr 33 5 (oLa 0 (oC (.int (0 : Int32)) (oPi 33 6 (eV)))))))))))))))))))))))))))))
set_option maxRecDepth 20000 in
theorem sX5_init_33_0 {C : qCx} {w : qWp} (h : qOk C w RX5 cX5_init 1 1 34 40) (hm : qMt C none) (hx : qNx C) (hin : C.2.2.2.2.2.2.2.2.1.name = "<init>") : qSnd C w 1 34 (qQf C w 34 40 jV) qf0 34 0 (tX5_init_33_0) :=
  cLa (pc := 0) h dX5_init_0 rfl (nObj (pc := 1) h dX5_init_1 fo_X5_3 fo_inst fo_code (by decide) (cLa (pc := 4) h dX5_init_4 rfl (cB (pc := 5) h dX5_init_5 rfl (nNewi (pc := 7) h dX5_init_7 rfl ac_int (by decide) (by decide) (by decide) (by decide) (gPr (pc := 9) h dX5_init_9 ff_X5_9_33 (Or.inr ⟨rfl, hin, rfl⟩) (Nat.le_of_ble_eq_true rfl) (Nat.le_of_ble_eq_true rfl) rfl (cLa (pc := 12) h dX5_init_12 rfl (cB (pc := 13) h dX5_init_13 rfl (nNewi (pc := 15) h dX5_init_15 rfl ac_int (by decide) (by decide) (by decide) (by decide) (gPr (pc := 17) h dX5_init_17 ff_X5_15_33 (Or.inr ⟨rfl, hin, rfl⟩) (Nat.le_of_ble_eq_true rfl) (Nat.le_of_ble_eq_true rfl) rfl (cLa (pc := 20) h dX5_init_20 rfl (cB (pc := 21) h dX5_init_21 rfl (nNewi (pc := 23) h dX5_init_23 rfl ac_int (by decide) (by decide) (by decide) (by decide) (gPr (pc := 25) h dX5_init_25 ff_X5_18_33 (Or.inr ⟨rfl, hin, rfl⟩) (Nat.le_of_ble_eq_true rfl) (Nat.le_of_ble_eq_true rfl) rfl (cLa (pc := 28) h dX5_init_28 rfl (cB (pc := 29) h dX5_init_29 rfl (nNewi (pc := 31) h dX5_init_31 rfl ac_int (by decide) (by decide) (by decide) (by decide) (gPr (pc := 33) h dX5_init_33 ff_X5_21_33 (Or.inr ⟨rfl, hin, rfl⟩) (Nat.le_of_ble_eq_true rfl) (Nat.le_of_ble_eq_true rfl) rfl (cLa (pc := 36) h dX5_init_36 rfl (cB (pc := 37) h dX5_init_37 rfl (nNewi (pc := 39) h dX5_init_39 rfl ac_int (by decide) (by decide) (by decide) (by decide) (gPr (pc := 41) h dX5_init_41 ff_X5_24_33 (Or.inr ⟨rfl, hin, rfl⟩) (Nat.le_of_ble_eq_true rfl) (Nat.le_of_ble_eq_true rfl) rfl (cLa (pc := 44) h dX5_init_44 rfl (cB (pc := 45) h dX5_init_45 rfl (nNewi (pc := 47) h dX5_init_47 rfl ac_int (by decide) (by decide) (by decide) (by decide) (gPr (pc := 49) h dX5_init_49 ff_X5_27_33 (Or.inr ⟨rfl, hin, rfl⟩) (Nat.le_of_ble_eq_true rfl) (Nat.le_of_ble_eq_true rfl) rfl (cLa (pc := 52) h dX5_init_52 rfl (cC (pc := 53) h dX5_init_53 rfl (gPi (pc := 54) h dX5_init_54 ff_X5_30_33 (Or.inl rfl) (Nat.le_of_ble_eq_true rfl) (Nat.le_of_ble_eq_true rfl) (zV (pc := 57) h hm (by decide) dX5_init_57)))))))))))))))))))))))))))) (fun _ _ => trivial))
set_option maxRecDepth 20000 in
theorem lX5_init_33_0 (m : qM) : tX5_init_33_0 [some (.ref 33)] [] m = fX5_init_33_0 m := rfl
theorem fX5_init_33_x : ∃ f : qM → Option (Unit × qM), f = fun m => fX5_init_33_0 m := ⟨_, rfl⟩
noncomputable def fX5_init_33 : qM → Option (Unit × qM) := Classical.choose fX5_init_33_x
theorem fX5_init_33_d : fX5_init_33 = fun m => fX5_init_33_0 m := Classical.choose_spec fX5_init_33_x
noncomputable def GX5_init_33 : qG Unit := fun av m => match av with
  | [.ref 33] => fX5_init_33 m
  | _ => none
theorem spX5_init_33 : qSpV yX5_init (.code yX5_init cX5_init 1 none) 1 qf0 34 40 2 GX5_init_33 := by
  intro av m m' hG
  unfold GX5_init_33 at hG
  split at hG
  · rw [fX5_init_33_d] at hG
    exact ⟨qmeet (J := jV) (r := ((), m')) (av := [.ref 33]) (by decide +kernel) (Nat.le_of_ble_eq_true rfl) (fun C w h hm hx hn => sX5_init_33_0 h hm hx (by rw [hn]; rfl)) ((lX5_init_33_0 _).trans hG) (Nat.le_of_ble_eq_true rfl), ⟨33, _, rfl, by decide⟩⟩
  · cases hG
theorem ff_X5_9_40 : qFd RX5 9 40 5 0 3 := ⟨mf_X5_9, rfl, by decide, rfl⟩
theorem ff_X5_15_40 : qFd RX5 15 40 5 1 3 := ⟨mf_X5_15, rfl, by decide, rfl⟩
theorem ff_X5_18_40 : qFd RX5 18 40 5 2 3 := ⟨mf_X5_18, rfl, by decide, rfl⟩
theorem ff_X5_21_40 : qFd RX5 21 40 5 3 3 := ⟨mf_X5_21, rfl, by decide, rfl⟩
theorem ff_X5_24_40 : qFd RX5 24 40 5 4 3 := ⟨mf_X5_24, rfl, by decide, rfl⟩
theorem ff_X5_27_40 : qFd RX5 27 40 5 5 3 := ⟨mf_X5_27, rfl, by decide, rfl⟩
theorem ff_X5_30_40 : qFd RX5 30 40 5 6 0 := ⟨mf_X5_30, rfl, by decide, rfl⟩
noncomputable def fX5_init_40_0 (m : qM) : Option (Unit × qM) :=
  bif Nat.beq (Int32.toNatClampNeg ((8 : Int32))) 8 then (bif Nat.beq 8 0 then none else (let m1 := (qz m 41); let m2 := (sR m1 40 0 (some 41)); bif Nat.beq (Int32.toNatClampNeg ((32 : Int32))) 32 then (bif Nat.beq 32 0 then none else (let m3 := (qz m2 42); let m4 := (sR m3 40 1 (some 42)); bif Nat.beq (Int32.toNatClampNeg ((32 : Int32))) 32 then (bif Nat.beq 32 0 then none else (let m5 := (qz m4 43); let m6 := (sR m5 40 2 (some 43)); bif Nat.beq (Int32.toNatClampNeg ((32 : Int32))) 32 then (bif Nat.beq 32 0 then none else (let m7 := (qz m6 44); let m8 := (sR m7 40 3 (some 44)); bif Nat.beq (Int32.toNatClampNeg ((8 : Int32))) 8 then (bif Nat.beq 8 0 then none else (let m9 := (qz m8 45); let m10 := (sR m9 40 4 (some 45)); bif Nat.beq (Int32.toNatClampNeg ((8 : Int32))) 8 then (bif Nat.beq 8 0 then none else (let m11 := (qz m10 46); let m12 := (sR m11 40 5 (some 46)); let m13 := (sI m12 40 6 ((0 : Int32))); some ((), m13))) else none)) else none)) else none)) else none)) else none)) else none
noncomputable def tX5_init_40_0 : qT (Unit × qM) :=
  oLa 0 (oObj (oLa 0 (oC (.int (8 : Int32)) (oNewa 41 8 (oPr 40 0 (oLa 0 (oC (.int (32 : Int32)) (oNewa 42 32 (oPr 40 1 (oLa 0 (oC (.int (32 : Int32)) (oNewa 43 32 (oPr 40 2 (oLa 0 (oC (.int (32 : Int32)) (oNewa 44 32 (oPr 40 3 (oLa 0 (oC (.int (8 : Int32)) (oNewa 45 8 (oPr 40 4 (oLa 0 (oC (.int (8 : Int32)) (oNewa 46 8 (oPr 40 5 (oLa 0 (oC (.int (0 : Int32)) (oPi 40 6 (eV)))))))))))))))))))))))))))))
set_option maxRecDepth 20000 in
theorem sX5_init_40_0 {C : qCx} {w : qWp} (h : qOk C w RX5 cX5_init 1 1 41 47) (hm : qMt C none) (hx : qNx C) (hin : C.2.2.2.2.2.2.2.2.1.name = "<init>") : qSnd C w 1 41 (qQf C w 41 47 jV) qf0 41 0 (tX5_init_40_0) :=
  cLa (pc := 0) h dX5_init_0 rfl (nObj (pc := 1) h dX5_init_1 fo_X5_3 fo_inst fo_code (by decide) (cLa (pc := 4) h dX5_init_4 rfl (cB (pc := 5) h dX5_init_5 rfl (nNewi (pc := 7) h dX5_init_7 rfl ac_int (by decide) (by decide) (by decide) (by decide) (gPr (pc := 9) h dX5_init_9 ff_X5_9_40 (Or.inr ⟨rfl, hin, rfl⟩) (Nat.le_of_ble_eq_true rfl) (Nat.le_of_ble_eq_true rfl) rfl (cLa (pc := 12) h dX5_init_12 rfl (cB (pc := 13) h dX5_init_13 rfl (nNewi (pc := 15) h dX5_init_15 rfl ac_int (by decide) (by decide) (by decide) (by decide) (gPr (pc := 17) h dX5_init_17 ff_X5_15_40 (Or.inr ⟨rfl, hin, rfl⟩) (Nat.le_of_ble_eq_true rfl) (Nat.le_of_ble_eq_true rfl) rfl (cLa (pc := 20) h dX5_init_20 rfl (cB (pc := 21) h dX5_init_21 rfl (nNewi (pc := 23) h dX5_init_23 rfl ac_int (by decide) (by decide) (by decide) (by decide) (gPr (pc := 25) h dX5_init_25 ff_X5_18_40 (Or.inr ⟨rfl, hin, rfl⟩) (Nat.le_of_ble_eq_true rfl) (Nat.le_of_ble_eq_true rfl) rfl (cLa (pc := 28) h dX5_init_28 rfl (cB (pc := 29) h dX5_init_29 rfl (nNewi (pc := 31) h dX5_init_31 rfl ac_int (by decide) (by decide) (by decide) (by decide) (gPr (pc := 33) h dX5_init_33 ff_X5_21_40 (Or.inr ⟨rfl, hin, rfl⟩) (Nat.le_of_ble_eq_true rfl) (Nat.le_of_ble_eq_true rfl) rfl (cLa (pc := 36) h dX5_init_36 rfl (cB (pc := 37) h dX5_init_37 rfl (nNewi (pc := 39) h dX5_init_39 rfl ac_int (by decide) (by decide) (by decide) (by decide) (gPr (pc := 41) h dX5_init_41 ff_X5_24_40 (Or.inr ⟨rfl, hin, rfl⟩) (Nat.le_of_ble_eq_true rfl) (Nat.le_of_ble_eq_true rfl) rfl (cLa (pc := 44) h dX5_init_44 rfl (cB (pc := 45) h dX5_init_45 rfl (nNewi (pc := 47) h dX5_init_47 rfl ac_int (by decide) (by decide) (by decide) (by decide) (gPr (pc := 49) h dX5_init_49 ff_X5_27_40 (Or.inr ⟨rfl, hin, rfl⟩) (Nat.le_of_ble_eq_true rfl) (Nat.le_of_ble_eq_true rfl) rfl (cLa (pc := 52) h dX5_init_52 rfl (cC (pc := 53) h dX5_init_53 rfl (gPi (pc := 54) h dX5_init_54 ff_X5_30_40 (Or.inl rfl) (Nat.le_of_ble_eq_true rfl) (Nat.le_of_ble_eq_true rfl) (zV (pc := 57) h hm (by decide) dX5_init_57)))))))))))))))))))))))))))) (fun _ _ => trivial))
set_option maxRecDepth 20000 in
theorem lX5_init_40_0 (m : qM) : tX5_init_40_0 [some (.ref 40)] [] m = fX5_init_40_0 m := rfl
theorem fX5_init_40_x : ∃ f : qM → Option (Unit × qM), f = fun m => fX5_init_40_0 m := ⟨_, rfl⟩
noncomputable def fX5_init_40 : qM → Option (Unit × qM) := Classical.choose fX5_init_40_x
theorem fX5_init_40_d : fX5_init_40 = fun m => fX5_init_40_0 m := Classical.choose_spec fX5_init_40_x
noncomputable def GX5_init_40 : qG Unit := fun av m => match av with
  | [.ref 40] => fX5_init_40 m
  | _ => none
theorem spX5_init_40 : qSpV yX5_init (.code yX5_init cX5_init 1 none) 1 qf0 41 47 2 GX5_init_40 := by
  intro av m m' hG
  unfold GX5_init_40 at hG
  split at hG
  · rw [fX5_init_40_d] at hG
    exact ⟨qmeet (J := jV) (r := ((), m')) (av := [.ref 40]) (by decide +kernel) (Nat.le_of_ble_eq_true rfl) (fun C w h hm hx hn => sX5_init_40_0 h hm hx (by rw [hn]; rfl)) ((lX5_init_40_0 _).trans hG) (Nat.le_of_ble_eq_true rfl), ⟨40, _, rfl, by decide⟩⟩
  · cases hG
theorem mf_X10_11 : Jvm.Cond.fieldLink RX10 11 (qTb 10 0).1 (qTb 10 0).2.1 (qTb 10 0).2.2.1 ∈ qTw := qm1 (List.mem_of_getElem? (i := 121) (by decide +kernel)) (by decide +kernel)
theorem ff_X10_11_7 : qFd RX10 11 7 10 0 3 := ⟨mf_X10_11, rfl, by decide, rfl⟩
theorem fn_X10_9 : Jvm.Cond.classLink RX10 9 RX5 ∈ qTw := qm1 (List.mem_of_getElem? (i := 92) (by decide +kernel)) (by decide +kernel)
theorem fi_ParentEve_Policy : Jvm.Cond.instantiable RX5 7 ∈ qTw := qm1 (List.mem_of_getElem? (i := 94) (by decide +kernel)) (by decide +kernel)
theorem in_ParentEve_Policy : Jvm.Cond.initialized "ParentEve$Policy" ∈ qTw := qm1 (List.mem_of_getElem? (i := 6) (by decide +kernel)) (by decide +kernel)
theorem im_X5_init : Jvm.Cond.instanceMethod yX5_init ∈ qTw := qm1 (List.mem_of_getElem? (i := 96) (by decide +kernel)) (by decide +kernel)
theorem co_X5_init : Jvm.Cond.code yX5_init cX5_init 1 none ∈ qTw := qm1 (List.mem_of_getElem? (i := 97) (by decide +kernel)) (by decide +kernel)
theorem yk_X5_init : qYk yX5_init 0 := ⟨⟨by decide +kernel, by decide +kernel⟩, by decide +kernel⟩
theorem ml_X10_17 : Jvm.Cond.methodLinkNest RX10 17 yX5_init "ParentEve" ∈ qTw := qm1 (List.mem_of_getElem? (i := 95) (by decide +kernel)) (by decide +kernel)
theorem kd_X10_17 {C : qCx} {w : qWp} {cc : ByteArray} {nL dp n0 n1 pc : Nat} (h : qOk C w RX10 cc nL dp n0 n1) (d : decode cc pc = .ok (.invokespecial 17, 3)) : qCallOk C w nL dp n0 n1 pc 1 2 yX5_init (.code yX5_init cX5_init 1 none) := kindIN h d ml_X10_17 im_X5_init in_ParentEve_Policy co_X5_init yk_X5_init (by decide) rfl
theorem mf_X10_18 : Jvm.Cond.fieldLink RX10 18 (qTb 10 1).1 (qTb 10 1).2.1 (qTb 10 1).2.2.1 ∈ qTw := qm1 (List.mem_of_getElem? (i := 122) (by decide +kernel)) (by decide +kernel)
theorem ff_X10_18_7 : qFd RX10 18 7 10 1 3 := ⟨mf_X10_18, rfl, by decide, rfl⟩
theorem mf_X10_22 : Jvm.Cond.fieldLink RX10 22 (qTb 10 2).1 (qTb 10 2).2.1 (qTb 10 2).2.2.1 ∈ qTw := qm1 (List.mem_of_getElem? (i := 123) (by decide +kernel)) (by decide +kernel)
theorem ff_X10_22_7 : qFd RX10 22 7 10 2 3 := ⟨mf_X10_22, rfl, by decide, rfl⟩
theorem mf_X10_26 : Jvm.Cond.fieldLink RX10 26 (qTb 10 3).1 (qTb 10 3).2.1 (qTb 10 3).2.2.1 ∈ qTw := qm1 (List.mem_of_getElem? (i := 124) (by decide +kernel)) (by decide +kernel)
theorem ff_X10_26_7 : qFd RX10 26 7 10 3 3 := ⟨mf_X10_26, rfl, by decide, rfl⟩
theorem mf_X10_29 : Jvm.Cond.fieldLink RX10 29 (qTb 10 4).1 (qTb 10 4).2.1 (qTb 10 4).2.2.1 ∈ qTw := qm1 (List.mem_of_getElem? (i := 125) (by decide +kernel)) (by decide +kernel)
theorem ff_X10_29_7 : qFd RX10 29 7 10 4 3 := ⟨mf_X10_29, rfl, by decide, rfl⟩
theorem fo_X10_3 : Jvm.Cond.methodLink RX10 3 objectInit ∈ qTw := qm1 (List.mem_of_getElem? (i := 91) (by decide +kernel)) (by decide +kernel)
theorem dX10_init_0 : decode cX10_init 0 = .ok (.aload_n 0, 1) := by decide +kernel
theorem dX10_init_1 : decode cX10_init 1 = .ok (.invokespecial 3, 3) := by decide +kernel
theorem dX10_init_4 : decode cX10_init 4 = .ok (.aload_n 0, 1) := by decide +kernel
theorem dX10_init_5 : decode cX10_init 5 = .ok (.iconst 4, 1) := by decide +kernel
theorem dX10_init_6 : decode cX10_init 6 = .ok (.anewarray 9, 3) := by decide +kernel
theorem dX10_init_9 : decode cX10_init 9 = .ok (.putfield 11, 3) := by decide +kernel
theorem dX10_init_12 : decode cX10_init 12 = .ok (.aload_n 0, 1) := by decide +kernel
theorem dX10_init_13 : decode cX10_init 13 = .ok (.new 9, 3) := by decide +kernel
theorem dX10_init_16 : decode cX10_init 16 = .ok (.dup, 1) := by decide +kernel
theorem dX10_init_17 : decode cX10_init 17 = .ok (.invokespecial 17, 3) := by decide +kernel
theorem dX10_init_20 : decode cX10_init 20 = .ok (.putfield 18, 3) := by decide +kernel
theorem dX10_init_23 : decode cX10_init 23 = .ok (.aload_n 0, 1) := by decide +kernel
theorem dX10_init_24 : decode cX10_init 24 = .ok (.bipush 10, 2) := by decide +kernel
theorem dX10_init_26 : decode cX10_init 26 = .ok (.newarray .int, 2) := by decide +kernel
theorem dX10_init_28 : decode cX10_init 28 = .ok (.putfield 22, 3) := by decide +kernel
theorem dX10_init_31 : decode cX10_init 31 = .ok (.aload_n 0, 1) := by decide +kernel
theorem dX10_init_32 : decode cX10_init 32 = .ok (.sipush 200, 3) := by decide +kernel
theorem dX10_init_35 : decode cX10_init 35 = .ok (.newarray .int, 2) := by decide +kernel
theorem dX10_init_37 : decode cX10_init 37 = .ok (.putfield 26, 3) := by decide +kernel
theorem dX10_init_40 : decode cX10_init 40 = .ok (.aload_n 0, 1) := by decide +kernel
theorem dX10_init_41 : decode cX10_init 41 = .ok (.bipush 10, 2) := by decide +kernel
theorem dX10_init_43 : decode cX10_init 43 = .ok (.newarray .int, 2) := by decide +kernel
theorem dX10_init_45 : decode cX10_init 45 = .ok (.putfield 29, 3) := by decide +kernel
theorem dX10_init_48 : decode cX10_init 48 = .ok (.iconst 0, 1) := by decide +kernel
theorem dX10_init_49 : decode cX10_init 49 = .ok (.istore_n 1, 1) := by decide +kernel
theorem dX10_init_50 : decode cX10_init 50 = .ok (.iload_n 1, 1) := by decide +kernel
theorem dX10_init_51 : decode cX10_init 51 = .ok (.iconst 4, 1) := by decide +kernel
theorem dX10_init_52 : decode cX10_init 52 = .ok (.if_icmp .ge 22, 3) := by decide +kernel
theorem dX10_init_55 : decode cX10_init 55 = .ok (.aload_n 0, 1) := by decide +kernel
theorem dX10_init_56 : decode cX10_init 56 = .ok (.getfield 11, 3) := by decide +kernel
theorem dX10_init_59 : decode cX10_init 59 = .ok (.iload_n 1, 1) := by decide +kernel
theorem dX10_init_60 : decode cX10_init 60 = .ok (.new 9, 3) := by decide +kernel
theorem dX10_init_63 : decode cX10_init 63 = .ok (.dup, 1) := by decide +kernel
theorem dX10_init_64 : decode cX10_init 64 = .ok (.invokespecial 17, 3) := by decide +kernel
theorem dX10_init_67 : decode cX10_init 67 = .ok (.aastore, 1) := by decide +kernel
theorem dX10_init_68 : decode cX10_init 68 = .ok (.iinc 1 1, 3) := by decide +kernel
theorem dX10_init_71 : decode cX10_init 71 = .ok (.goto (-21), 3) := by decide +kernel
theorem dX10_init_74 : decode cX10_init 74 = .ok (.iconst 0, 1) := by decide +kernel
theorem dX10_init_75 : decode cX10_init 75 = .ok (.istore_n 1, 1) := by decide +kernel
theorem dX10_init_76 : decode cX10_init 76 = .ok (.iload_n 1, 1) := by decide +kernel
theorem dX10_init_77 : decode cX10_init 77 = .ok (.bipush 10, 2) := by decide +kernel
theorem dX10_init_79 : decode cX10_init 79 = .ok (.if_icmp .ge 16, 3) := by decide +kernel
theorem dX10_init_82 : decode cX10_init 82 = .ok (.aload_n 0, 1) := by decide +kernel
theorem dX10_init_83 : decode cX10_init 83 = .ok (.getfield 22, 3) := by decide +kernel
theorem dX10_init_86 : decode cX10_init 86 = .ok (.iload_n 1, 1) := by decide +kernel
theorem dX10_init_87 : decode cX10_init 87 = .ok (.iconst (-1), 1) := by decide +kernel
theorem dX10_init_88 : decode cX10_init 88 = .ok (.iastore, 1) := by decide +kernel
theorem dX10_init_89 : decode cX10_init 89 = .ok (.iinc 1 1, 3) := by decide +kernel
theorem dX10_init_92 : decode cX10_init 92 = .ok (.goto (-16), 3) := by decide +kernel
theorem dX10_init_95 : decode cX10_init 95 = .ok (.return_, 1) := by decide +kernel
noncomputable def fX10_init_39 : Nat → Int32 → qM → Option (Unit × qM)
  | 0, _, _ => none
  | n + 1, a1, m =>
    bif leb ((10 : Int32)) a1 then some ((), m) else qbN (gR m 7 2) (fun q28 => bif Nat.beq q28 16 then bif inb a1 10 then let m29 := (sI m 16 (ix a1) ((-1 : Int32))); (fX10_init_39 n) ((a1 + (1 : Int32))) m29 else none else none) none
noncomputable def tX10_init_39 (j39 : qT (Unit × qM)) : qT (Unit × qM) :=
  oLi 1 (oC (.int (10 : Int32)) (oCGe (eV) (oLa 0 (oGr 7 2 (oIs 16 (oLi 1 (oC (.int (-1 : Int32)) (oWi 16 10 (oInc 1 (1 : Int32) (j39))))))))))
noncomputable def wX10_init_39 (k : Int32 → qM → Option (Unit × qM)) : qT (Unit × qM) := fun lo st m => match lo, st with
  | [some (.ref 7), some (.int a1)], [] => k a1 m
  | _, _ => none
set_option maxRecDepth 20000 in
theorem sX10_init_39 {C : qCx} {w : qWp} (h : qOk C w RX10 cX10_init 2 2 8 47) (hm : qMt C none) (hx : qNx C) (hin : C.2.2.2.2.2.2.2.2.1.name = "<init>") {j39 : qT (Unit × qM)} (k39 : qSnd C w 2 8 (qQf C w 8 47 jV) qf0 47 76 j39) : qSnd C w 2 8 (qQf C w 8 47 jV) qf0 47 76 (tX10_init_39 j39) :=
  cLi (pc := 76) h dX10_init_76 rfl (cB (pc := 77) h dX10_init_77 rfl (jCGe (pc := 79) h dX10_init_79 rfl (zV (pc := 95) h hm (by decide) dX10_init_95) (cLa (pc := 82) h dX10_init_82 rfl (gGr (pc := 83) h dX10_init_83 ff_X10_22_7 (Nat.le_of_ble_eq_true rfl) (Nat.le_of_ble_eq_true rfl) rfl (nIs (cLi (pc := 86) h dX10_init_86 rfl (cC (pc := 87) h dX10_init_87 rfl (rWi (pc := 88) h dX10_init_88 rfl (Nat.le_of_ble_eq_true rfl) (Nat.le_of_ble_eq_true rfl) (cInc (pc := 89) h dX10_init_89 rfl (jGo (pc := 92) h dX10_init_92 rfl (k39)))))))))))
set_option maxRecDepth 20000 in
theorem lX10_init_39 (n : Nat) (a1 : Int32) (m : qM) : tX10_init_39 (wX10_init_39 ((fX10_init_39 n))) [some (.ref 7), some (.int a1)] [] m = fX10_init_39 (n + 1) a1 m := rfl
theorem bX10_init_39 {C : qCx} {w : qWp} (h : qOk C w RX10 cX10_init 2 2 8 47) (hm : qMt C none) (hx : qNx C) (hin : C.2.2.2.2.2.2.2.2.1.name = "<init>") : ∀ n : Nat, qSnd C w 2 8 (qQf C w 8 47 jV) qf0 47 76 (wX10_init_39 (fX10_init_39 n))
  | 0 => qSnd_of0 (fun lo st m x hr0 => by
    unfold wX10_init_39 at hr0
    split at hr0
    · cases hr0
    · cases hr0)
  | n + 1 => by
    have ih := bX10_init_39 h hm hx hin n
    exact qSnd_of (fun lo st m x hr0 => by
    unfold wX10_init_39 at hr0
    split at hr0
    · exact ⟨_, (qsub_e (qsub_e qsub_nil)), (lX10_init_39 n _ _).trans hr0⟩
    · cases hr0) (sX10_init_39 h hm hx hin ih)
noncomputable def fX10_init_0 (m : qM) : Option (Unit × qM) :=
  bif Nat.beq (Int32.toNatClampNeg ((4 : Int32))) 4 then (bif Nat.beq 4 0 then none else (let m1 := (qz m 8); let m2 := (sR m1 7 0 (some 8)); let m3 := (qz m2 9); qbV (fX5_init_9 m3) (fun m4 => let m5 := (sR m4 7 1 (some 9)); bif Nat.beq (Int32.toNatClampNeg ((10 : Int32))) 10 then (bif Nat.beq 10 0 then none else (let m6 := (qz m5 16); let m7 := (sR m6 7 2 (some 16)); bif Nat.beq (Int32.toNatClampNeg ((200 : Int32))) 200 then (bif Nat.beq 200 0 then none else (let m8 := (qz m7 17); let m9 := (sR m8 7 3 (some 17)); bif Nat.beq (Int32.toNatClampNeg ((10 : Int32))) 10 then (bif Nat.beq 10 0 then none else (let m10 := (qz m9 18); let m11 := (sR m10 7 4 (some 18)); bif leb ((4 : Int32)) ((0 : Int32)) then none else qbN (gR m11 7 0) (fun q12 => bif Nat.beq q12 8 then let m13 := (qz m11 19); qbV (fX5_init_19 m13) (fun m14 => bif Nat.beq 19 19 then (bif inb ((0 : Int32)) 4 then let m15 := (sR m14 8 (ix ((0 : Int32))) (some 19)); bif leb ((4 : Int32)) (((0 : Int32) + (1 : Int32))) then none else qbN (gR m15 7 0) (fun q16 => bif Nat.beq q16 8 then let m17 := (qz m15 26); qbV (fX5_init_26 m17) (fun m18 => bif Nat.beq 26 26 then (bif inb (((0 : Int32) + (1 : Int32))) 4 then let m19 := (sR m18 8 (ix (((0 : Int32) + (1 : Int32)))) (some 26)); bif leb ((4 : Int32)) ((((0 : Int32) + (1 : Int32)) + (1 : Int32))) then none else qbN (gR m19 7 0) (fun q20 => bif Nat.beq q20 8 then let m21 := (qz m19 33); qbV (fX5_init_33 m21) (fun m22 => bif Nat.beq 33 33 then (bif inb ((((0 : Int32) + (1 : Int32)) + (1 : Int32))) 4 then let m23 := (sR m22 8 (ix ((((0 : Int32) + (1 : Int32)) + (1 : Int32)))) (some 33)); bif leb ((4 : Int32)) (((((0 : Int32) + (1 : Int32)) + (1 : Int32)) + (1 : Int32))) then none else qbN (gR m23 7 0) (fun q24 => bif Nat.beq q24 8 then let m25 := (qz m23 40); qbV (fX5_init_40 m25) (fun m26 => bif Nat.beq 40 40 then (bif inb (((((0 : Int32) + (1 : Int32)) + (1 : Int32)) + (1 : Int32))) 4 then let m27 := (sR m26 8 (ix (((((0 : Int32) + (1 : Int32)) + (1 : Int32)) + (1 : Int32)))) (some 40)); bif leb ((4 : Int32)) ((((((0 : Int32) + (1 : Int32)) + (1 : Int32)) + (1 : Int32)) + (1 : Int32))) then fX10_init_39 FU ((0 : Int32)) m27 else none else none) else none) else none) none else none) else none) else none) none else none) else none) else none) none else none) else none) else none) none)) else none)) else none)) else none))) else none
noncomputable def tX10_init_0 (j39 : qT (Unit × qM)) : qT (Unit × qM) :=
  oLa 0 (oObj (oLa 0 (oC (.int (4 : Int32)) (oNewa 8 4 (oPr 7 0 (oLa 0 (oNew 9 (oDup (oCv GX5_init_9 1 (oPr 7 1 (oLa 0 (oC (.int (10 : Int32)) (oNewa 16 10 (oPr 7 2 (oLa 0 (oC (.int (200 : Int32)) (oNewa 17 200 (oPr 7 3 (oLa 0 (oC (.int (10 : Int32)) (oNewa 18 10 (oPr 7 4 (oC (.int (0 : Int32)) (oSi 1 (oLi 1 (oC (.int (4 : Int32)) (oCGe (fun _ _ _ => none) (oLa 0 (oGr 7 0 (oIs 8 (oLi 1 (oNew 19 (oDup (oCv GX5_init_19 1 (oWr 8 4 (fun q => Nat.beq q 19) (oInc 1 (1 : Int32) (oLi 1 (oC (.int (4 : Int32)) (oCGe (fun _ _ _ => none) (oLa 0 (oGr 7 0 (oIs 8 (oLi 1 (oNew 26 (oDup (oCv GX5_init_26 1 (oWr 8 4 (fun q => Nat.beq q 26) (oInc 1 (1 : Int32) (oLi 1 (oC (.int (4 : Int32)) (oCGe (fun _ _ _ => none) (oLa 0 (oGr 7 0 (oIs 8 (oLi 1 (oNew 33 (oDup (oCv GX5_init_33 1 (oWr 8 4 (fun q => Nat.beq q 33) (oInc 1 (1 : Int32) (oLi 1 (oC (.int (4 : Int32)) (oCGe (fun _ _ _ => none) (oLa 0 (oGr 7 0 (oIs 8 (oLi 1 (oNew 40 (oDup (oCv GX5_init_40 1 (oWr 8 4 (fun q => Nat.beq q 40) (oInc 1 (1 : Int32) (oLi 1 (oC (.int (4 : Int32)) (oCGe (oC (.int (0 : Int32)) (oSi 1 (j39))) (fun _ _ _ => none))))))))))))))))))))))))))))))))))))))))))))))))))))))))))))))))))))))))))))
set_option maxRecDepth 20000 in
theorem sX10_init_0 {C : qCx} {w : qWp} (h : qOk C w RX10 cX10_init 2 2 8 47) (hm : qMt C none) (hx : qNx C) (hin : C.2.2.2.2.2.2.2.2.1.name = "<init>") {j39 : qT (Unit × qM)} (k39 : qSnd C w 2 8 (qQf C w 8 47 jV) qf0 47 76 j39) : qSnd C w 2 8 (qQf C w 8 47 jV) qf0 8 0 (tX10_init_0 j39) :=
  cLa (pc := 0) h dX10_init_0 rfl (nObj (pc := 1) h dX10_init_1 fo_X10_3 fo_inst fo_code (by decide) (cLa (pc := 4) h dX10_init_4 rfl (cC (pc := 5) h dX10_init_5 rfl (nNewq (pc := 6) h dX10_init_6 rfl fn_X10_9 (qOk_G h).2.2.2.2.2.2.2.2.2.2.2.2 (by decide) (by decide) (by decide) (by decide) (gPr (pc := 9) h dX10_init_9 ff_X10_11_7 (Or.inr ⟨rfl, hin, rfl⟩) (Nat.le_of_ble_eq_true rfl) (Nat.le_of_ble_eq_true rfl) rfl (cLa (pc := 12) h dX10_init_12 rfl (nNew (pc := 13) h dX10_init_13 qCk_5 k4_5 rfl fn_X10_9 fi_ParentEve_Policy in_ParentEve_Policy (by decide) (by decide) (by decide) (fun _ => rfl) (aDup (pc := 16) h dX10_init_16 (kCv (pc := 17) h (kd_X10_17 h dX10_init_17) spX5_init_9 (by decide) (by decide) (by decide) (by decide) (gPr (pc := 20) h dX10_init_20 ff_X10_18_7 (Or.inl rfl) (Nat.le_of_ble_eq_true rfl) (Nat.le_of_ble_eq_true rfl) rfl (cLa (pc := 23) h dX10_init_23 rfl (cB (pc := 24) h dX10_init_24 rfl (nNewi (pc := 26) h dX10_init_26 rfl ac_int (by decide) (by decide) (by decide) (by decide) (gPr (pc := 28) h dX10_init_28 ff_X10_22_7 (Or.inr ⟨rfl, hin, rfl⟩) (Nat.le_of_ble_eq_true rfl) (Nat.le_of_ble_eq_true rfl) rfl (cLa (pc := 31) h dX10_init_31 rfl (cS (pc := 32) h dX10_init_32 rfl (nNewi (pc := 35) h dX10_init_35 rfl ac_int (by decide) (by decide) (by decide) (by decide) (gPr (pc := 37) h dX10_init_37 ff_X10_26_7 (Or.inr ⟨rfl, hin, rfl⟩) (Nat.le_of_ble_eq_true rfl) (Nat.le_of_ble_eq_true rfl) rfl (cLa (pc := 40) h dX10_init_40 rfl (cB (pc := 41) h dX10_init_41 rfl (nNewi (pc := 43) h dX10_init_43 rfl ac_int (by decide) (by decide) (by decide) (by decide) (gPr (pc := 45) h dX10_init_45 ff_X10_29_7 (Or.inr ⟨rfl, hin, rfl⟩) (Nat.le_of_ble_eq_true rfl) (Nat.le_of_ble_eq_true rfl) rfl (cC (pc := 48) h dX10_init_48 rfl (cSi (pc := 49) h dX10_init_49 rfl (cLi (pc := 50) h dX10_init_50 rfl (cC (pc := 51) h dX10_init_51 rfl (jCGe (pc := 52) h dX10_init_52 rfl (qSnd_no) (cLa (pc := 55) h dX10_init_55 rfl (gGr (pc := 56) h dX10_init_56 ff_X10_11_7 (Nat.le_of_ble_eq_true rfl) (Nat.le_of_ble_eq_true rfl) rfl (nIs (cLi (pc := 59) h dX10_init_59 rfl (nNew (pc := 60) h dX10_init_60 qCk_5 k4_5 rfl fn_X10_9 fi_ParentEve_Policy in_ParentEve_Policy (by decide) (by decide) (by decide) (fun _ => rfl) (aDup (pc := 63) h dX10_init_63 (kCv (pc := 64) h (kd_X10_17 h dX10_init_64) spX5_init_19 (by decide) (by decide) (by decide) (by decide) (rWr (qok_19 (by decide)) (pc := 67) h dX10_init_67 rfl (Nat.le_of_ble_eq_true rfl) (Nat.le_of_ble_eq_true rfl) (fun _ => rfl) (cInc (pc := 68) h dX10_init_68 rfl (jGo (pc := 71) h dX10_init_71 rfl (cLi (pc := 50) h dX10_init_50 rfl (cC (pc := 51) h dX10_init_51 rfl (jCGe (pc := 52) h dX10_init_52 rfl (qSnd_no) (cLa (pc := 55) h dX10_init_55 rfl (gGr (pc := 56) h dX10_init_56 ff_X10_11_7 (Nat.le_of_ble_eq_true rfl) (Nat.le_of_ble_eq_true rfl) rfl (nIs (cLi (pc := 59) h dX10_init_59 rfl (nNew (pc := 60) h dX10_init_60 qCk_5 k4_5 rfl fn_X10_9 fi_ParentEve_Policy in_ParentEve_Policy (by decide) (by decide) (by decide) (fun _ => rfl) (aDup (pc := 63) h dX10_init_63 (kCv (pc := 64) h (kd_X10_17 h dX10_init_64) spX5_init_26 (by decide) (by decide) (by decide) (by decide) (rWr (qok_26 (by decide)) (pc := 67) h dX10_init_67 rfl (Nat.le_of_ble_eq_true rfl) (Nat.le_of_ble_eq_true rfl) (fun _ => rfl) (cInc (pc := 68) h dX10_init_68 rfl (jGo (pc := 71) h dX10_init_71 rfl (cLi (pc := 50) h dX10_init_50 rfl (cC (pc := 51) h dX10_init_51 rfl (jCGe (pc := 52) h dX10_init_52 rfl (qSnd_no) (cLa (pc := 55) h dX10_init_55 rfl (gGr (pc := 56) h dX10_init_56 ff_X10_11_7 (Nat.le_of_ble_eq_true rfl) (Nat.le_of_ble_eq_true rfl) rfl (nIs (cLi (pc := 59) h dX10_init_59 rfl (nNew (pc := 60) h dX10_init_60 qCk_5 k4_5 rfl fn_X10_9 fi_ParentEve_Policy in_ParentEve_Policy (by decide) (by decide) (by decide) (fun _ => rfl) (aDup (pc := 63) h dX10_init_63 (kCv (pc := 64) h (kd_X10_17 h dX10_init_64) spX5_init_33 (by decide) (by decide) (by decide) (by decide) (rWr (qok_33 (by decide)) (pc := 67) h dX10_init_67 rfl (Nat.le_of_ble_eq_true rfl) (Nat.le_of_ble_eq_true rfl) (fun _ => rfl) (cInc (pc := 68) h dX10_init_68 rfl (jGo (pc := 71) h dX10_init_71 rfl (cLi (pc := 50) h dX10_init_50 rfl (cC (pc := 51) h dX10_init_51 rfl (jCGe (pc := 52) h dX10_init_52 rfl (qSnd_no) (cLa (pc := 55) h dX10_init_55 rfl (gGr (pc := 56) h dX10_init_56 ff_X10_11_7 (Nat.le_of_ble_eq_true rfl) (Nat.le_of_ble_eq_true rfl) rfl (nIs (cLi (pc := 59) h dX10_init_59 rfl (nNew (pc := 60) h dX10_init_60 qCk_5 k4_5 rfl fn_X10_9 fi_ParentEve_Policy in_ParentEve_Policy (by decide) (by decide) (by decide) (fun _ => rfl) (aDup (pc := 63) h dX10_init_63 (kCv (pc := 64) h (kd_X10_17 h dX10_init_64) spX5_init_40 (by decide) (by decide) (by decide) (by decide) (rWr (qok_40 (by decide)) (pc := 67) h dX10_init_67 rfl (Nat.le_of_ble_eq_true rfl) (Nat.le_of_ble_eq_true rfl) (fun _ => rfl) (cInc (pc := 68) h dX10_init_68 rfl (jGo (pc := 71) h dX10_init_71 rfl (cLi (pc := 50) h dX10_init_50 rfl (cC (pc := 51) h dX10_init_51 rfl (jCGe (pc := 52) h dX10_init_52 rfl (cC (pc := 74) h dX10_init_74 rfl (cSi (pc := 75) h dX10_init_75 rfl (k39))) (qSnd_no))))))))))))))))))))))))))))))))))))))))))))))))))))))))))))))))))))))))))))))) (fun _ _ => trivial))
set_option maxRecDepth 20000 in
theorem lX10_init_0 (m : qM) : tX10_init_0 (wX10_init_39 (fX10_init_39 FU)) [some (.ref 7), none] [] m = fX10_init_0 m := rfl
theorem fX10_init_x : ∃ f : qM → Option (Unit × qM), f = fun m => fX10_init_0 m := ⟨_, rfl⟩
noncomputable def fX10_init : qM → Option (Unit × qM) := Classical.choose fX10_init_x
theorem fX10_init_d : fX10_init = fun m => fX10_init_0 m := Classical.choose_spec fX10_init_x
noncomputable def GX10_init : qG Unit := fun av m => match av with
  | [.ref 7] => fX10_init m
  | _ => none
theorem spX10_init : qSpV yX10_init (.code yX10_init cX10_init 2 none) 2 qf0 8 47 2 GX10_init := by
  intro av m m' hG
  unfold GX10_init at hG
  split at hG
  · rw [fX10_init_d] at hG
    exact ⟨qmeet (J := jV) (r := ((), m')) (av := [.ref 7]) (by decide +kernel) (Nat.le_of_ble_eq_true rfl) (fun C w h hm hx hn => sX10_init_0 h hm hx (by rw [hn]; rfl) (bX10_init_39 h hm hx (by rw [hn]; rfl) FU)) ((lX10_init_0 _).trans hG) (Nat.le_of_ble_eq_true rfl), ⟨7, _, rfl, by decide⟩⟩
  · cases hG
theorem mf_X3_9 : Jvm.Cond.fieldLink RX3 9 (qTb 3 1).1 (qTb 3 1).2.1 (qTb 3 1).2.2.1 ∈ qTw := qm1 (List.mem_of_getElem? (i := 145) (by decide +kernel)) (by decide +kernel)
theorem ff_X3_9_47 : qFd RX3 9 47 3 1 3 := ⟨mf_X3_9, rfl, by decide, rfl⟩
theorem mf_X3_15 : Jvm.Cond.fieldLink RX3 15 (qTb 3 2).1 (qTb 3 2).2.1 (qTb 3 2).2.2.1 ∈ qTw := qm1 (List.mem_of_getElem? (i := 146) (by decide +kernel)) (by decide +kernel)
theorem ff_X3_15_47 : qFd RX3 15 47 3 2 3 := ⟨mf_X3_15, rfl, by decide, rfl⟩
theorem mf_X3_18 : Jvm.Cond.fieldLink RX3 18 (qTb 3 3).1 (qTb 3 3).2.1 (qTb 3 3).2.2.1 ∈ qTw := qm1 (List.mem_of_getElem? (i := 147) (by decide +kernel)) (by decide +kernel)
theorem ff_X3_18_47 : qFd RX3 18 47 3 3 3 := ⟨mf_X3_18, rfl, by decide, rfl⟩
theorem mf_X3_21 : Jvm.Cond.fieldLink RX3 21 (qTb 3 4).1 (qTb 3 4).2.1 (qTb 3 4).2.2.1 ∈ qTw := qm1 (List.mem_of_getElem? (i := 148) (by decide +kernel)) (by decide +kernel)
theorem ff_X3_21_47 : qFd RX3 21 47 3 4 3 := ⟨mf_X3_21, rfl, by decide, rfl⟩
theorem mf_X3_24 : Jvm.Cond.fieldLink RX3 24 (qTb 3 5).1 (qTb 3 5).2.1 (qTb 3 5).2.2.1 ∈ qTw := qm1 (List.mem_of_getElem? (i := 149) (by decide +kernel)) (by decide +kernel)
theorem ff_X3_24_47 : qFd RX3 24 47 3 5 3 := ⟨mf_X3_24, rfl, by decide, rfl⟩
theorem mf_X3_27 : Jvm.Cond.fieldLink RX3 27 (qTb 3 6).1 (qTb 3 6).2.1 (qTb 3 6).2.2.1 ∈ qTw := qm1 (List.mem_of_getElem? (i := 150) (by decide +kernel)) (by decide +kernel)
theorem ff_X3_27_47 : qFd RX3 27 47 3 6 3 := ⟨mf_X3_27, rfl, by decide, rfl⟩
theorem mf_X3_30 : Jvm.Cond.fieldLink RX3 30 (qTb 3 7).1 (qTb 3 7).2.1 (qTb 3 7).2.2.1 ∈ qTw := qm1 (List.mem_of_getElem? (i := 151) (by decide +kernel)) (by decide +kernel)
theorem ff_X3_30_47 : qFd RX3 30 47 3 7 3 := ⟨mf_X3_30, rfl, by decide, rfl⟩
theorem mf_X3_33 : Jvm.Cond.fieldLink RX3 33 (qTb 3 8).1 (qTb 3 8).2.1 (qTb 3 8).2.2.1 ∈ qTw := qm1 (List.mem_of_getElem? (i := 152) (by decide +kernel)) (by decide +kernel)
theorem ff_X3_33_47 : qFd RX3 33 47 3 8 3 := ⟨mf_X3_33, rfl, by decide, rfl⟩
theorem mf_X3_36 : Jvm.Cond.fieldLink RX3 36 (qTb 3 9).1 (qTb 3 9).2.1 (qTb 3 9).2.2.1 ∈ qTw := qm1 (List.mem_of_getElem? (i := 153) (by decide +kernel)) (by decide +kernel)
theorem ff_X3_36_47 : qFd RX3 36 47 3 9 3 := ⟨mf_X3_36, rfl, by decide, rfl⟩
theorem mf_X3_39 : Jvm.Cond.fieldLink RX3 39 (qTb 3 10).1 (qTb 3 10).2.1 (qTb 3 10).2.2.1 ∈ qTw := qm1 (List.mem_of_getElem? (i := 154) (by decide +kernel)) (by decide +kernel)
theorem ff_X3_39_47 : qFd RX3 39 47 3 10 3 := ⟨mf_X3_39, rfl, by decide, rfl⟩
theorem mf_X3_42 : Jvm.Cond.fieldLink RX3 42 (qTb 3 0).1 (qTb 3 0).2.1 (qTb 3 0).2.2.1 ∈ qTw := qm1 (List.mem_of_getElem? (i := 144) (by decide +kernel)) (by decide +kernel)
theorem ff_X3_42_47 : qFd RX3 42 47 3 0 3 := ⟨mf_X3_42, rfl, by decide, rfl⟩
theorem fo_X3_3 : Jvm.Cond.methodLink RX3 3 objectInit ∈ qTw := qm1 (List.mem_of_getElem? (i := 142) (by decide +kernel)) (by decide +kernel)
theorem fc_X3_46 : Jvm.Cond.constant RX3 46 (1048575 : Int32) ∈ qTw := qm1 (List.mem_of_getElem? (i := 143) (by decide +kernel)) (by decide +kernel)
theorem dX3_init_0 : decode cX3_init 0 = .ok (.aload_n 0, 1) := by decide +kernel
theorem dX3_init_1 : decode cX3_init 1 = .ok (.invokespecial 3, 3) := by decide +kernel
theorem dX3_init_4 : decode cX3_init 4 = .ok (.aload_n 0, 1) := by decide +kernel
theorem dX3_init_5 : decode cX3_init 5 = .ok (.bipush 10, 2) := by decide +kernel
theorem dX3_init_7 : decode cX3_init 7 = .ok (.newarray .int, 2) := by decide +kernel
theorem dX3_init_9 : decode cX3_init 9 = .ok (.putfield 9, 3) := by decide +kernel
theorem dX3_init_12 : decode cX3_init 12 = .ok (.aload_n 0, 1) := by decide +kernel
theorem dX3_init_13 : decode cX3_init 13 = .ok (.bipush 10, 2) := by decide +kernel
theorem dX3_init_15 : decode cX3_init 15 = .ok (.newarray .int, 2) := by decide +kernel
theorem dX3_init_17 : decode cX3_init 17 = .ok (.putfield 15, 3) := by decide +kernel
theorem dX3_init_20 : decode cX3_init 20 = .ok (.aload_n 0, 1) := by decide +kernel
theorem dX3_init_21 : decode cX3_init 21 = .ok (.bipush 10, 2) := by decide +kernel
theorem dX3_init_23 : decode cX3_init 23 = .ok (.newarray .int, 2) := by decide +kernel
theorem dX3_init_25 : decode cX3_init 25 = .ok (.putfield 18, 3) := by decide +kernel
theorem dX3_init_28 : decode cX3_init 28 = .ok (.aload_n 0, 1) := by decide +kernel
theorem dX3_init_29 : decode cX3_init 29 = .ok (.bipush 15, 2) := by decide +kernel
theorem dX3_init_31 : decode cX3_init 31 = .ok (.newarray .int, 2) := by decide +kernel
theorem dX3_init_33 : decode cX3_init 33 = .ok (.putfield 21, 3) := by decide +kernel
theorem dX3_init_36 : decode cX3_init 36 = .ok (.aload_n 0, 1) := by decide +kernel
theorem dX3_init_37 : decode cX3_init 37 = .ok (.bipush 15, 2) := by decide +kernel
theorem dX3_init_39 : decode cX3_init 39 = .ok (.newarray .int, 2) := by decide +kernel
theorem dX3_init_41 : decode cX3_init 41 = .ok (.putfield 24, 3) := by decide +kernel
theorem dX3_init_44 : decode cX3_init 44 = .ok (.aload_n 0, 1) := by decide +kernel
theorem dX3_init_45 : decode cX3_init 45 = .ok (.bipush 15, 2) := by decide +kernel
theorem dX3_init_47 : decode cX3_init 47 = .ok (.newarray .int, 2) := by decide +kernel
theorem dX3_init_49 : decode cX3_init 49 = .ok (.putfield 27, 3) := by decide +kernel
theorem dX3_init_52 : decode cX3_init 52 = .ok (.aload_n 0, 1) := by decide +kernel
theorem dX3_init_53 : decode cX3_init 53 = .ok (.bipush 15, 2) := by decide +kernel
theorem dX3_init_55 : decode cX3_init 55 = .ok (.newarray .int, 2) := by decide +kernel
theorem dX3_init_57 : decode cX3_init 57 = .ok (.putfield 30, 3) := by decide +kernel
theorem dX3_init_60 : decode cX3_init 60 = .ok (.aload_n 0, 1) := by decide +kernel
theorem dX3_init_61 : decode cX3_init 61 = .ok (.bipush 15, 2) := by decide +kernel
theorem dX3_init_63 : decode cX3_init 63 = .ok (.newarray .int, 2) := by decide +kernel
theorem dX3_init_65 : decode cX3_init 65 = .ok (.putfield 33, 3) := by decide +kernel
theorem dX3_init_68 : decode cX3_init 68 = .ok (.aload_n 0, 1) := by decide +kernel
theorem dX3_init_69 : decode cX3_init 69 = .ok (.bipush 100, 2) := by decide +kernel
theorem dX3_init_71 : decode cX3_init 71 = .ok (.newarray .int, 2) := by decide +kernel
theorem dX3_init_73 : decode cX3_init 73 = .ok (.putfield 36, 3) := by decide +kernel
theorem dX3_init_76 : decode cX3_init 76 = .ok (.aload_n 0, 1) := by decide +kernel
theorem dX3_init_77 : decode cX3_init 77 = .ok (.bipush 100, 2) := by decide +kernel
theorem dX3_init_79 : decode cX3_init 79 = .ok (.newarray .int, 2) := by decide +kernel
theorem dX3_init_81 : decode cX3_init 81 = .ok (.putfield 39, 3) := by decide +kernel
theorem dX3_init_84 : decode cX3_init 84 = .ok (.aload_n 0, 1) := by decide +kernel
theorem dX3_init_85 : decode cX3_init 85 = .ok (.aload_n 1, 1) := by decide +kernel
theorem dX3_init_86 : decode cX3_init 86 = .ok (.putfield 42, 3) := by decide +kernel
theorem dX3_init_89 : decode cX3_init 89 = .ok (.iconst 0, 1) := by decide +kernel
theorem dX3_init_90 : decode cX3_init 90 = .ok (.istore_n 2, 1) := by decide +kernel
theorem dX3_init_91 : decode cX3_init 91 = .ok (.iload_n 2, 1) := by decide +kernel
theorem dX3_init_92 : decode cX3_init 92 = .ok (.bipush 10, 2) := by decide +kernel
theorem dX3_init_94 : decode cX3_init 94 = .ok (.if_icmp .ge 17, 3) := by decide +kernel
theorem dX3_init_97 : decode cX3_init 97 = .ok (.aload_n 0, 1) := by decide +kernel
theorem dX3_init_98 : decode cX3_init 98 = .ok (.getfield 18, 3) := by decide +kernel
theorem dX3_init_101 : decode cX3_init 101 = .ok (.iload_n 2, 1) := by decide +kernel
theorem dX3_init_102 : decode cX3_init 102 = .ok (.ldc 46, 2) := by decide +kernel
theorem dX3_init_104 : decode cX3_init 104 = .ok (.iastore, 1) := by decide +kernel
theorem dX3_init_105 : decode cX3_init 105 = .ok (.iinc 2 1, 3) := by decide +kernel
theorem dX3_init_108 : decode cX3_init 108 = .ok (.goto (-17), 3) := by decide +kernel
theorem dX3_init_111 : decode cX3_init 111 = .ok (.iconst 0, 1) := by decide +kernel
theorem dX3_init_112 : decode cX3_init 112 = .ok (.istore_n 2, 1) := by decide +kernel
theorem dX3_init_113 : decode cX3_init 113 = .ok (.iload_n 2, 1) := by decide +kernel
theorem dX3_init_114 : decode cX3_init 114 = .ok (.bipush 15, 2) := by decide +kernel
theorem dX3_init_116 : decode cX3_init 116 = .ok (.if_icmp .ge 25, 3) := by decide +kernel
theorem dX3_init_119 : decode cX3_init 119 = .ok (.aload_n 0, 1) := by decide +kernel
theorem dX3_init_120 : decode cX3_init 120 = .ok (.getfield 21, 3) := by decide +kernel
theorem dX3_init_123 : decode cX3_init 123 = .ok (.iload_n 2, 1) := by decide +kernel
theorem dX3_init_124 : decode cX3_init 124 = .ok (.ldc 46, 2) := by decide +kernel
theorem dX3_init_126 : decode cX3_init 126 = .ok (.iastore, 1) := by decide +kernel
theorem dX3_init_127 : decode cX3_init 127 = .ok (.aload_n 0, 1) := by decide +kernel
theorem dX3_init_128 : decode cX3_init 128 = .ok (.getfield 27, 3) := by decide +kernel
theorem dX3_init_131 : decode cX3_init 131 = .ok (.iload_n 2, 1) := by decide +kernel
theorem dX3_init_132 : decode cX3_init 132 = .ok (.ldc 46, 2) := by decide +kernel
theorem dX3_init_134 : decode cX3_init 134 = .ok (.iastore, 1) := by decide +kernel
theorem dX3_init_135 : decode cX3_init 135 = .ok (.iinc 2 1, 3) := by decide +kernel
theorem dX3_init_138 : decode cX3_init 138 = .ok (.goto (-25), 3) := by decide +kernel
theorem dX3_init_141 : decode cX3_init 141 = .ok (.return_, 1) := by decide +kernel
noncomputable def fX3_init_47 (k59 : Int32 → qM → Option (Unit × qM)) : Nat → Int32 → qM → Option (Unit × qM)
  | 0, _, _ => none
  | n + 1, a2, m =>
    bif leb ((10 : Int32)) a2 then k59 ((0 : Int32)) m else qbN (gR m 47 3) (fun q22 => bif Nat.beq q22 50 then bif inb a2 10 then let m23 := (sI m 50 (ix a2) ((1048575 : Int32))); (fX3_init_47 k59 n) ((a2 + (1 : Int32))) m23 else none else none) none
noncomputable def tX3_init_47 (j59 : qT (Unit × qM)) (j47 : qT (Unit × qM)) : qT (Unit × qM) :=
  oLi 2 (oC (.int (10 : Int32)) (oCGe (oC (.int (0 : Int32)) (oSi 2 (j59))) (oLa 0 (oGr 47 3 (oIs 50 (oLi 2 (oC (.int (1048575 : Int32)) (oWi 50 10 (oInc 2 (1 : Int32) (j47))))))))))
noncomputable def wX3_init_47 (k : Int32 → qM → Option (Unit × qM)) : qT (Unit × qM) := fun lo st m => match lo, st with
  | [some (.ref 47), _, some (.int a2)], [] => k a2 m
  | _, _ => none
noncomputable def wX3_init_59 (k : Int32 → qM → Option (Unit × qM)) : qT (Unit × qM) := fun lo st m => match lo, st with
  | [some (.ref 47), _, some (.int a2)], [] => k a2 m
  | _, _ => none
set_option maxRecDepth 20000 in
theorem sX3_init_47 {C : qCx} {w : qWp} (h : qOk C w RX3 cX3_init 3 1 48 58) (hm : qMt C none) (hx : qNx C) (hin : C.2.2.2.2.2.2.2.2.1.name = "<init>") {j59 : qT (Unit × qM)} {j47 : qT (Unit × qM)} (k59 : qSnd C w 3 48 (qQf C w 48 58 jV) qf0 58 113 j59) (k47 : qSnd C w 3 48 (qQf C w 48 58 jV) qf0 58 91 j47) : qSnd C w 3 48 (qQf C w 48 58 jV) qf0 58 91 (tX3_init_47 j59 j47) :=
  cLi (pc := 91) h dX3_init_91 rfl (cB (pc := 92) h dX3_init_92 rfl (jCGe (pc := 94) h dX3_init_94 rfl (cC (pc := 111) h dX3_init_111 rfl (cSi (pc := 112) h dX3_init_112 rfl (k59))) (cLa (pc := 97) h dX3_init_97 rfl (gGr (pc := 98) h dX3_init_98 ff_X3_18_47 (Nat.le_of_ble_eq_true rfl) (Nat.le_of_ble_eq_true rfl) rfl (nIs (cLi (pc := 101) h dX3_init_101 rfl (cK (pc := 102) h dX3_init_102 fc_X3_46 (rWi (pc := 104) h dX3_init_104 rfl (Nat.le_of_ble_eq_true rfl) (Nat.le_of_ble_eq_true rfl) (cInc (pc := 105) h dX3_init_105 rfl (jGo (pc := 108) h dX3_init_108 rfl (k47)))))))))))
set_option maxRecDepth 20000 in
theorem lX3_init_47 (k59 : Int32 → qM → Option (Unit × qM)) (n : Nat) (a2 : Int32) (m : qM) : tX3_init_47 (wX3_init_59 k59) (wX3_init_47 ((fX3_init_47 k59 n))) [some (.ref 47), none, some (.int a2)] [] m = fX3_init_47 k59 (n + 1) a2 m := rfl
theorem bX3_init_47 {C : qCx} {w : qWp} (h : qOk C w RX3 cX3_init 3 1 48 58) (hm : qMt C none) (hx : qNx C) (hin : C.2.2.2.2.2.2.2.2.1.name = "<init>") {k59 : Int32 → qM → Option (Unit × qM)} (h59 : qSnd C w 3 48 (qQf C w 48 58 jV) qf0 58 113 (wX3_init_59 k59)) : ∀ n : Nat, qSnd C w 3 48 (qQf C w 48 58 jV) qf0 58 91 (wX3_init_47 (fX3_init_47 k59 n))
  | 0 => qSnd_of0 (fun lo st m x hr0 => by
    unfold wX3_init_47 at hr0
    split at hr0
    · cases hr0
    · cases hr0)
  | n + 1 => by
    have ih := bX3_init_47 h hm hx hin h59 n
    exact qSnd_of (fun lo st m x hr0 => by
    unfold wX3_init_47 at hr0
    split at hr0
    · exact ⟨_, (qsub_e (qsub_n (qsub_e qsub_nil))), (lX3_init_47 _ n _ _).trans hr0⟩
    · cases hr0) (sX3_init_47 h hm hx hin h59 ih)
noncomputable def fX3_init_59 : Nat → Int32 → qM → Option (Unit × qM)
  | 0, _, _ => none
  | n + 1, a2, m =>
    bif leb ((15 : Int32)) a2 then some ((), m) else qbN (gR m 47 4) (fun q24 => bif Nat.beq q24 51 then bif inb a2 15 then let m25 := (sI m 51 (ix a2) ((1048575 : Int32))); qbN (gR m25 47 6) (fun q26 => bif Nat.beq q26 53 then bif inb a2 15 then let m27 := (sI m25 53 (ix a2) ((1048575 : Int32))); (fX3_init_59 n) ((a2 + (1 : Int32))) m27 else none else none) none else none else none) none
noncomputable def tX3_init_59 (j59 : qT (Unit × qM)) : qT (Unit × qM) :=
  oLi 2 (oC (.int (15 : Int32)) (oCGe (eV) (oLa 0 (oGr 47 4 (oIs 51 (oLi 2 (oC (.int (1048575 : Int32)) (oWi 51 15 (oLa 0 (oGr 47 6 (oIs 53 (oLi 2 (oC (.int (1048575 : Int32)) (oWi 53 15 (oInc 2 (1 : Int32) (j59))))))))))))))))
set_option maxRecDepth 20000 in
theorem sX3_init_59 {C : qCx} {w : qWp} (h : qOk C w RX3 cX3_init 3 1 48 58) (hm : qMt C none) (hx : qNx C) (hin : C.2.2.2.2.2.2.2.2.1.name = "<init>") {j59 : qT (Unit × qM)} (k59 : qSnd C w 3 48 (qQf C w 48 58 jV) qf0 58 113 j59) : qSnd C w 3 48 (qQf C w 48 58 jV) qf0 58 113 (tX3_init_59 j59) :=
  cLi (pc := 113) h dX3_init_113 rfl (cB (pc := 114) h dX3_init_114 rfl (jCGe (pc := 116) h dX3_init_116 rfl (zV (pc := 141) h hm (by decide) dX3_init_141) (cLa (pc := 119) h dX3_init_119 rfl (gGr (pc := 120) h dX3_init_120 ff_X3_21_47 (Nat.le_of_ble_eq_true rfl) (Nat.le_of_ble_eq_true rfl) rfl (nIs (cLi (pc := 123) h dX3_init_123 rfl (cK (pc := 124) h dX3_init_124 fc_X3_46 (rWi (pc := 126) h dX3_init_126 rfl (Nat.le_of_ble_eq_true rfl) (Nat.le_of_ble_eq_true rfl) (cLa (pc := 127) h dX3_init_127 rfl (gGr (pc := 128) h dX3_init_128 ff_X3_27_47 (Nat.le_of_ble_eq_true rfl) (Nat.le_of_ble_eq_true rfl) rfl (nIs (cLi (pc := 131) h dX3_init_131 rfl (cK (pc := 132) h dX3_init_132 fc_X3_46 (rWi (pc := 134) h dX3_init_134 rfl (Nat.le_of_ble_eq_true rfl) (Nat.le_of_ble_eq_true rfl) (cInc (pc := 135) h dX3_init_135 rfl (jGo (pc := 138) h dX3_init_138 rfl (k59)))))))))))))))))
set_option maxRecDepth 20000 in
theorem lX3_init_59 (n : Nat) (a2 : Int32) (m : qM) : tX3_init_59 (wX3_init_59 ((fX3_init_59 n))) [some (.ref 47), none, some (.int a2)] [] m = fX3_init_59 (n + 1) a2 m := rfl
theorem bX3_init_59 {C : qCx} {w : qWp} (h : qOk C w RX3 cX3_init 3 1 48 58) (hm : qMt C none) (hx : qNx C) (hin : C.2.2.2.2.2.2.2.2.1.name = "<init>") : ∀ n : Nat, qSnd C w 3 48 (qQf C w 48 58 jV) qf0 58 113 (wX3_init_59 (fX3_init_59 n))
  | 0 => qSnd_of0 (fun lo st m x hr0 => by
    unfold wX3_init_59 at hr0
    split at hr0
    · cases hr0
    · cases hr0)
  | n + 1 => by
    have ih := bX3_init_59 h hm hx hin n
    exact qSnd_of (fun lo st m x hr0 => by
    unfold wX3_init_59 at hr0
    split at hr0
    · exact ⟨_, (qsub_e (qsub_n (qsub_e qsub_nil))), (lX3_init_59 n _ _).trans hr0⟩
    · cases hr0) (sX3_init_59 h hm hx hin ih)
noncomputable def fX3_init_0 (m : qM) : Option (Unit × qM) :=
  bif Nat.beq (Int32.toNatClampNeg ((10 : Int32))) 10 then (bif Nat.beq 10 0 then none else (let m1 := (qz m 48); let m2 := (sR m1 47 1 (some 48)); bif Nat.beq (Int32.toNatClampNeg ((10 : Int32))) 10 then (bif Nat.beq 10 0 then none else (let m3 := (qz m2 49); let m4 := (sR m3 47 2 (some 49)); bif Nat.beq (Int32.toNatClampNeg ((10 : Int32))) 10 then (bif Nat.beq 10 0 then none else (let m5 := (qz m4 50); let m6 := (sR m5 47 3 (some 50)); bif Nat.beq (Int32.toNatClampNeg ((15 : Int32))) 15 then (bif Nat.beq 15 0 then none else (let m7 := (qz m6 51); let m8 := (sR m7 47 4 (some 51)); bif Nat.beq (Int32.toNatClampNeg ((15 : Int32))) 15 then (bif Nat.beq 15 0 then none else (let m9 := (qz m8 52); let m10 := (sR m9 47 5 (some 52)); bif Nat.beq (Int32.toNatClampNeg ((15 : Int32))) 15 then (bif Nat.beq 15 0 then none else (let m11 := (qz m10 53); let m12 := (sR m11 47 6 (some 53)); bif Nat.beq (Int32.toNatClampNeg ((15 : Int32))) 15 then (bif Nat.beq 15 0 then none else (let m13 := (qz m12 54); let m14 := (sR m13 47 7 (some 54)); bif Nat.beq (Int32.toNatClampNeg ((15 : Int32))) 15 then (bif Nat.beq 15 0 then none else (let m15 := (qz m14 55); let m16 := (sR m15 47 8 (some 55)); bif Nat.beq (Int32.toNatClampNeg ((100 : Int32))) 100 then (bif Nat.beq 100 0 then none else (let m17 := (qz m16 56); let m18 := (sR m17 47 9 (some 56)); bif Nat.beq (Int32.toNatClampNeg ((100 : Int32))) 100 then (bif Nat.beq 100 0 then none else (let m19 := (qz m18 57); let m20 := (sR m19 47 10 (some 57)); let m21 := (sR m20 47 0 (some 4)); fX3_init_47 (fX3_init_59 FU) FU ((0 : Int32)) m21)) else none)) else none)) else none)) else none)) else none)) else none)) else none)) else none)) else none)) else none
noncomputable def tX3_init_0 (j47 : qT (Unit × qM)) : qT (Unit × qM) :=
  oLa 0 (oObj (oLa 0 (oC (.int (10 : Int32)) (oNewa 48 10 (oPr 47 1 (oLa 0 (oC (.int (10 : Int32)) (oNewa 49 10 (oPr 47 2 (oLa 0 (oC (.int (10 : Int32)) (oNewa 50 10 (oPr 47 3 (oLa 0 (oC (.int (15 : Int32)) (oNewa 51 15 (oPr 47 4 (oLa 0 (oC (.int (15 : Int32)) (oNewa 52 15 (oPr 47 5 (oLa 0 (oC (.int (15 : Int32)) (oNewa 53 15 (oPr 47 6 (oLa 0 (oC (.int (15 : Int32)) (oNewa 54 15 (oPr 47 7 (oLa 0 (oC (.int (15 : Int32)) (oNewa 55 15 (oPr 47 8 (oLa 0 (oC (.int (100 : Int32)) (oNewa 56 100 (oPr 47 9 (oLa 0 (oC (.int (100 : Int32)) (oNewa 57 100 (oPr 47 10 (oLa 0 (oLa 1 (oPr 47 0 (oC (.int (0 : Int32)) (oSi 2 (j47)))))))))))))))))))))))))))))))))))))))))))))))
set_option maxRecDepth 20000 in
theorem sX3_init_0 {C : qCx} {w : qWp} (h : qOk C w RX3 cX3_init 3 1 48 58) (hm : qMt C none) (hx : qNx C) (hin : C.2.2.2.2.2.2.2.2.1.name = "<init>") {j47 : qT (Unit × qM)} (k47 : qSnd C w 3 48 (qQf C w 48 58 jV) qf0 58 91 j47) : qSnd C w 3 48 (qQf C w 48 58 jV) qf0 48 0 (tX3_init_0 j47) :=
  cLa (pc := 0) h dX3_init_0 rfl (nObj (pc := 1) h dX3_init_1 fo_X3_3 fo_inst fo_code (by decide) (cLa (pc := 4) h dX3_init_4 rfl (cB (pc := 5) h dX3_init_5 rfl (nNewi (pc := 7) h dX3_init_7 rfl ac_int (by decide) (by decide) (by decide) (by decide) (gPr (pc := 9) h dX3_init_9 ff_X3_9_47 (Or.inr ⟨rfl, hin, rfl⟩) (Nat.le_of_ble_eq_true rfl) (Nat.le_of_ble_eq_true rfl) rfl (cLa (pc := 12) h dX3_init_12 rfl (cB (pc := 13) h dX3_init_13 rfl (nNewi (pc := 15) h dX3_init_15 rfl ac_int (by decide) (by decide) (by decide) (by decide) (gPr (pc := 17) h dX3_init_17 ff_X3_15_47 (Or.inr ⟨rfl, hin, rfl⟩) (Nat.le_of_ble_eq_true rfl) (Nat.le_of_ble_eq_true rfl) rfl (cLa (pc := 20) h dX3_init_20 rfl (cB (pc := 21) h dX3_init_21 rfl (nNewi (pc := 23) h dX3_init_23 rfl ac_int (by decide) (by decide) (by decide) (by decide) (gPr (pc := 25) h dX3_init_25 ff_X3_18_47 (Or.inr ⟨rfl, hin, rfl⟩) (Nat.le_of_ble_eq_true rfl) (Nat.le_of_ble_eq_true rfl) rfl (cLa (pc := 28) h dX3_init_28 rfl (cB (pc := 29) h dX3_init_29 rfl (nNewi (pc := 31) h dX3_init_31 rfl ac_int (by decide) (by decide) (by decide) (by decide) (gPr (pc := 33) h dX3_init_33 ff_X3_21_47 (Or.inr ⟨rfl, hin, rfl⟩) (Nat.le_of_ble_eq_true rfl) (Nat.le_of_ble_eq_true rfl) rfl (cLa (pc := 36) h dX3_init_36 rfl (cB (pc := 37) h dX3_init_37 rfl (nNewi (pc := 39) h dX3_init_39 rfl ac_int (by decide) (by decide) (by decide) (by decide) (gPr (pc := 41) h dX3_init_41 ff_X3_24_47 (Or.inr ⟨rfl, hin, rfl⟩) (Nat.le_of_ble_eq_true rfl) (Nat.le_of_ble_eq_true rfl) rfl (cLa (pc := 44) h dX3_init_44 rfl (cB (pc := 45) h dX3_init_45 rfl (nNewi (pc := 47) h dX3_init_47 rfl ac_int (by decide) (by decide) (by decide) (by decide) (gPr (pc := 49) h dX3_init_49 ff_X3_27_47 (Or.inr ⟨rfl, hin, rfl⟩) (Nat.le_of_ble_eq_true rfl) (Nat.le_of_ble_eq_true rfl) rfl (cLa (pc := 52) h dX3_init_52 rfl (cB (pc := 53) h dX3_init_53 rfl (nNewi (pc := 55) h dX3_init_55 rfl ac_int (by decide) (by decide) (by decide) (by decide) (gPr (pc := 57) h dX3_init_57 ff_X3_30_47 (Or.inr ⟨rfl, hin, rfl⟩) (Nat.le_of_ble_eq_true rfl) (Nat.le_of_ble_eq_true rfl) rfl (cLa (pc := 60) h dX3_init_60 rfl (cB (pc := 61) h dX3_init_61 rfl (nNewi (pc := 63) h dX3_init_63 rfl ac_int (by decide) (by decide) (by decide) (by decide) (gPr (pc := 65) h dX3_init_65 ff_X3_33_47 (Or.inr ⟨rfl, hin, rfl⟩) (Nat.le_of_ble_eq_true rfl) (Nat.le_of_ble_eq_true rfl) rfl (cLa (pc := 68) h dX3_init_68 rfl (cB (pc := 69) h dX3_init_69 rfl (nNewi (pc := 71) h dX3_init_71 rfl ac_int (by decide) (by decide) (by decide) (by decide) (gPr (pc := 73) h dX3_init_73 ff_X3_36_47 (Or.inr ⟨rfl, hin, rfl⟩) (Nat.le_of_ble_eq_true rfl) (Nat.le_of_ble_eq_true rfl) rfl (cLa (pc := 76) h dX3_init_76 rfl (cB (pc := 77) h dX3_init_77 rfl (nNewi (pc := 79) h dX3_init_79 rfl ac_int (by decide) (by decide) (by decide) (by decide) (gPr (pc := 81) h dX3_init_81 ff_X3_39_47 (Or.inr ⟨rfl, hin, rfl⟩) (Nat.le_of_ble_eq_true rfl) (Nat.le_of_ble_eq_true rfl) rfl (cLa (pc := 84) h dX3_init_84 rfl (cLa (pc := 85) h dX3_init_85 rfl (gPr (pc := 86) h dX3_init_86 ff_X3_42_47 (Or.inr ⟨rfl, hin, rfl⟩) (Nat.le_of_ble_eq_true rfl) (Nat.le_of_ble_eq_true rfl) rfl (cC (pc := 89) h dX3_init_89 rfl (cSi (pc := 90) h dX3_init_90 rfl (k47)))))))))))))))))))))))))))))))))))))))))))))) (fun _ _ => trivial))
set_option maxRecDepth 20000 in
theorem lX3_init_0 (m : qM) : tX3_init_0 (wX3_init_47 (fX3_init_47 (fX3_init_59 FU) FU)) [some (.ref 47), some (.ref 4), none] [] m = fX3_init_0 m := rfl
theorem fX3_init_x : ∃ f : qM → Option (Unit × qM), f = fun m => fX3_init_0 m := ⟨_, rfl⟩
noncomputable def fX3_init : qM → Option (Unit × qM) := Classical.choose fX3_init_x
theorem fX3_init_d : fX3_init = fun m => fX3_init_0 m := Classical.choose_spec fX3_init_x
noncomputable def GX3_init : qG Unit := fun av m => match av with
  | [.ref 47, .ref 4] => fX3_init m
  | _ => none
theorem spX3_init : qSpV yX3_init (.code yX3_init cX3_init 3 none) 1 qf0 48 58 2 GX3_init := by
  intro av m m' hG
  unfold GX3_init at hG
  split at hG
  · rw [fX3_init_d] at hG
    exact ⟨qmeet (J := jV) (r := ((), m')) (av := [.ref 47, .ref 4]) (by decide +kernel) (Nat.le_of_ble_eq_true rfl) (fun C w h hm hx hn => sX3_init_0 h hm hx (by rw [hn]; rfl) (bX3_init_47 h hm hx (by rw [hn]; rfl) (bX3_init_59 h hm hx (by rw [hn]; rfl) FU) FU)) ((lX3_init_0 _).trans hG) (Nat.le_of_ble_eq_true rfl), ⟨47, _, rfl, by decide⟩⟩
  · cases hG
theorem mf_X4_9 : Jvm.Cond.fieldLink RX4 9 (qTb 4 2).1 (qTb 4 2).2.1 (qTb 4 2).2.2.1 ∈ qTw := qm1 (List.mem_of_getElem? (i := 186) (by decide +kernel)) (by decide +kernel)
theorem ff_X4_9_58 : qFd RX4 9 58 4 2 3 := ⟨mf_X4_9, rfl, by decide, rfl⟩
theorem mf_X4_15 : Jvm.Cond.fieldLink RX4 15 (qTb 4 3).1 (qTb 4 3).2.1 (qTb 4 3).2.2.1 ∈ qTw := qm1 (List.mem_of_getElem? (i := 187) (by decide +kernel)) (by decide +kernel)
theorem ff_X4_15_58 : qFd RX4 15 58 4 3 3 := ⟨mf_X4_15, rfl, by decide, rfl⟩
theorem mf_X4_18 : Jvm.Cond.fieldLink RX4 18 (qTb 4 4).1 (qTb 4 4).2.1 (qTb 4 4).2.2.1 ∈ qTw := qm1 (List.mem_of_getElem? (i := 188) (by decide +kernel)) (by decide +kernel)
theorem ff_X4_18_58 : qFd RX4 18 58 4 4 3 := ⟨mf_X4_18, rfl, by decide, rfl⟩
theorem mf_X4_22 : Jvm.Cond.fieldLink RX4 22 (qTb 4 5).1 (qTb 4 5).2.1 (qTb 4 5).2.2.1 ∈ qTw := qm1 (List.mem_of_getElem? (i := 189) (by decide +kernel)) (by decide +kernel)
theorem ff_X4_22_58 : qFd RX4 22 58 4 5 3 := ⟨mf_X4_22, rfl, by decide, rfl⟩
theorem mf_X4_25 : Jvm.Cond.fieldLink RX4 25 (qTb 4 6).1 (qTb 4 6).2.1 (qTb 4 6).2.2.1 ∈ qTw := qm1 (List.mem_of_getElem? (i := 190) (by decide +kernel)) (by decide +kernel)
theorem ff_X4_25_58 : qFd RX4 25 58 4 6 3 := ⟨mf_X4_25, rfl, by decide, rfl⟩
theorem mf_X4_28 : Jvm.Cond.fieldLink RX4 28 (qTb 4 7).1 (qTb 4 7).2.1 (qTb 4 7).2.2.1 ∈ qTw := qm1 (List.mem_of_getElem? (i := 191) (by decide +kernel)) (by decide +kernel)
theorem ff_X4_28_58 : qFd RX4 28 58 4 7 3 := ⟨mf_X4_28, rfl, by decide, rfl⟩
theorem mf_X4_31 : Jvm.Cond.fieldLink RX4 31 (qTb 4 8).1 (qTb 4 8).2.1 (qTb 4 8).2.2.1 ∈ qTw := qm1 (List.mem_of_getElem? (i := 192) (by decide +kernel)) (by decide +kernel)
theorem ff_X4_31_58 : qFd RX4 31 58 4 8 3 := ⟨mf_X4_31, rfl, by decide, rfl⟩
theorem mf_X4_34 : Jvm.Cond.fieldLink RX4 34 (qTb 4 9).1 (qTb 4 9).2.1 (qTb 4 9).2.2.1 ∈ qTw := qm1 (List.mem_of_getElem? (i := 193) (by decide +kernel)) (by decide +kernel)
theorem ff_X4_34_58 : qFd RX4 34 58 4 9 3 := ⟨mf_X4_34, rfl, by decide, rfl⟩
theorem mf_X4_37 : Jvm.Cond.fieldLink RX4 37 (qTb 4 10).1 (qTb 4 10).2.1 (qTb 4 10).2.2.1 ∈ qTw := qm1 (List.mem_of_getElem? (i := 194) (by decide +kernel)) (by decide +kernel)
theorem ff_X4_37_58 : qFd RX4 37 58 4 10 3 := ⟨mf_X4_37, rfl, by decide, rfl⟩
theorem mf_X4_40 : Jvm.Cond.fieldLink RX4 40 (qTb 4 11).1 (qTb 4 11).2.1 (qTb 4 11).2.2.1 ∈ qTw := qm1 (List.mem_of_getElem? (i := 195) (by decide +kernel)) (by decide +kernel)
theorem ff_X4_40_58 : qFd RX4 40 58 4 11 0 := ⟨mf_X4_40, rfl, by decide, rfl⟩
theorem mf_X4_44 : Jvm.Cond.fieldLink RX4 44 (qTb 4 12).1 (qTb 4 12).2.1 (qTb 4 12).2.2.1 ∈ qTw := qm1 (List.mem_of_getElem? (i := 196) (by decide +kernel)) (by decide +kernel)
theorem ff_X4_44_58 : qFd RX4 44 58 4 12 0 := ⟨mf_X4_44, rfl, by decide, rfl⟩
theorem mf_X4_47 : Jvm.Cond.fieldLink RX4 47 (qTb 4 13).1 (qTb 4 13).2.1 (qTb 4 13).2.2.1 ∈ qTw := qm1 (List.mem_of_getElem? (i := 197) (by decide +kernel)) (by decide +kernel)
theorem ff_X4_47_58 : qFd RX4 47 58 4 13 0 := ⟨mf_X4_47, rfl, by decide, rfl⟩
theorem mf_X4_50 : Jvm.Cond.fieldLink RX4 50 (qTb 4 14).1 (qTb 4 14).2.1 (qTb 4 14).2.2.1 ∈ qTw := qm1 (List.mem_of_getElem? (i := 198) (by decide +kernel)) (by decide +kernel)
theorem ff_X4_50_58 : qFd RX4 50 58 4 14 0 := ⟨mf_X4_50, rfl, by decide, rfl⟩
theorem mf_X4_53 : Jvm.Cond.fieldLink RX4 53 (qTb 4 15).1 (qTb 4 15).2.1 (qTb 4 15).2.2.1 ∈ qTw := qm1 (List.mem_of_getElem? (i := 199) (by decide +kernel)) (by decide +kernel)
theorem ff_X4_53_58 : qFd RX4 53 58 4 15 0 := ⟨mf_X4_53, rfl, by decide, rfl⟩
theorem mf_X4_56 : Jvm.Cond.fieldLink RX4 56 (qTb 4 16).1 (qTb 4 16).2.1 (qTb 4 16).2.2.1 ∈ qTw := qm1 (List.mem_of_getElem? (i := 200) (by decide +kernel)) (by decide +kernel)
theorem ff_X4_56_58 : qFd RX4 56 58 4 16 0 := ⟨mf_X4_56, rfl, by decide, rfl⟩
theorem mf_X4_59 : Jvm.Cond.fieldLink RX4 59 (qTb 4 0).1 (qTb 4 0).2.1 (qTb 4 0).2.2.1 ∈ qTw := qm1 (List.mem_of_getElem? (i := 184) (by decide +kernel)) (by decide +kernel)
theorem ff_X4_59_58 : qFd RX4 59 58 4 0 3 := ⟨mf_X4_59, rfl, by decide, rfl⟩
theorem mf_X4_63 : Jvm.Cond.fieldLink RX4 63 (qTb 4 1).1 (qTb 4 1).2.1 (qTb 4 1).2.2.1 ∈ qTw := qm1 (List.mem_of_getElem? (i := 185) (by decide +kernel)) (by decide +kernel)
theorem ff_X4_63_58 : qFd RX4 63 58 4 1 3 := ⟨mf_X4_63, rfl, by decide, rfl⟩
theorem fo_X4_3 : Jvm.Cond.methodLink RX4 3 objectInit ∈ qTw := qm1 (List.mem_of_getElem? (i := 183) (by decide +kernel)) (by decide +kernel)
theorem dX4_init_0 : decode cX4_init 0 = .ok (.aload_n 0, 1) := by decide +kernel
theorem dX4_init_1 : decode cX4_init 1 = .ok (.invokespecial 3, 3) := by decide +kernel
theorem dX4_init_4 : decode cX4_init 4 = .ok (.aload_n 0, 1) := by decide +kernel
theorem dX4_init_5 : decode cX4_init 5 = .ok (.bipush 40, 2) := by decide +kernel
theorem dX4_init_7 : decode cX4_init 7 = .ok (.newarray .int, 2) := by decide +kernel
theorem dX4_init_9 : decode cX4_init 9 = .ok (.putfield 9, 3) := by decide +kernel
theorem dX4_init_12 : decode cX4_init 12 = .ok (.aload_n 0, 1) := by decide +kernel
theorem dX4_init_13 : decode cX4_init 13 = .ok (.bipush 40, 2) := by decide +kernel
theorem dX4_init_15 : decode cX4_init 15 = .ok (.newarray .int, 2) := by decide +kernel
theorem dX4_init_17 : decode cX4_init 17 = .ok (.putfield 15, 3) := by decide +kernel
theorem dX4_init_20 : decode cX4_init 20 = .ok (.aload_n 0, 1) := by decide +kernel
theorem dX4_init_21 : decode cX4_init 21 = .ok (.bipush 40, 2) := by decide +kernel
theorem dX4_init_23 : decode cX4_init 23 = .ok (.newarray .boolean, 2) := by decide +kernel
theorem dX4_init_25 : decode cX4_init 25 = .ok (.putfield 18, 3) := by decide +kernel
theorem dX4_init_28 : decode cX4_init 28 = .ok (.aload_n 0, 1) := by decide +kernel
theorem dX4_init_29 : decode cX4_init 29 = .ok (.bipush 40, 2) := by decide +kernel
theorem dX4_init_31 : decode cX4_init 31 = .ok (.newarray .int, 2) := by decide +kernel
theorem dX4_init_33 : decode cX4_init 33 = .ok (.putfield 22, 3) := by decide +kernel
theorem dX4_init_36 : decode cX4_init 36 = .ok (.aload_n 0, 1) := by decide +kernel
theorem dX4_init_37 : decode cX4_init 37 = .ok (.sipush 150, 3) := by decide +kernel
theorem dX4_init_40 : decode cX4_init 40 = .ok (.newarray .int, 2) := by decide +kernel
theorem dX4_init_42 : decode cX4_init 42 = .ok (.putfield 25, 3) := by decide +kernel
theorem dX4_init_45 : decode cX4_init 45 = .ok (.aload_n 0, 1) := by decide +kernel
theorem dX4_init_46 : decode cX4_init 46 = .ok (.sipush 200, 3) := by decide +kernel
theorem dX4_init_49 : decode cX4_init 49 = .ok (.newarray .int, 2) := by decide +kernel
theorem dX4_init_51 : decode cX4_init 51 = .ok (.putfield 28, 3) := by decide +kernel
theorem dX4_init_54 : decode cX4_init 54 = .ok (.aload_n 0, 1) := by decide +kernel
theorem dX4_init_55 : decode cX4_init 55 = .ok (.bipush 15, 2) := by decide +kernel
theorem dX4_init_57 : decode cX4_init 57 = .ok (.newarray .int, 2) := by decide +kernel
theorem dX4_init_59 : decode cX4_init 59 = .ok (.putfield 31, 3) := by decide +kernel
theorem dX4_init_62 : decode cX4_init 62 = .ok (.aload_n 0, 1) := by decide +kernel
theorem dX4_init_63 : decode cX4_init 63 = .ok (.bipush 10, 2) := by decide +kernel
theorem dX4_init_65 : decode cX4_init 65 = .ok (.newarray .int, 2) := by decide +kernel
theorem dX4_init_67 : decode cX4_init 67 = .ok (.putfield 34, 3) := by decide +kernel
theorem dX4_init_70 : decode cX4_init 70 = .ok (.aload_n 0, 1) := by decide +kernel
theorem dX4_init_71 : decode cX4_init 71 = .ok (.iconst 4, 1) := by decide +kernel
theorem dX4_init_72 : decode cX4_init 72 = .ok (.newarray .int, 2) := by decide +kernel
theorem dX4_init_74 : decode cX4_init 74 = .ok (.putfield 37, 3) := by decide +kernel
theorem dX4_init_77 : decode cX4_init 77 = .ok (.aload_n 0, 1) := by decide +kernel
theorem dX4_init_78 : decode cX4_init 78 = .ok (.iconst 0, 1) := by decide +kernel
theorem dX4_init_79 : decode cX4_init 79 = .ok (.putfield 40, 3) := by decide +kernel
theorem dX4_init_82 : decode cX4_init 82 = .ok (.aload_n 0, 1) := by decide +kernel
theorem dX4_init_83 : decode cX4_init 83 = .ok (.iconst 0, 1) := by decide +kernel
theorem dX4_init_84 : decode cX4_init 84 = .ok (.putfield 44, 3) := by decide +kernel
theorem dX4_init_87 : decode cX4_init 87 = .ok (.aload_n 0, 1) := by decide +kernel
theorem dX4_init_88 : decode cX4_init 88 = .ok (.iconst 0, 1) := by decide +kernel
theorem dX4_init_89 : decode cX4_init 89 = .ok (.putfield 47, 3) := by decide +kernel
theorem dX4_init_92 : decode cX4_init 92 = .ok (.aload_n 0, 1) := by decide +kernel
theorem dX4_init_93 : decode cX4_init 93 = .ok (.iconst 0, 1) := by decide +kernel
theorem dX4_init_94 : decode cX4_init 94 = .ok (.putfield 50, 3) := by decide +kernel
theorem dX4_init_97 : decode cX4_init 97 = .ok (.aload_n 0, 1) := by decide +kernel
theorem dX4_init_98 : decode cX4_init 98 = .ok (.iconst 0, 1) := by decide +kernel
theorem dX4_init_99 : decode cX4_init 99 = .ok (.putfield 53, 3) := by decide +kernel
theorem dX4_init_102 : decode cX4_init 102 = .ok (.aload_n 0, 1) := by decide +kernel
theorem dX4_init_103 : decode cX4_init 103 = .ok (.iconst 0, 1) := by decide +kernel
theorem dX4_init_104 : decode cX4_init 104 = .ok (.putfield 56, 3) := by decide +kernel
theorem dX4_init_107 : decode cX4_init 107 = .ok (.aload_n 0, 1) := by decide +kernel
theorem dX4_init_108 : decode cX4_init 108 = .ok (.aload_n 1, 1) := by decide +kernel
theorem dX4_init_109 : decode cX4_init 109 = .ok (.putfield 59, 3) := by decide +kernel
theorem dX4_init_112 : decode cX4_init 112 = .ok (.aload_n 0, 1) := by decide +kernel
theorem dX4_init_113 : decode cX4_init 113 = .ok (.aload_n 2, 1) := by decide +kernel
theorem dX4_init_114 : decode cX4_init 114 = .ok (.putfield 63, 3) := by decide +kernel
theorem dX4_init_117 : decode cX4_init 117 = .ok (.iconst 0, 1) := by decide +kernel
theorem dX4_init_118 : decode cX4_init 118 = .ok (.istore_n 3, 1) := by decide +kernel
theorem dX4_init_119 : decode cX4_init 119 = .ok (.iload_n 3, 1) := by decide +kernel
theorem dX4_init_120 : decode cX4_init 120 = .ok (.sipush 150, 3) := by decide +kernel
theorem dX4_init_123 : decode cX4_init 123 = .ok (.if_icmp .ge 16, 3) := by decide +kernel
theorem dX4_init_126 : decode cX4_init 126 = .ok (.aload_n 0, 1) := by decide +kernel
theorem dX4_init_127 : decode cX4_init 127 = .ok (.getfield 25, 3) := by decide +kernel
theorem dX4_init_130 : decode cX4_init 130 = .ok (.iload_n 3, 1) := by decide +kernel
theorem dX4_init_131 : decode cX4_init 131 = .ok (.iconst (-1), 1) := by decide +kernel
theorem dX4_init_132 : decode cX4_init 132 = .ok (.iastore, 1) := by decide +kernel
theorem dX4_init_133 : decode cX4_init 133 = .ok (.iinc 3 1, 3) := by decide +kernel
theorem dX4_init_136 : decode cX4_init 136 = .ok (.goto (-17), 3) := by decide +kernel
theorem dX4_init_139 : decode cX4_init 139 = .ok (.iconst 0, 1) := by decide +kernel
theorem dX4_init_140 : decode cX4_init 140 = .ok (.istore_n 3, 1) := by decide +kernel
theorem dX4_init_141 : decode cX4_init 141 = .ok (.iload_n 3, 1) := by decide +kernel
theorem dX4_init_142 : decode cX4_init 142 = .ok (.sipush 200, 3) := by decide +kernel
theorem dX4_init_145 : decode cX4_init 145 = .ok (.if_icmp .ge 16, 3) := by decide +kernel
theorem dX4_init_148 : decode cX4_init 148 = .ok (.aload_n 0, 1) := by decide +kernel
theorem dX4_init_149 : decode cX4_init 149 = .ok (.getfield 28, 3) := by decide +kernel
theorem dX4_init_152 : decode cX4_init 152 = .ok (.iload_n 3, 1) := by decide +kernel
theorem dX4_init_153 : decode cX4_init 153 = .ok (.iconst (-1), 1) := by decide +kernel
theorem dX4_init_154 : decode cX4_init 154 = .ok (.iastore, 1) := by decide +kernel
theorem dX4_init_155 : decode cX4_init 155 = .ok (.iinc 3 1, 3) := by decide +kernel
theorem dX4_init_158 : decode cX4_init 158 = .ok (.goto (-17), 3) := by decide +kernel
theorem dX4_init_161 : decode cX4_init 161 = .ok (.return_, 1) := by decide +kernel
noncomputable def fX4_init_64 (k76 : Int32 → qM → Option (Unit × qM)) : Nat → Int32 → qM → Option (Unit × qM)
  | 0, _, _ => none
  | n + 1, a3, m =>
    bif leb ((150 : Int32)) a3 then k76 ((0 : Int32)) m else qbN (gR m 58 6) (fun q27 => bif Nat.beq q27 63 then bif inb a3 150 then let m28 := (sI m 63 (ix a3) ((-1 : Int32))); (fX4_init_64 k76 n) ((a3 + (1 : Int32))) m28 else none else none) none
noncomputable def tX4_init_64 (j76 : qT (Unit × qM)) (j64 : qT (Unit × qM)) : qT (Unit × qM) :=
  oLi 3 (oC (.int (150 : Int32)) (oCGe (oC (.int (0 : Int32)) (oSi 3 (j76))) (oLa 0 (oGr 58 6 (oIs 63 (oLi 3 (oC (.int (-1 : Int32)) (oWi 63 150 (oInc 3 (1 : Int32) (j64))))))))))
noncomputable def wX4_init_64 (k : Int32 → qM → Option (Unit × qM)) : qT (Unit × qM) := fun lo st m => match lo, st with
  | [some (.ref 58), _, _, some (.int a3)], [] => k a3 m
  | _, _ => none
noncomputable def wX4_init_76 (k : Int32 → qM → Option (Unit × qM)) : qT (Unit × qM) := fun lo st m => match lo, st with
  | [some (.ref 58), _, _, some (.int a3)], [] => k a3 m
  | _, _ => none
set_option maxRecDepth 20000 in
theorem sX4_init_64 {C : qCx} {w : qWp} (h : qOk C w RX4 cX4_init 4 1 59 68) (hm : qMt C none) (hx : qNx C) (hin : C.2.2.2.2.2.2.2.2.1.name = "<init>") {j76 : qT (Unit × qM)} {j64 : qT (Unit × qM)} (k76 : qSnd C w 4 59 (qQf C w 59 68 jV) qf0 68 141 j76) (k64 : qSnd C w 4 59 (qQf C w 59 68 jV) qf0 68 119 j64) : qSnd C w 4 59 (qQf C w 59 68 jV) qf0 68 119 (tX4_init_64 j76 j64) :=
  cLi (pc := 119) h dX4_init_119 rfl (cS (pc := 120) h dX4_init_120 rfl (jCGe (pc := 123) h dX4_init_123 rfl (cC (pc := 139) h dX4_init_139 rfl (cSi (pc := 140) h dX4_init_140 rfl (k76))) (cLa (pc := 126) h dX4_init_126 rfl (gGr (pc := 127) h dX4_init_127 ff_X4_25_58 (Nat.le_of_ble_eq_true rfl) (Nat.le_of_ble_eq_true rfl) rfl (nIs (cLi (pc := 130) h dX4_init_130 rfl (cC (pc := 131) h dX4_init_131 rfl (rWi (pc := 132) h dX4_init_132 rfl (Nat.le_of_ble_eq_true rfl) (Nat.le_of_ble_eq_true rfl) (cInc (pc := 133) h dX4_init_133 rfl (jGo (pc := 136) h dX4_init_136 rfl (k64)))))))))))
set_option maxRecDepth 20000 in
theorem lX4_init_64 (k76 : Int32 → qM → Option (Unit × qM)) (n : Nat) (a3 : Int32) (m : qM) : tX4_init_64 (wX4_init_76 k76) (wX4_init_64 ((fX4_init_64 k76 n))) [some (.ref 58), none, none, some (.int a3)] [] m = fX4_init_64 k76 (n + 1) a3 m := rfl
theorem bX4_init_64 {C : qCx} {w : qWp} (h : qOk C w RX4 cX4_init 4 1 59 68) (hm : qMt C none) (hx : qNx C) (hin : C.2.2.2.2.2.2.2.2.1.name = "<init>") {k76 : Int32 → qM → Option (Unit × qM)} (h76 : qSnd C w 4 59 (qQf C w 59 68 jV) qf0 68 141 (wX4_init_76 k76)) : ∀ n : Nat, qSnd C w 4 59 (qQf C w 59 68 jV) qf0 68 119 (wX4_init_64 (fX4_init_64 k76 n))
  | 0 => qSnd_of0 (fun lo st m x hr0 => by
    unfold wX4_init_64 at hr0
    split at hr0
    · cases hr0
    · cases hr0)
  | n + 1 => by
    have ih := bX4_init_64 h hm hx hin h76 n
    exact qSnd_of (fun lo st m x hr0 => by
    unfold wX4_init_64 at hr0
    split at hr0
    · exact ⟨_, (qsub_e (qsub_n (qsub_n (qsub_e qsub_nil)))), (lX4_init_64 _ n _ _).trans hr0⟩
    · cases hr0) (sX4_init_64 h hm hx hin h76 ih)
noncomputable def fX4_init_76 : Nat → Int32 → qM → Option (Unit × qM)
  | 0, _, _ => none
  | n + 1, a3, m =>
    bif leb ((200 : Int32)) a3 then some ((), m) else qbN (gR m 58 7) (fun q29 => bif Nat.beq q29 64 then bif inb a3 200 then let m30 := (sI m 64 (ix a3) ((-1 : Int32))); (fX4_init_76 n) ((a3 + (1 : Int32))) m30 else none else none) none
noncomputable def tX4_init_76 (j76 : qT (Unit × qM)) : qT (Unit × qM) :=
  oLi 3 (oC (.int (200 : Int32)) (oCGe (eV) (oLa 0 (oGr 58 7 (oIs 64 (oLi 3 (oC (.int (-1 : Int32)) (oWi 64 200 (oInc 3 (1 : Int32) (j76))))))))))
set_option maxRecDepth 20000 in
theorem sX4_init_76 {C : qCx} {w : qWp} (h : qOk C w RX4 cX4_init 4 1 59 68) (hm : qMt C none) (hx : qNx C) (hin : C.2.2.2.2.2.2.2.2.1.name = "<init>") {j76 : qT (Unit × qM)} (k76 : qSnd C w 4 59 (qQf C w 59 68 jV) qf0 68 141 j76) : qSnd C w 4 59 (qQf C w 59 68 jV) qf0 68 141 (tX4_init_76 j76) :=
  cLi (pc := 141) h dX4_init_141 rfl (cS (pc := 142) h dX4_init_142 rfl (jCGe (pc := 145) h dX4_init_145 rfl (zV (pc := 161) h hm (by decide) dX4_init_161) (cLa (pc := 148) h dX4_init_148 rfl (gGr (pc := 149) h dX4_init_149 ff_X4_28_58 (Nat.le_of_ble_eq_true rfl) (Nat.le_of_ble_eq_true rfl) rfl (nIs (cLi (pc := 152) h dX4_init_152 rfl (cC (pc := 153) h dX4_init_153 rfl (rWi (pc := 154) h dX4_init_154 rfl (Nat.le_of_ble_eq_true rfl) (Nat.le_of_ble_eq_true rfl) (cInc (pc := 155) h dX4_init_155 rfl (jGo (pc := 158) h dX4_init_158 rfl (k76)))))))))))
set_option maxRecDepth 20000 in
theorem lX4_init_76 (n : Nat) (a3 : Int32) (m : qM) : tX4_init_76 (wX4_init_76 ((fX4_init_76 n))) [some (.ref 58), none, none, some (.int a3)] [] m = fX4_init_76 (n + 1) a3 m := rfl
theorem bX4_init_76 {C : qCx} {w : qWp} (h : qOk C w RX4 cX4_init 4 1 59 68) (hm : qMt C none) (hx : qNx C) (hin : C.2.2.2.2.2.2.2.2.1.name = "<init>") : ∀ n : Nat, qSnd C w 4 59 (qQf C w 59 68 jV) qf0 68 141 (wX4_init_76 (fX4_init_76 n))
  | 0 => qSnd_of0 (fun lo st m x hr0 => by
    unfold wX4_init_76 at hr0
    split at hr0
    · cases hr0
    · cases hr0)
  | n + 1 => by
    have ih := bX4_init_76 h hm hx hin n
    exact qSnd_of (fun lo st m x hr0 => by
    unfold wX4_init_76 at hr0
    split at hr0
    · exact ⟨_, (qsub_e (qsub_n (qsub_n (qsub_e qsub_nil)))), (lX4_init_76 n _ _).trans hr0⟩
    · cases hr0) (sX4_init_76 h hm hx hin ih)
noncomputable def fX4_init_0 (m : qM) : Option (Unit × qM) :=
  bif Nat.beq (Int32.toNatClampNeg ((40 : Int32))) 40 then (bif Nat.beq 40 0 then none else (let m1 := (qz m 59); let m2 := (sR m1 58 2 (some 59)); bif Nat.beq (Int32.toNatClampNeg ((40 : Int32))) 40 then (bif Nat.beq 40 0 then none else (let m3 := (qz m2 60); let m4 := (sR m3 58 3 (some 60)); bif Nat.beq (Int32.toNatClampNeg ((40 : Int32))) 40 then (bif Nat.beq 40 0 then none else (let m5 := (qz m4 61); let m6 := (sR m5 58 4 (some 61)); bif Nat.beq (Int32.toNatClampNeg ((40 : Int32))) 40 then (bif Nat.beq 40 0 then none else (let m7 := (qz m6 62); let m8 := (sR m7 58 5 (some 62)); bif Nat.beq (Int32.toNatClampNeg ((150 : Int32))) 150 then (bif Nat.beq 150 0 then none else (let m9 := (qz m8 63); let m10 := (sR m9 58 6 (some 63)); bif Nat.beq (Int32.toNatClampNeg ((200 : Int32))) 200 then (bif Nat.beq 200 0 then none else (let m11 := (qz m10 64); let m12 := (sR m11 58 7 (some 64)); bif Nat.beq (Int32.toNatClampNeg ((15 : Int32))) 15 then (bif Nat.beq 15 0 then none else (let m13 := (qz m12 65); let m14 := (sR m13 58 8 (some 65)); bif Nat.beq (Int32.toNatClampNeg ((10 : Int32))) 10 then (bif Nat.beq 10 0 then none else (let m15 := (qz m14 66); let m16 := (sR m15 58 9 (some 66)); bif Nat.beq (Int32.toNatClampNeg ((4 : Int32))) 4 then (bif Nat.beq 4 0 then none else (let m17 := (qz m16 67); let m18 := (sR m17 58 10 (some 67)); let m19 := (sI m18 58 11 ((0 : Int32))); let m20 := (sI m19 58 12 ((0 : Int32))); let m21 := (sI m20 58 13 ((0 : Int32))); let m22 := (sI m21 58 14 ((0 : Int32))); let m23 := (sI m22 58 15 ((0 : Int32))); let m24 := (sI m23 58 16 ((0 : Int32))); let m25 := (sR m24 58 0 (some 4)); let m26 := (sR m25 58 1 (some 47)); fX4_init_64 (fX4_init_76 FU) FU ((0 : Int32)) m26)) else none)) else none)) else none)) else none)) else none)) else none)) else none)) else none)) else none
noncomputable def tX4_init_0 (j64 : qT (Unit × qM)) : qT (Unit × qM) :=
  oLa 0 (oObj (oLa 0 (oC (.int (40 : Int32)) (oNewa 59 40 (oPr 58 2 (oLa 0 (oC (.int (40 : Int32)) (oNewa 60 40 (oPr 58 3 (oLa 0 (oC (.int (40 : Int32)) (oNewa 61 40 (oPr 58 4 (oLa 0 (oC (.int (40 : Int32)) (oNewa 62 40 (oPr 58 5 (oLa 0 (oC (.int (150 : Int32)) (oNewa 63 150 (oPr 58 6 (oLa 0 (oC (.int (200 : Int32)) (oNewa 64 200 (oPr 58 7 (oLa 0 (oC (.int (15 : Int32)) (oNewa 65 15 (oPr 58 8 (oLa 0 (oC (.int (10 : Int32)) (oNewa 66 10 (oPr 58 9 (oLa 0 (oC (.int (4 : Int32)) (oNewa 67 4 (oPr 58 10 (oLa 0 (oC (.int (0 : Int32)) (oPi 58 11 (oLa 0 (oC (.int (0 : Int32)) (oPi 58 12 (oLa 0 (oC (.int (0 : Int32)) (oPi 58 13 (oLa 0 (oC (.int (0 : Int32)) (oPi 58 14 (oLa 0 (oC (.int (0 : Int32)) (oPi 58 15 (oLa 0 (oC (.int (0 : Int32)) (oPi 58 16 (oLa 0 (oLa 1 (oPr 58 0 (oLa 0 (oLa 2 (oPr 58 1 (oC (.int (0 : Int32)) (oSi 3 (j64))))))))))))))))))))))))))))))))))))))))))))))))))))))))))))))))
set_option maxRecDepth 20000 in
theorem sX4_init_0 {C : qCx} {w : qWp} (h : qOk C w RX4 cX4_init 4 1 59 68) (hm : qMt C none) (hx : qNx C) (hin : C.2.2.2.2.2.2.2.2.1.name = "<init>") {j64 : qT (Unit × qM)} (k64 : qSnd C w 4 59 (qQf C w 59 68 jV) qf0 68 119 j64) : qSnd C w 4 59 (qQf C w 59 68 jV) qf0 59 0 (tX4_init_0 j64) :=
  cLa (pc := 0) h dX4_init_0 rfl (nObj (pc := 1) h dX4_init_1 fo_X4_3 fo_inst fo_code (by decide) (cLa (pc := 4) h dX4_init_4 rfl (cB (pc := 5) h dX4_init_5 rfl (nNewi (pc := 7) h dX4_init_7 rfl ac_int (by decide) (by decide) (by decide) (by decide) (gPr (pc := 9) h dX4_init_9 ff_X4_9_58 (Or.inr ⟨rfl, hin, rfl⟩) (Nat.le_of_ble_eq_true rfl) (Nat.le_of_ble_eq_true rfl) rfl (cLa (pc := 12) h dX4_init_12 rfl (cB (pc := 13) h dX4_init_13 rfl (nNewi (pc := 15) h dX4_init_15 rfl ac_int (by decide) (by decide) (by decide) (by decide) (gPr (pc := 17) h dX4_init_17 ff_X4_15_58 (Or.inr ⟨rfl, hin, rfl⟩) (Nat.le_of_ble_eq_true rfl) (Nat.le_of_ble_eq_true rfl) rfl (cLa (pc := 20) h dX4_init_20 rfl (cB (pc := 21) h dX4_init_21 rfl (nNewz (pc := 23) h dX4_init_23 rfl ac_boolean (by decide) (by decide) (by decide) (by decide) (gPr (pc := 25) h dX4_init_25 ff_X4_18_58 (Or.inr ⟨rfl, hin, rfl⟩) (Nat.le_of_ble_eq_true rfl) (Nat.le_of_ble_eq_true rfl) rfl (cLa (pc := 28) h dX4_init_28 rfl (cB (pc := 29) h dX4_init_29 rfl (nNewi (pc := 31) h dX4_init_31 rfl ac_int (by decide) (by decide) (by decide) (by decide) (gPr (pc := 33) h dX4_init_33 ff_X4_22_58 (Or.inr ⟨rfl, hin, rfl⟩) (Nat.le_of_ble_eq_true rfl) (Nat.le_of_ble_eq_true rfl) rfl (cLa (pc := 36) h dX4_init_36 rfl (cS (pc := 37) h dX4_init_37 rfl (nNewi (pc := 40) h dX4_init_40 rfl ac_int (by decide) (by decide) (by decide) (by decide) (gPr (pc := 42) h dX4_init_42 ff_X4_25_58 (Or.inr ⟨rfl, hin, rfl⟩) (Nat.le_of_ble_eq_true rfl) (Nat.le_of_ble_eq_true rfl) rfl (cLa (pc := 45) h dX4_init_45 rfl (cS (pc := 46) h dX4_init_46 rfl (nNewi (pc := 49) h dX4_init_49 rfl ac_int (by decide) (by decide) (by decide) (by decide) (gPr (pc := 51) h dX4_init_51 ff_X4_28_58 (Or.inr ⟨rfl, hin, rfl⟩) (Nat.le_of_ble_eq_true rfl) (Nat.le_of_ble_eq_true rfl) rfl (cLa (pc := 54) h dX4_init_54 rfl (cB (pc := 55) h dX4_init_55 rfl (nNewi (pc := 57) h dX4_init_57 rfl ac_int (by decide) (by decide) (by decide) (by decide) (gPr (pc := 59) h dX4_init_59 ff_X4_31_58 (Or.inr ⟨rfl, hin, rfl⟩) (Nat.le_of_ble_eq_true rfl) (Nat.le_of_ble_eq_true rfl) rfl (cLa (pc := 62) h dX4_init_62 rfl (cB (pc := 63) h dX4_init_63 rfl (nNewi (pc := 65) h dX4_init_65 rfl ac_int (by decide) (by decide) (by decide) (by decide) (gPr (pc := 67) h dX4_init_67 ff_X4_34_58 (Or.inr ⟨rfl, hin, rfl⟩) (Nat.le_of_ble_eq_true rfl) (Nat.le_of_ble_eq_true rfl) rfl (cLa (pc := 70) h dX4_init_70 rfl (cC (pc := 71) h dX4_init_71 rfl (nNewi (pc := 72) h dX4_init_72 rfl ac_int (by decide) (by decide) (by decide) (by decide) (gPr (pc := 74) h dX4_init_74 ff_X4_37_58 (Or.inr ⟨rfl, hin, rfl⟩) (Nat.le_of_ble_eq_true rfl) (Nat.le_of_ble_eq_true rfl) rfl (cLa (pc := 77) h dX4_init_77 rfl (cC (pc := 78) h dX4_init_78 rfl (gPi (pc := 79) h dX4_init_79 ff_X4_40_58 (Or.inl rfl) (Nat.le_of_ble_eq_true rfl) (Nat.le_of_ble_eq_true rfl) (cLa (pc := 82) h dX4_init_82 rfl (cC (pc := 83) h dX4_init_83 rfl (gPi (pc := 84) h dX4_init_84 ff_X4_44_58 (Or.inl rfl) (Nat.le_of_ble_eq_true rfl) (Nat.le_of_ble_eq_true rfl) (cLa (pc := 87) h dX4_init_87 rfl (cC (pc := 88) h dX4_init_88 rfl (gPi (pc := 89) h dX4_init_89 ff_X4_47_58 (Or.inl rfl) (Nat.le_of_ble_eq_true rfl) (Nat.le_of_ble_eq_true rfl) (cLa (pc := 92) h dX4_init_92 rfl (cC (pc := 93) h dX4_init_93 rfl (gPi (pc := 94) h dX4_init_94 ff_X4_50_58 (Or.inl rfl) (Nat.le_of_ble_eq_true rfl) (Nat.le_of_ble_eq_true rfl) (cLa (pc := 97) h dX4_init_97 rfl (cC (pc := 98) h dX4_init_98 rfl (gPi (pc := 99) h dX4_init_99 ff_X4_53_58 (Or.inl rfl) (Nat.le_of_ble_eq_true rfl) (Nat.le_of_ble_eq_true rfl) (cLa (pc := 102) h dX4_init_102 rfl (cC (pc := 103) h dX4_init_103 rfl (gPi (pc := 104) h dX4_init_104 ff_X4_56_58 (Or.inl rfl) (Nat.le_of_ble_eq_true rfl) (Nat.le_of_ble_eq_true rfl) (cLa (pc := 107) h dX4_init_107 rfl (cLa (pc := 108) h dX4_init_108 rfl (gPr (pc := 109) h dX4_init_109 ff_X4_59_58 (Or.inr ⟨rfl, hin, rfl⟩) (Nat.le_of_ble_eq_true rfl) (Nat.le_of_ble_eq_true rfl) rfl (cLa (pc := 112) h dX4_init_112 rfl (cLa (pc := 113) h dX4_init_113 rfl (gPr (pc := 114) h dX4_init_114 ff_X4_63_58 (Or.inr ⟨rfl, hin, rfl⟩) (Nat.le_of_ble_eq_true rfl) (Nat.le_of_ble_eq_true rfl) rfl (cC (pc := 117) h dX4_init_117 rfl (cSi (pc := 118) h dX4_init_118 rfl (k64))))))))))))))))))))))))))))))))))))))))))))))))))))))))))))))) (fun _ _ => trivial))
set_option maxRecDepth 20000 in
theorem lX4_init_0 (m : qM) : tX4_init_0 (wX4_init_64 (fX4_init_64 (fX4_init_76 FU) FU)) [some (.ref 58), some (.ref 4), some (.ref 47), none] [] m = fX4_init_0 m := rfl
theorem fX4_init_x : ∃ f : qM → Option (Unit × qM), f = fun m => fX4_init_0 m := ⟨_, rfl⟩
noncomputable def fX4_init : qM → Option (Unit × qM) := Classical.choose fX4_init_x
theorem fX4_init_d : fX4_init = fun m => fX4_init_0 m := Classical.choose_spec fX4_init_x
noncomputable def GX4_init : qG Unit := fun av m => match av with
  | [.ref 58, .ref 4, .ref 47] => fX4_init m
  | _ => none
theorem spX4_init : qSpV yX4_init (.code yX4_init cX4_init 4 none) 1 qf0 59 68 2 GX4_init := by
  intro av m m' hG
  unfold GX4_init at hG
  split at hG
  · rw [fX4_init_d] at hG
    exact ⟨qmeet (J := jV) (r := ((), m')) (av := [.ref 58, .ref 4, .ref 47]) (by decide +kernel) (Nat.le_of_ble_eq_true rfl) (fun C w h hm hx hn => sX4_init_0 h hm hx (by rw [hn]; rfl) (bX4_init_64 h hm hx (by rw [hn]; rfl) (bX4_init_76 h hm hx (by rw [hn]; rfl) FU) FU)) ((lX4_init_0 _).trans hG) (Nat.le_of_ble_eq_true rfl), ⟨58, _, rfl, by decide⟩⟩
  · cases hG
theorem mf_X0_9 : Jvm.Cond.fieldLink RX0 9 (qTb 0 2).1 (qTb 0 2).2.1 (qTb 0 2).2.2.1 ∈ qTw := qm2 (List.mem_of_getElem? (i := 5) (by decide +kernel)) (by decide +kernel)
theorem ff_X0_9_68 : qFd RX0 9 68 0 2 3 := ⟨mf_X0_9, rfl, by decide, rfl⟩
theorem mf_X0_15 : Jvm.Cond.fieldLink RX0 15 (qTb 0 3).1 (qTb 0 3).2.1 (qTb 0 3).2.2.1 ∈ qTw := qm2 (List.mem_of_getElem? (i := 6) (by decide +kernel)) (by decide +kernel)
theorem ff_X0_15_68 : qFd RX0 15 68 0 3 3 := ⟨mf_X0_15, rfl, by decide, rfl⟩
theorem mf_X0_18 : Jvm.Cond.fieldLink RX0 18 (qTb 0 4).1 (qTb 0 4).2.1 (qTb 0 4).2.2.1 ∈ qTw := qm2 (List.mem_of_getElem? (i := 7) (by decide +kernel)) (by decide +kernel)
theorem ff_X0_18_68 : qFd RX0 18 68 0 4 3 := ⟨mf_X0_18, rfl, by decide, rfl⟩
theorem mf_X0_21 : Jvm.Cond.fieldLink RX0 21 (qTb 0 5).1 (qTb 0 5).2.1 (qTb 0 5).2.2.1 ∈ qTw := qm2 (List.mem_of_getElem? (i := 8) (by decide +kernel)) (by decide +kernel)
theorem ff_X0_21_68 : qFd RX0 21 68 0 5 3 := ⟨mf_X0_21, rfl, by decide, rfl⟩
theorem mf_X0_24 : Jvm.Cond.fieldLink RX0 24 (qTb 0 6).1 (qTb 0 6).2.1 (qTb 0 6).2.2.1 ∈ qTw := qm2 (List.mem_of_getElem? (i := 9) (by decide +kernel)) (by decide +kernel)
theorem ff_X0_24_68 : qFd RX0 24 68 0 6 3 := ⟨mf_X0_24, rfl, by decide, rfl⟩
theorem mf_X0_28 : Jvm.Cond.fieldLink RX0 28 (qTb 0 7).1 (qTb 0 7).2.1 (qTb 0 7).2.2.1 ∈ qTw := qm2 (List.mem_of_getElem? (i := 10) (by decide +kernel)) (by decide +kernel)
theorem ff_X0_28_68 : qFd RX0 28 68 0 7 0 := ⟨mf_X0_28, rfl, by decide, rfl⟩
theorem mf_X0_32 : Jvm.Cond.fieldLink RX0 32 (qTb 0 8).1 (qTb 0 8).2.1 (qTb 0 8).2.2.1 ∈ qTw := qm2 (List.mem_of_getElem? (i := 11) (by decide +kernel)) (by decide +kernel)
theorem ff_X0_32_68 : qFd RX0 32 68 0 8 0 := ⟨mf_X0_32, rfl, by decide, rfl⟩
theorem mf_X0_35 : Jvm.Cond.fieldLink RX0 35 (qTb 0 9).1 (qTb 0 9).2.1 (qTb 0 9).2.2.1 ∈ qTw := qm2 (List.mem_of_getElem? (i := 12) (by decide +kernel)) (by decide +kernel)
theorem ff_X0_35_68 : qFd RX0 35 68 0 9 2 := ⟨mf_X0_35, rfl, by decide, rfl⟩
theorem mf_X0_39 : Jvm.Cond.fieldLink RX0 39 (qTb 0 10).1 (qTb 0 10).2.1 (qTb 0 10).2.2.1 ∈ qTw := qm2 (List.mem_of_getElem? (i := 13) (by decide +kernel)) (by decide +kernel)
theorem ff_X0_39_68 : qFd RX0 39 68 0 10 0 := ⟨mf_X0_39, rfl, by decide, rfl⟩
theorem mf_X0_42 : Jvm.Cond.fieldLink RX0 42 (qTb 0 11).1 (qTb 0 11).2.1 (qTb 0 11).2.2.1 ∈ qTw := qm2 (List.mem_of_getElem? (i := 14) (by decide +kernel)) (by decide +kernel)
theorem ff_X0_42_68 : qFd RX0 42 68 0 11 0 := ⟨mf_X0_42, rfl, by decide, rfl⟩
theorem mf_X0_45 : Jvm.Cond.fieldLink RX0 45 (qTb 0 12).1 (qTb 0 12).2.1 (qTb 0 12).2.2.1 ∈ qTw := qm2 (List.mem_of_getElem? (i := 15) (by decide +kernel)) (by decide +kernel)
theorem ff_X0_45_68 : qFd RX0 45 68 0 12 0 := ⟨mf_X0_45, rfl, by decide, rfl⟩
theorem mf_X0_48 : Jvm.Cond.fieldLink RX0 48 (qTb 0 13).1 (qTb 0 13).2.1 (qTb 0 13).2.2.1 ∈ qTw := qm2 (List.mem_of_getElem? (i := 16) (by decide +kernel)) (by decide +kernel)
theorem ff_X0_48_68 : qFd RX0 48 68 0 13 2 := ⟨mf_X0_48, rfl, by decide, rfl⟩
theorem mf_X0_51 : Jvm.Cond.fieldLink RX0 51 (qTb 0 0).1 (qTb 0 0).2.1 (qTb 0 0).2.2.1 ∈ qTw := qm2 (List.mem_of_getElem? (i := 3) (by decide +kernel)) (by decide +kernel)
theorem ff_X0_51_68 : qFd RX0 51 68 0 0 3 := ⟨mf_X0_51, rfl, by decide, rfl⟩
theorem mf_X0_55 : Jvm.Cond.fieldLink RX0 55 (qTb 0 1).1 (qTb 0 1).2.1 (qTb 0 1).2.2.1 ∈ qTw := qm2 (List.mem_of_getElem? (i := 4) (by decide +kernel)) (by decide +kernel)
theorem ff_X0_55_68 : qFd RX0 55 68 0 1 3 := ⟨mf_X0_55, rfl, by decide, rfl⟩
theorem fo_X0_3 : Jvm.Cond.methodLink RX0 3 objectInit ∈ qTw := qm2 (List.mem_of_getElem? (i := 2) (by decide +kernel)) (by decide +kernel)
theorem dX0_init_0 : decode cX0_init 0 = .ok (.aload_n 0, 1) := by decide +kernel
theorem dX0_init_1 : decode cX0_init 1 = .ok (.invokespecial 3, 3) := by decide +kernel
theorem dX0_init_4 : decode cX0_init 4 = .ok (.aload_n 0, 1) := by decide +kernel
theorem dX0_init_5 : decode cX0_init 5 = .ok (.iconst 4, 1) := by decide +kernel
theorem dX0_init_6 : decode cX0_init 6 = .ok (.newarray .int, 2) := by decide +kernel
theorem dX0_init_8 : decode cX0_init 8 = .ok (.putfield 9, 3) := by decide +kernel
theorem dX0_init_11 : decode cX0_init 11 = .ok (.aload_n 0, 1) := by decide +kernel
theorem dX0_init_12 : decode cX0_init 12 = .ok (.iconst 4, 1) := by decide +kernel
theorem dX0_init_13 : decode cX0_init 13 = .ok (.newarray .int, 2) := by decide +kernel
theorem dX0_init_15 : decode cX0_init 15 = .ok (.putfield 15, 3) := by decide +kernel
theorem dX0_init_18 : decode cX0_init 18 = .ok (.aload_n 0, 1) := by decide +kernel
theorem dX0_init_19 : decode cX0_init 19 = .ok (.iconst 4, 1) := by decide +kernel
theorem dX0_init_20 : decode cX0_init 20 = .ok (.newarray .int, 2) := by decide +kernel
theorem dX0_init_22 : decode cX0_init 22 = .ok (.putfield 18, 3) := by decide +kernel
theorem dX0_init_25 : decode cX0_init 25 = .ok (.aload_n 0, 1) := by decide +kernel
theorem dX0_init_26 : decode cX0_init 26 = .ok (.iconst 4, 1) := by decide +kernel
theorem dX0_init_27 : decode cX0_init 27 = .ok (.newarray .int, 2) := by decide +kernel
theorem dX0_init_29 : decode cX0_init 29 = .ok (.putfield 21, 3) := by decide +kernel
theorem dX0_init_32 : decode cX0_init 32 = .ok (.aload_n 0, 1) := by decide +kernel
theorem dX0_init_33 : decode cX0_init 33 = .ok (.iconst 5, 1) := by decide +kernel
theorem dX0_init_34 : decode cX0_init 34 = .ok (.newarray .long, 2) := by decide +kernel
theorem dX0_init_36 : decode cX0_init 36 = .ok (.putfield 24, 3) := by decide +kernel
theorem dX0_init_39 : decode cX0_init 39 = .ok (.aload_n 0, 1) := by decide +kernel
theorem dX0_init_40 : decode cX0_init 40 = .ok (.iconst 0, 1) := by decide +kernel
theorem dX0_init_41 : decode cX0_init 41 = .ok (.putfield 28, 3) := by decide +kernel
theorem dX0_init_44 : decode cX0_init 44 = .ok (.aload_n 0, 1) := by decide +kernel
theorem dX0_init_45 : decode cX0_init 45 = .ok (.iconst 0, 1) := by decide +kernel
theorem dX0_init_46 : decode cX0_init 46 = .ok (.putfield 32, 3) := by decide +kernel
theorem dX0_init_49 : decode cX0_init 49 = .ok (.aload_n 0, 1) := by decide +kernel
theorem dX0_init_50 : decode cX0_init 50 = .ok (.lconst 0, 1) := by decide +kernel
theorem dX0_init_51 : decode cX0_init 51 = .ok (.putfield 35, 3) := by decide +kernel
theorem dX0_init_54 : decode cX0_init 54 = .ok (.aload_n 0, 1) := by decide +kernel
theorem dX0_init_55 : decode cX0_init 55 = .ok (.iconst (-1), 1) := by decide +kernel
theorem dX0_init_56 : decode cX0_init 56 = .ok (.putfield 39, 3) := by decide +kernel
theorem dX0_init_59 : decode cX0_init 59 = .ok (.aload_n 0, 1) := by decide +kernel
theorem dX0_init_60 : decode cX0_init 60 = .ok (.iconst (-1), 1) := by decide +kernel
theorem dX0_init_61 : decode cX0_init 61 = .ok (.putfield 42, 3) := by decide +kernel
theorem dX0_init_64 : decode cX0_init 64 = .ok (.aload_n 0, 1) := by decide +kernel
theorem dX0_init_65 : decode cX0_init 65 = .ok (.iconst (-1), 1) := by decide +kernel
theorem dX0_init_66 : decode cX0_init 66 = .ok (.putfield 45, 3) := by decide +kernel
theorem dX0_init_69 : decode cX0_init 69 = .ok (.aload_n 0, 1) := by decide +kernel
theorem dX0_init_70 : decode cX0_init 70 = .ok (.lconst 0, 1) := by decide +kernel
theorem dX0_init_71 : decode cX0_init 71 = .ok (.putfield 48, 3) := by decide +kernel
theorem dX0_init_74 : decode cX0_init 74 = .ok (.aload_n 0, 1) := by decide +kernel
theorem dX0_init_75 : decode cX0_init 75 = .ok (.aload_n 1, 1) := by decide +kernel
theorem dX0_init_76 : decode cX0_init 76 = .ok (.putfield 51, 3) := by decide +kernel
theorem dX0_init_79 : decode cX0_init 79 = .ok (.aload_n 0, 1) := by decide +kernel
theorem dX0_init_80 : decode cX0_init 80 = .ok (.aload_n 2, 1) := by decide +kernel
theorem dX0_init_81 : decode cX0_init 81 = .ok (.putfield 55, 3) := by decide +kernel
theorem dX0_init_84 : decode cX0_init 84 = .ok (.return_, 1) := by decide +kernel
noncomputable def fX0_init_0 (m : qM) : Option (Unit × qM) :=
  bif Nat.beq (Int32.toNatClampNeg ((4 : Int32))) 4 then (bif Nat.beq 4 0 then none else (let m1 := (qz m 69); let m2 := (sR m1 68 2 (some 69)); bif Nat.beq (Int32.toNatClampNeg ((4 : Int32))) 4 then (bif Nat.beq 4 0 then none else (let m3 := (qz m2 70); let m4 := (sR m3 68 3 (some 70)); bif Nat.beq (Int32.toNatClampNeg ((4 : Int32))) 4 then (bif Nat.beq 4 0 then none else (let m5 := (qz m4 71); let m6 := (sR m5 68 4 (some 71)); bif Nat.beq (Int32.toNatClampNeg ((4 : Int32))) 4 then (bif Nat.beq 4 0 then none else (let m7 := (qz m6 72); let m8 := (sR m7 68 5 (some 72)); bif Nat.beq (Int32.toNatClampNeg ((5 : Int32))) 5 then (bif Nat.beq 5 0 then none else (let m9 := (qz m8 73); let m10 := (sR m9 68 6 (some 73)); let m11 := (sI m10 68 7 ((0 : Int32))); let m12 := (sI m11 68 8 ((0 : Int32))); let m13 := (sL m12 68 9 ((0 : Int64))); let m14 := (sI m13 68 10 ((-1 : Int32))); let m15 := (sI m14 68 11 ((-1 : Int32))); let m16 := (sI m15 68 12 ((-1 : Int32))); let m17 := (sL m16 68 13 ((0 : Int64))); let m18 := (sR m17 68 0 (some 47)); let m19 := (sR m18 68 1 (some 58)); some ((), m19))) else none)) else none)) else none)) else none)) else none
noncomputable def tX0_init_0 : qT (Unit × qM) :=
  oLa 0 (oObj (oLa 0 (oC (.int (4 : Int32)) (oNewa 69 4 (oPr 68 2 (oLa 0 (oC (.int (4 : Int32)) (oNewa 70 4 (oPr 68 3 (oLa 0 (oC (.int (4 : Int32)) (oNewa 71 4 (oPr 68 4 (oLa 0 (oC (.int (4 : Int32)) (oNewa 72 4 (oPr 68 5 (oLa 0 (oC (.int (5 : Int32)) (oNewa 73 5 (oPr 68 6 (oLa 0 (oC (.int (0 : Int32)) (oPi 68 7 (oLa 0 (oC (.int (0 : Int32)) (oPi 68 8 (oLa 0 (oC (.long (0 : Int64)) (oPl 68 9 (oLa 0 (oC (.int (-1 : Int32)) (oPi 68 10 (oLa 0 (oC (.int (-1 : Int32)) (oPi 68 11 (oLa 0 (oC (.int (-1 : Int32)) (oPi 68 12 (oLa 0 (oC (.long (0 : Int64)) (oPl 68 13 (oLa 0 (oLa 1 (oPr 68 0 (oLa 0 (oLa 2 (oPr 68 1 (eV)))))))))))))))))))))))))))))))))))))))))))))))))
set_option maxRecDepth 20000 in
theorem sX0_init_0 {C : qCx} {w : qWp} (h : qOk C w RX0 cX0_init 3 1 69 74) (hm : qMt C none) (hx : qNx C) (hin : C.2.2.2.2.2.2.2.2.1.name = "<init>") : qSnd C w 3 69 (qQf C w 69 74 jV) qf0 69 0 (tX0_init_0) :=
  cLa (pc := 0) h dX0_init_0 rfl (nObj (pc := 1) h dX0_init_1 fo_X0_3 fo_inst fo_code (by decide) (cLa (pc := 4) h dX0_init_4 rfl (cC (pc := 5) h dX0_init_5 rfl (nNewi (pc := 6) h dX0_init_6 rfl ac_int (by decide) (by decide) (by decide) (by decide) (gPr (pc := 8) h dX0_init_8 ff_X0_9_68 (Or.inr ⟨rfl, hin, rfl⟩) (Nat.le_of_ble_eq_true rfl) (Nat.le_of_ble_eq_true rfl) rfl (cLa (pc := 11) h dX0_init_11 rfl (cC (pc := 12) h dX0_init_12 rfl (nNewi (pc := 13) h dX0_init_13 rfl ac_int (by decide) (by decide) (by decide) (by decide) (gPr (pc := 15) h dX0_init_15 ff_X0_15_68 (Or.inr ⟨rfl, hin, rfl⟩) (Nat.le_of_ble_eq_true rfl) (Nat.le_of_ble_eq_true rfl) rfl (cLa (pc := 18) h dX0_init_18 rfl (cC (pc := 19) h dX0_init_19 rfl (nNewi (pc := 20) h dX0_init_20 rfl ac_int (by decide) (by decide) (by decide) (by decide) (gPr (pc := 22) h dX0_init_22 ff_X0_18_68 (Or.inr ⟨rfl, hin, rfl⟩) (Nat.le_of_ble_eq_true rfl) (Nat.le_of_ble_eq_true rfl) rfl (cLa (pc := 25) h dX0_init_25 rfl (cC (pc := 26) h dX0_init_26 rfl (nNewi (pc := 27) h dX0_init_27 rfl ac_int (by decide) (by decide) (by decide) (by decide) (gPr (pc := 29) h dX0_init_29 ff_X0_21_68 (Or.inr ⟨rfl, hin, rfl⟩) (Nat.le_of_ble_eq_true rfl) (Nat.le_of_ble_eq_true rfl) rfl (cLa (pc := 32) h dX0_init_32 rfl (cC (pc := 33) h dX0_init_33 rfl (nNewl (pc := 34) h dX0_init_34 rfl ac_long (by decide) (by decide) (by decide) (by decide) (gPr (pc := 36) h dX0_init_36 ff_X0_24_68 (Or.inr ⟨rfl, hin, rfl⟩) (Nat.le_of_ble_eq_true rfl) (Nat.le_of_ble_eq_true rfl) rfl (cLa (pc := 39) h dX0_init_39 rfl (cC (pc := 40) h dX0_init_40 rfl (gPi (pc := 41) h dX0_init_41 ff_X0_28_68 (Or.inl rfl) (Nat.le_of_ble_eq_true rfl) (Nat.le_of_ble_eq_true rfl) (cLa (pc := 44) h dX0_init_44 rfl (cC (pc := 45) h dX0_init_45 rfl (gPi (pc := 46) h dX0_init_46 ff_X0_32_68 (Or.inl rfl) (Nat.le_of_ble_eq_true rfl) (Nat.le_of_ble_eq_true rfl) (cLa (pc := 49) h dX0_init_49 rfl (cJ (pc := 50) h dX0_init_50 rfl (gPl (pc := 51) h dX0_init_51 ff_X0_35_68 (Or.inl rfl) (Nat.le_of_ble_eq_true rfl) (Nat.le_of_ble_eq_true rfl) (cLa (pc := 54) h dX0_init_54 rfl (cC (pc := 55) h dX0_init_55 rfl (gPi (pc := 56) h dX0_init_56 ff_X0_39_68 (Or.inl rfl) (Nat.le_of_ble_eq_true rfl) (Nat.le_of_ble_eq_true rfl) (cLa (pc := 59) h dX0_init_59 rfl (cC (pc := 60) h dX0_init_60 rfl (gPi (pc := 61) h dX0_init_61 ff_X0_42_68 (Or.inl rfl) (Nat.le_of_ble_eq_true rfl) (Nat.le_of_ble_eq_true rfl) (cLa (pc := 64) h dX0_init_64 rfl (cC (pc := 65) h dX0_init_65 rfl (gPi (pc := 66) h dX0_init_66 ff_X0_45_68 (Or.inl rfl) (Nat.le_of_ble_eq_true rfl) (Nat.le_of_ble_eq_true rfl) (cLa (pc := 69) h dX0_init_69 rfl (cJ (pc := 70) h dX0_init_70 rfl (gPl (pc := 71) h dX0_init_71 ff_X0_48_68 (Or.inl rfl) (Nat.le_of_ble_eq_true rfl) (Nat.le_of_ble_eq_true rfl) (cLa (pc := 74) h dX0_init_74 rfl (cLa (pc := 75) h dX0_init_75 rfl (gPr (pc := 76) h dX0_init_76 ff_X0_51_68 (Or.inr ⟨rfl, hin, rfl⟩) (Nat.le_of_ble_eq_true rfl) (Nat.le_of_ble_eq_true rfl) rfl (cLa (pc := 79) h dX0_init_79 rfl (cLa (pc := 80) h dX0_init_80 rfl (gPr (pc := 81) h dX0_init_81 ff_X0_55_68 (Or.inr ⟨rfl, hin, rfl⟩) (Nat.le_of_ble_eq_true rfl) (Nat.le_of_ble_eq_true rfl) rfl (zV (pc := 84) h hm (by decide) dX0_init_84)))))))))))))))))))))))))))))))))))))))))))))))) (fun _ _ => trivial))
set_option maxRecDepth 20000 in
theorem lX0_init_0 (m : qM) : tX0_init_0 [some (.ref 68), some (.ref 47), some (.ref 58)] [] m = fX0_init_0 m := rfl
theorem fX0_init_x : ∃ f : qM → Option (Unit × qM), f = fun m => fX0_init_0 m := ⟨_, rfl⟩
noncomputable def fX0_init : qM → Option (Unit × qM) := Classical.choose fX0_init_x
theorem fX0_init_d : fX0_init = fun m => fX0_init_0 m := Classical.choose_spec fX0_init_x
noncomputable def GX0_init : qG Unit := fun av m => match av with
  | [.ref 68, .ref 47, .ref 58] => fX0_init m
  | _ => none
theorem spX0_init : qSpV yX0_init (.code yX0_init cX0_init 3 none) 1 qf0 69 74 2 GX0_init := by
  intro av m m' hG
  unfold GX0_init at hG
  split at hG
  · rw [fX0_init_d] at hG
    exact ⟨qmeet (J := jV) (r := ((), m')) (av := [.ref 68, .ref 47, .ref 58]) (by decide +kernel) (Nat.le_of_ble_eq_true rfl) (fun C w h hm hx hn => sX0_init_0 h hm hx (by rw [hn]; rfl)) ((lX0_init_0 _).trans hG) (Nat.le_of_ble_eq_true rfl), ⟨68, _, rfl, by decide⟩⟩
  · cases hG
theorem mf_X9_9 : Jvm.Cond.fieldLink RX9 9 (qTb 9 0).1 (qTb 9 0).2.1 (qTb 9 0).2.2.1 ∈ qTw := qm2 (List.mem_of_getElem? (i := 53) (by decide +kernel)) (by decide +kernel)
theorem ff_X9_9_74 : qFd RX9 9 74 9 0 3 := ⟨mf_X9_9, rfl, by decide, rfl⟩
theorem mf_X9_15 : Jvm.Cond.fieldLink RX9 15 (qTb 9 1).1 (qTb 9 1).2.1 (qTb 9 1).2.2.1 ∈ qTw := qm2 (List.mem_of_getElem? (i := 54) (by decide +kernel)) (by decide +kernel)
theorem ff_X9_15_74 : qFd RX9 15 74 9 1 3 := ⟨mf_X9_15, rfl, by decide, rfl⟩
theorem mf_X9_18 : Jvm.Cond.fieldLink RX9 18 (qTb 9 2).1 (qTb 9 2).2.1 (qTb 9 2).2.2.1 ∈ qTw := qm2 (List.mem_of_getElem? (i := 55) (by decide +kernel)) (by decide +kernel)
theorem ff_X9_18_74 : qFd RX9 18 74 9 2 3 := ⟨mf_X9_18, rfl, by decide, rfl⟩
theorem mf_X9_21 : Jvm.Cond.fieldLink RX9 21 (qTb 9 3).1 (qTb 9 3).2.1 (qTb 9 3).2.2.1 ∈ qTw := qm2 (List.mem_of_getElem? (i := 56) (by decide +kernel)) (by decide +kernel)
theorem ff_X9_21_74 : qFd RX9 21 74 9 3 3 := ⟨mf_X9_21, rfl, by decide, rfl⟩
theorem mf_X9_24 : Jvm.Cond.fieldLink RX9 24 (qTb 9 4).1 (qTb 9 4).2.1 (qTb 9 4).2.2.1 ∈ qTw := qm2 (List.mem_of_getElem? (i := 57) (by decide +kernel)) (by decide +kernel)
theorem ff_X9_24_74 : qFd RX9 24 74 9 4 3 := ⟨mf_X9_24, rfl, by decide, rfl⟩
theorem mf_X9_27 : Jvm.Cond.fieldLink RX9 27 (qTb 9 5).1 (qTb 9 5).2.1 (qTb 9 5).2.2.1 ∈ qTw := qm2 (List.mem_of_getElem? (i := 58) (by decide +kernel)) (by decide +kernel)
theorem ff_X9_27_74 : qFd RX9 27 74 9 5 0 := ⟨mf_X9_27, rfl, by decide, rfl⟩
theorem fo_X9_3 : Jvm.Cond.methodLink RX9 3 objectInit ∈ qTw := qm2 (List.mem_of_getElem? (i := 52) (by decide +kernel)) (by decide +kernel)
theorem dX9_init_0 : decode cX9_init 0 = .ok (.aload_n 0, 1) := by decide +kernel
theorem dX9_init_1 : decode cX9_init 1 = .ok (.invokespecial 3, 3) := by decide +kernel
theorem dX9_init_4 : decode cX9_init 4 = .ok (.aload_n 0, 1) := by decide +kernel
theorem dX9_init_5 : decode cX9_init 5 = .ok (.bipush 80, 2) := by decide +kernel
theorem dX9_init_7 : decode cX9_init 7 = .ok (.newarray .int, 2) := by decide +kernel
theorem dX9_init_9 : decode cX9_init 9 = .ok (.putfield 9, 3) := by decide +kernel
theorem dX9_init_12 : decode cX9_init 12 = .ok (.aload_n 0, 1) := by decide +kernel
theorem dX9_init_13 : decode cX9_init 13 = .ok (.bipush 80, 2) := by decide +kernel
theorem dX9_init_15 : decode cX9_init 15 = .ok (.newarray .int, 2) := by decide +kernel
theorem dX9_init_17 : decode cX9_init 17 = .ok (.putfield 15, 3) := by decide +kernel
theorem dX9_init_20 : decode cX9_init 20 = .ok (.aload_n 0, 1) := by decide +kernel
theorem dX9_init_21 : decode cX9_init 21 = .ok (.bipush 80, 2) := by decide +kernel
theorem dX9_init_23 : decode cX9_init 23 = .ok (.newarray .int, 2) := by decide +kernel
theorem dX9_init_25 : decode cX9_init 25 = .ok (.putfield 18, 3) := by decide +kernel
theorem dX9_init_28 : decode cX9_init 28 = .ok (.aload_n 0, 1) := by decide +kernel
theorem dX9_init_29 : decode cX9_init 29 = .ok (.bipush 80, 2) := by decide +kernel
theorem dX9_init_31 : decode cX9_init 31 = .ok (.newarray .int, 2) := by decide +kernel
theorem dX9_init_33 : decode cX9_init 33 = .ok (.putfield 21, 3) := by decide +kernel
theorem dX9_init_36 : decode cX9_init 36 = .ok (.aload_n 0, 1) := by decide +kernel
theorem dX9_init_37 : decode cX9_init 37 = .ok (.bipush 80, 2) := by decide +kernel
theorem dX9_init_39 : decode cX9_init 39 = .ok (.newarray .int, 2) := by decide +kernel
theorem dX9_init_41 : decode cX9_init 41 = .ok (.putfield 24, 3) := by decide +kernel
theorem dX9_init_44 : decode cX9_init 44 = .ok (.aload_n 0, 1) := by decide +kernel
theorem dX9_init_45 : decode cX9_init 45 = .ok (.iconst 0, 1) := by decide +kernel
theorem dX9_init_46 : decode cX9_init 46 = .ok (.putfield 27, 3) := by decide +kernel
theorem dX9_init_49 : decode cX9_init 49 = .ok (.return_, 1) := by decide +kernel
noncomputable def fX9_init_0 (m : qM) : Option (Unit × qM) :=
  bif Nat.beq (Int32.toNatClampNeg ((80 : Int32))) 80 then (bif Nat.beq 80 0 then none else (let m1 := (qz m 75); let m2 := (sR m1 74 0 (some 75)); bif Nat.beq (Int32.toNatClampNeg ((80 : Int32))) 80 then (bif Nat.beq 80 0 then none else (let m3 := (qz m2 76); let m4 := (sR m3 74 1 (some 76)); bif Nat.beq (Int32.toNatClampNeg ((80 : Int32))) 80 then (bif Nat.beq 80 0 then none else (let m5 := (qz m4 77); let m6 := (sR m5 74 2 (some 77)); bif Nat.beq (Int32.toNatClampNeg ((80 : Int32))) 80 then (bif Nat.beq 80 0 then none else (let m7 := (qz m6 78); let m8 := (sR m7 74 3 (some 78)); bif Nat.beq (Int32.toNatClampNeg ((80 : Int32))) 80 then (bif Nat.beq 80 0 then none else (let m9 := (qz m8 79); let m10 := (sR m9 74 4 (some 79)); let m11 := (sI m10 74 5 ((0 : Int32))); some ((), m11))) else none)) else none)) else none)) else none)) else none
noncomputable def tX9_init_0 : qT (Unit × qM) :=
  oLa 0 (oObj (oLa 0 (oC (.int (80 : Int32)) (oNewa 75 80 (oPr 74 0 (oLa 0 (oC (.int (80 : Int32)) (oNewa 76 80 (oPr 74 1 (oLa 0 (oC (.int (80 : Int32)) (oNewa 77 80 (oPr 74 2 (oLa 0 (oC (.int (80 : Int32)) (oNewa 78 80 (oPr 74 3 (oLa 0 (oC (.int (80 : Int32)) (oNewa 79 80 (oPr 74 4 (oLa 0 (oC (.int (0 : Int32)) (oPi 74 5 (eV)))))))))))))))))))))))))
set_option maxRecDepth 20000 in
theorem sX9_init_0 {C : qCx} {w : qWp} (h : qOk C w RX9 cX9_init 1 1 75 80) (hm : qMt C none) (hx : qNx C) (hin : C.2.2.2.2.2.2.2.2.1.name = "<init>") : qSnd C w 1 75 (qQf C w 75 80 jV) qf0 75 0 (tX9_init_0) :=
  cLa (pc := 0) h dX9_init_0 rfl (nObj (pc := 1) h dX9_init_1 fo_X9_3 fo_inst fo_code (by decide) (cLa (pc := 4) h dX9_init_4 rfl (cB (pc := 5) h dX9_init_5 rfl (nNewi (pc := 7) h dX9_init_7 rfl ac_int (by decide) (by decide) (by decide) (by decide) (gPr (pc := 9) h dX9_init_9 ff_X9_9_74 (Or.inr ⟨rfl, hin, rfl⟩) (Nat.le_of_ble_eq_true rfl) (Nat.le_of_ble_eq_true rfl) rfl (cLa (pc := 12) h dX9_init_12 rfl (cB (pc := 13) h dX9_init_13 rfl (nNewi (pc := 15) h dX9_init_15 rfl ac_int (by decide) (by decide) (by decide) (by decide) (gPr (pc := 17) h dX9_init_17 ff_X9_15_74 (Or.inr ⟨rfl, hin, rfl⟩) (Nat.le_of_ble_eq_true rfl) (Nat.le_of_ble_eq_true rfl) rfl (cLa (pc := 20) h dX9_init_20 rfl (cB (pc := 21) h dX9_init_21 rfl (nNewi (pc := 23) h dX9_init_23 rfl ac_int (by decide) (by decide) (by decide) (by decide) (gPr (pc := 25) h dX9_init_25 ff_X9_18_74 (Or.inr ⟨rfl, hin, rfl⟩) (Nat.le_of_ble_eq_true rfl) (Nat.le_of_ble_eq_true rfl) rfl (cLa (pc := 28) h dX9_init_28 rfl (cB (pc := 29) h dX9_init_29 rfl (nNewi (pc := 31) h dX9_init_31 rfl ac_int (by decide) (by decide) (by decide) (by decide) (gPr (pc := 33) h dX9_init_33 ff_X9_21_74 (Or.inr ⟨rfl, hin, rfl⟩) (Nat.le_of_ble_eq_true rfl) (Nat.le_of_ble_eq_true rfl) rfl (cLa (pc := 36) h dX9_init_36 rfl (cB (pc := 37) h dX9_init_37 rfl (nNewi (pc := 39) h dX9_init_39 rfl ac_int (by decide) (by decide) (by decide) (by decide) (gPr (pc := 41) h dX9_init_41 ff_X9_24_74 (Or.inr ⟨rfl, hin, rfl⟩) (Nat.le_of_ble_eq_true rfl) (Nat.le_of_ble_eq_true rfl) rfl (cLa (pc := 44) h dX9_init_44 rfl (cC (pc := 45) h dX9_init_45 rfl (gPi (pc := 46) h dX9_init_46 ff_X9_27_74 (Or.inl rfl) (Nat.le_of_ble_eq_true rfl) (Nat.le_of_ble_eq_true rfl) (zV (pc := 49) h hm (by decide) dX9_init_49)))))))))))))))))))))))) (fun _ _ => trivial))
set_option maxRecDepth 20000 in
theorem lX9_init_0 (m : qM) : tX9_init_0 [some (.ref 74)] [] m = fX9_init_0 m := rfl
theorem fX9_init_x : ∃ f : qM → Option (Unit × qM), f = fun m => fX9_init_0 m := ⟨_, rfl⟩
noncomputable def fX9_init : qM → Option (Unit × qM) := Classical.choose fX9_init_x
theorem fX9_init_d : fX9_init = fun m => fX9_init_0 m := Classical.choose_spec fX9_init_x
noncomputable def GX9_init : qG Unit := fun av m => match av with
  | [.ref 74] => fX9_init m
  | _ => none
theorem spX9_init : qSpV yX9_init (.code yX9_init cX9_init 1 none) 1 qf0 75 80 2 GX9_init := by
  intro av m m' hG
  unfold GX9_init at hG
  split at hG
  · rw [fX9_init_d] at hG
    exact ⟨qmeet (J := jV) (r := ((), m')) (av := [.ref 74]) (by decide +kernel) (Nat.le_of_ble_eq_true rfl) (fun C w h hm hx hn => sX9_init_0 h hm hx (by rw [hn]; rfl)) ((lX9_init_0 _).trans hG) (Nat.le_of_ble_eq_true rfl), ⟨74, _, rfl, by decide⟩⟩
  · cases hG
theorem mf_X1_11 : Jvm.Cond.fieldLink RX1 11 (qTb 1 5).1 (qTb 1 5).2.1 (qTb 1 5).2.2.1 ∈ qTw := qm2 (List.mem_of_getElem? (i := 83) (by decide +kernel)) (by decide +kernel)
theorem ff_X1_11_80 : qFd RX1 11 80 1 5 3 := ⟨mf_X1_11, rfl, by decide, rfl⟩
theorem mf_X1_15 : Jvm.Cond.fieldLink RX1 15 (qTb 1 6).1 (qTb 1 6).2.1 (qTb 1 6).2.2.1 ∈ qTw := qm2 (List.mem_of_getElem? (i := 84) (by decide +kernel)) (by decide +kernel)
theorem ff_X1_15_80 : qFd RX1 15 80 1 6 3 := ⟨mf_X1_15, rfl, by decide, rfl⟩
theorem mf_X1_18 : Jvm.Cond.fieldLink RX1 18 (qTb 1 7).1 (qTb 1 7).2.1 (qTb 1 7).2.2.1 ∈ qTw := qm2 (List.mem_of_getElem? (i := 85) (by decide +kernel)) (by decide +kernel)
theorem ff_X1_18_80 : qFd RX1 18 80 1 7 3 := ⟨mf_X1_18, rfl, by decide, rfl⟩
theorem mf_X1_22 : Jvm.Cond.fieldLink RX1 22 (qTb 1 8).1 (qTb 1 8).2.1 (qTb 1 8).2.2.1 ∈ qTw := qm2 (List.mem_of_getElem? (i := 86) (by decide +kernel)) (by decide +kernel)
theorem ff_X1_22_80 : qFd RX1 22 80 1 8 0 := ⟨mf_X1_22, rfl, by decide, rfl⟩
theorem mf_X1_26 : Jvm.Cond.fieldLink RX1 26 (qTb 1 9).1 (qTb 1 9).2.1 (qTb 1 9).2.2.1 ∈ qTw := qm2 (List.mem_of_getElem? (i := 87) (by decide +kernel)) (by decide +kernel)
theorem ff_X1_26_80 : qFd RX1 26 80 1 9 0 := ⟨mf_X1_26, rfl, by decide, rfl⟩
theorem mf_X1_29 : Jvm.Cond.fieldLink RX1 29 (qTb 1 10).1 (qTb 1 10).2.1 (qTb 1 10).2.2.1 ∈ qTw := qm2 (List.mem_of_getElem? (i := 88) (by decide +kernel)) (by decide +kernel)
theorem ff_X1_29_80 : qFd RX1 29 80 1 10 3 := ⟨mf_X1_29, rfl, by decide, rfl⟩
theorem mf_X1_32 : Jvm.Cond.fieldLink RX1 32 (qTb 1 11).1 (qTb 1 11).2.1 (qTb 1 11).2.2.1 ∈ qTw := qm2 (List.mem_of_getElem? (i := 89) (by decide +kernel)) (by decide +kernel)
theorem ff_X1_32_80 : qFd RX1 32 80 1 11 3 := ⟨mf_X1_32, rfl, by decide, rfl⟩
theorem mf_X1_35 : Jvm.Cond.fieldLink RX1 35 (qTb 1 12).1 (qTb 1 12).2.1 (qTb 1 12).2.2.1 ∈ qTw := qm2 (List.mem_of_getElem? (i := 90) (by decide +kernel)) (by decide +kernel)
theorem ff_X1_35_80 : qFd RX1 35 80 1 12 3 := ⟨mf_X1_35, rfl, by decide, rfl⟩
theorem mf_X1_38 : Jvm.Cond.fieldLink RX1 38 (qTb 1 13).1 (qTb 1 13).2.1 (qTb 1 13).2.2.1 ∈ qTw := qm2 (List.mem_of_getElem? (i := 91) (by decide +kernel)) (by decide +kernel)
theorem ff_X1_38_80 : qFd RX1 38 80 1 13 3 := ⟨mf_X1_38, rfl, by decide, rfl⟩
theorem mf_X1_41 : Jvm.Cond.fieldLink RX1 41 (qTb 1 14).1 (qTb 1 14).2.1 (qTb 1 14).2.2.1 ∈ qTw := qm2 (List.mem_of_getElem? (i := 92) (by decide +kernel)) (by decide +kernel)
theorem ff_X1_41_80 : qFd RX1 41 80 1 14 3 := ⟨mf_X1_41, rfl, by decide, rfl⟩
theorem mf_X1_44 : Jvm.Cond.fieldLink RX1 44 (qTb 1 15).1 (qTb 1 15).2.1 (qTb 1 15).2.2.1 ∈ qTw := qm2 (List.mem_of_getElem? (i := 93) (by decide +kernel)) (by decide +kernel)
theorem ff_X1_44_80 : qFd RX1 44 80 1 15 3 := ⟨mf_X1_44, rfl, by decide, rfl⟩
theorem mf_X1_47 : Jvm.Cond.fieldLink RX1 47 (qTb 1 16).1 (qTb 1 16).2.1 (qTb 1 16).2.2.1 ∈ qTw := qm2 (List.mem_of_getElem? (i := 94) (by decide +kernel)) (by decide +kernel)
theorem ff_X1_47_80 : qFd RX1 47 80 1 16 3 := ⟨mf_X1_47, rfl, by decide, rfl⟩
theorem mf_X1_50 : Jvm.Cond.fieldLink RX1 50 (qTb 1 17).1 (qTb 1 17).2.1 (qTb 1 17).2.2.1 ∈ qTw := qm2 (List.mem_of_getElem? (i := 95) (by decide +kernel)) (by decide +kernel)
theorem ff_X1_50_80 : qFd RX1 50 80 1 17 3 := ⟨mf_X1_50, rfl, by decide, rfl⟩
theorem mf_X1_53 : Jvm.Cond.fieldLink RX1 53 (qTb 1 18).1 (qTb 1 18).2.1 (qTb 1 18).2.2.1 ∈ qTw := qm2 (List.mem_of_getElem? (i := 96) (by decide +kernel)) (by decide +kernel)
theorem ff_X1_53_80 : qFd RX1 53 80 1 18 3 := ⟨mf_X1_53, rfl, by decide, rfl⟩
theorem mf_X1_56 : Jvm.Cond.fieldLink RX1 56 (qTb 1 0).1 (qTb 1 0).2.1 (qTb 1 0).2.2.1 ∈ qTw := qm2 (List.mem_of_getElem? (i := 78) (by decide +kernel)) (by decide +kernel)
theorem ff_X1_56_80 : qFd RX1 56 80 1 0 3 := ⟨mf_X1_56, rfl, by decide, rfl⟩
theorem mf_X1_60 : Jvm.Cond.fieldLink RX1 60 (qTb 1 1).1 (qTb 1 1).2.1 (qTb 1 1).2.2.1 ∈ qTw := qm2 (List.mem_of_getElem? (i := 79) (by decide +kernel)) (by decide +kernel)
theorem ff_X1_60_80 : qFd RX1 60 80 1 1 3 := ⟨mf_X1_60, rfl, by decide, rfl⟩
theorem mf_X1_64 : Jvm.Cond.fieldLink RX1 64 (qTb 1 2).1 (qTb 1 2).2.1 (qTb 1 2).2.2.1 ∈ qTw := qm2 (List.mem_of_getElem? (i := 80) (by decide +kernel)) (by decide +kernel)
theorem ff_X1_64_80 : qFd RX1 64 80 1 2 3 := ⟨mf_X1_64, rfl, by decide, rfl⟩
theorem mf_X1_68 : Jvm.Cond.fieldLink RX1 68 (qTb 1 3).1 (qTb 1 3).2.1 (qTb 1 3).2.2.1 ∈ qTw := qm2 (List.mem_of_getElem? (i := 81) (by decide +kernel)) (by decide +kernel)
theorem ff_X1_68_80 : qFd RX1 68 80 1 3 3 := ⟨mf_X1_68, rfl, by decide, rfl⟩
theorem mf_X1_72 : Jvm.Cond.fieldLink RX1 72 (qTb 1 4).1 (qTb 1 4).2.1 (qTb 1 4).2.2.1 ∈ qTw := qm2 (List.mem_of_getElem? (i := 82) (by decide +kernel)) (by decide +kernel)
theorem ff_X1_72_80 : qFd RX1 72 80 1 4 3 := ⟨mf_X1_72, rfl, by decide, rfl⟩
theorem fo_X1_3 : Jvm.Cond.methodLink RX1 3 objectInit ∈ qTw := qm2 (List.mem_of_getElem? (i := 77) (by decide +kernel)) (by decide +kernel)
theorem dX1_init_0 : decode cX1_init 0 = .ok (.aload_n 0, 1) := by decide +kernel
theorem dX1_init_1 : decode cX1_init 1 = .ok (.invokespecial 3, 3) := by decide +kernel
theorem dX1_init_4 : decode cX1_init 4 = .ok (.aload_n 0, 1) := by decide +kernel
theorem dX1_init_5 : decode cX1_init 5 = .ok (.sipush 3240, 3) := by decide +kernel
theorem dX1_init_8 : decode cX1_init 8 = .ok (.newarray .int, 2) := by decide +kernel
theorem dX1_init_10 : decode cX1_init 10 = .ok (.putfield 11, 3) := by decide +kernel
theorem dX1_init_13 : decode cX1_init 13 = .ok (.aload_n 0, 1) := by decide +kernel
theorem dX1_init_14 : decode cX1_init 14 = .ok (.sipush 3240, 3) := by decide +kernel
theorem dX1_init_17 : decode cX1_init 17 = .ok (.newarray .int, 2) := by decide +kernel
theorem dX1_init_19 : decode cX1_init 19 = .ok (.putfield 15, 3) := by decide +kernel
theorem dX1_init_22 : decode cX1_init 22 = .ok (.aload_n 0, 1) := by decide +kernel
theorem dX1_init_23 : decode cX1_init 23 = .ok (.bipush 81, 2) := by decide +kernel
theorem dX1_init_25 : decode cX1_init 25 = .ok (.newarray .boolean, 2) := by decide +kernel
theorem dX1_init_27 : decode cX1_init 27 = .ok (.putfield 18, 3) := by decide +kernel
theorem dX1_init_30 : decode cX1_init 30 = .ok (.aload_n 0, 1) := by decide +kernel
theorem dX1_init_31 : decode cX1_init 31 = .ok (.iconst 0, 1) := by decide +kernel
theorem dX1_init_32 : decode cX1_init 32 = .ok (.putfield 22, 3) := by decide +kernel
theorem dX1_init_35 : decode cX1_init 35 = .ok (.aload_n 0, 1) := by decide +kernel
theorem dX1_init_36 : decode cX1_init 36 = .ok (.iconst 0, 1) := by decide +kernel
theorem dX1_init_37 : decode cX1_init 37 = .ok (.putfield 26, 3) := by decide +kernel
theorem dX1_init_40 : decode cX1_init 40 = .ok (.aload_n 0, 1) := by decide +kernel
theorem dX1_init_41 : decode cX1_init 41 = .ok (.bipush 6, 2) := by decide +kernel
theorem dX1_init_43 : decode cX1_init 43 = .ok (.newarray .int, 2) := by decide +kernel
theorem dX1_init_45 : decode cX1_init 45 = .ok (.putfield 29, 3) := by decide +kernel
theorem dX1_init_48 : decode cX1_init 48 = .ok (.aload_n 0, 1) := by decide +kernel
theorem dX1_init_49 : decode cX1_init 49 = .ok (.bipush 10, 2) := by decide +kernel
theorem dX1_init_51 : decode cX1_init 51 = .ok (.newarray .int, 2) := by decide +kernel
theorem dX1_init_53 : decode cX1_init 53 = .ok (.putfield 32, 3) := by decide +kernel
theorem dX1_init_56 : decode cX1_init 56 = .ok (.aload_n 0, 1) := by decide +kernel
theorem dX1_init_57 : decode cX1_init 57 = .ok (.bipush 10, 2) := by decide +kernel
theorem dX1_init_59 : decode cX1_init 59 = .ok (.newarray .int, 2) := by decide +kernel
theorem dX1_init_61 : decode cX1_init 61 = .ok (.putfield 35, 3) := by decide +kernel
theorem dX1_init_64 : decode cX1_init 64 = .ok (.aload_n 0, 1) := by decide +kernel
theorem dX1_init_65 : decode cX1_init 65 = .ok (.bipush 15, 2) := by decide +kernel
theorem dX1_init_67 : decode cX1_init 67 = .ok (.newarray .int, 2) := by decide +kernel
theorem dX1_init_69 : decode cX1_init 69 = .ok (.putfield 38, 3) := by decide +kernel
theorem dX1_init_72 : decode cX1_init 72 = .ok (.aload_n 0, 1) := by decide +kernel
theorem dX1_init_73 : decode cX1_init 73 = .ok (.bipush 15, 2) := by decide +kernel
theorem dX1_init_75 : decode cX1_init 75 = .ok (.newarray .int, 2) := by decide +kernel
theorem dX1_init_77 : decode cX1_init 77 = .ok (.putfield 41, 3) := by decide +kernel
theorem dX1_init_80 : decode cX1_init 80 = .ok (.aload_n 0, 1) := by decide +kernel
theorem dX1_init_81 : decode cX1_init 81 = .ok (.iconst 4, 1) := by decide +kernel
theorem dX1_init_82 : decode cX1_init 82 = .ok (.newarray .int, 2) := by decide +kernel
theorem dX1_init_84 : decode cX1_init 84 = .ok (.putfield 44, 3) := by decide +kernel
theorem dX1_init_87 : decode cX1_init 87 = .ok (.aload_n 0, 1) := by decide +kernel
theorem dX1_init_88 : decode cX1_init 88 = .ok (.bipush 40, 2) := by decide +kernel
theorem dX1_init_90 : decode cX1_init 90 = .ok (.newarray .int, 2) := by decide +kernel
theorem dX1_init_92 : decode cX1_init 92 = .ok (.putfield 47, 3) := by decide +kernel
theorem dX1_init_95 : decode cX1_init 95 = .ok (.aload_n 0, 1) := by decide +kernel
theorem dX1_init_96 : decode cX1_init 96 = .ok (.bipush 40, 2) := by decide +kernel
theorem dX1_init_98 : decode cX1_init 98 = .ok (.newarray .int, 2) := by decide +kernel
theorem dX1_init_100 : decode cX1_init 100 = .ok (.putfield 50, 3) := by decide +kernel
theorem dX1_init_103 : decode cX1_init 103 = .ok (.aload_n 0, 1) := by decide +kernel
theorem dX1_init_104 : decode cX1_init 104 = .ok (.bipush 15, 2) := by decide +kernel
theorem dX1_init_106 : decode cX1_init 106 = .ok (.newarray .int, 2) := by decide +kernel
theorem dX1_init_108 : decode cX1_init 108 = .ok (.putfield 53, 3) := by decide +kernel
theorem dX1_init_111 : decode cX1_init 111 = .ok (.aload_n 0, 1) := by decide +kernel
theorem dX1_init_112 : decode cX1_init 112 = .ok (.aload_n 1, 1) := by decide +kernel
theorem dX1_init_113 : decode cX1_init 113 = .ok (.putfield 56, 3) := by decide +kernel
theorem dX1_init_116 : decode cX1_init 116 = .ok (.aload_n 0, 1) := by decide +kernel
theorem dX1_init_117 : decode cX1_init 117 = .ok (.aload_n 2, 1) := by decide +kernel
theorem dX1_init_118 : decode cX1_init 118 = .ok (.putfield 60, 3) := by decide +kernel
theorem dX1_init_121 : decode cX1_init 121 = .ok (.aload_n 0, 1) := by decide +kernel
theorem dX1_init_122 : decode cX1_init 122 = .ok (.aload_n 3, 1) := by decide +kernel
theorem dX1_init_123 : decode cX1_init 123 = .ok (.putfield 64, 3) := by decide +kernel
theorem dX1_init_126 : decode cX1_init 126 = .ok (.aload_n 0, 1) := by decide +kernel
theorem dX1_init_127 : decode cX1_init 127 = .ok (.aload 4, 2) := by decide +kernel
theorem dX1_init_129 : decode cX1_init 129 = .ok (.putfield 68, 3) := by decide +kernel
theorem dX1_init_132 : decode cX1_init 132 = .ok (.aload_n 0, 1) := by decide +kernel
theorem dX1_init_133 : decode cX1_init 133 = .ok (.aload 5, 2) := by decide +kernel
theorem dX1_init_135 : decode cX1_init 135 = .ok (.putfield 72, 3) := by decide +kernel
theorem dX1_init_138 : decode cX1_init 138 = .ok (.return_, 1) := by decide +kernel
noncomputable def fX1_init_0 (m : qM) : Option (Unit × qM) :=
  bif Nat.beq (Int32.toNatClampNeg ((3240 : Int32))) 3240 then (bif Nat.beq 3240 0 then none else (let m1 := (qz m 81); let m2 := (sR m1 80 5 (some 81)); bif Nat.beq (Int32.toNatClampNeg ((3240 : Int32))) 3240 then (bif Nat.beq 3240 0 then none else (let m3 := (qz m2 82); let m4 := (sR m3 80 6 (some 82)); bif Nat.beq (Int32.toNatClampNeg ((81 : Int32))) 81 then (bif Nat.beq 81 0 then none else (let m5 := (qz m4 83); let m6 := (sR m5 80 7 (some 83)); let m7 := (sI m6 80 8 ((0 : Int32))); let m8 := (sI m7 80 9 ((0 : Int32))); bif Nat.beq (Int32.toNatClampNeg ((6 : Int32))) 6 then (bif Nat.beq 6 0 then none else (let m9 := (qz m8 84); let m10 := (sR m9 80 10 (some 84)); bif Nat.beq (Int32.toNatClampNeg ((10 : Int32))) 10 then (bif Nat.beq 10 0 then none else (let m11 := (qz m10 85); let m12 := (sR m11 80 11 (some 85)); bif Nat.beq (Int32.toNatClampNeg ((10 : Int32))) 10 then (bif Nat.beq 10 0 then none else (let m13 := (qz m12 86); let m14 := (sR m13 80 12 (some 86)); bif Nat.beq (Int32.toNatClampNeg ((15 : Int32))) 15 then (bif Nat.beq 15 0 then none else (let m15 := (qz m14 87); let m16 := (sR m15 80 13 (some 87)); bif Nat.beq (Int32.toNatClampNeg ((15 : Int32))) 15 then (bif Nat.beq 15 0 then none else (let m17 := (qz m16 88); let m18 := (sR m17 80 14 (some 88)); bif Nat.beq (Int32.toNatClampNeg ((4 : Int32))) 4 then (bif Nat.beq 4 0 then none else (let m19 := (qz m18 89); let m20 := (sR m19 80 15 (some 89)); bif Nat.beq (Int32.toNatClampNeg ((40 : Int32))) 40 then (bif Nat.beq 40 0 then none else (let m21 := (qz m20 90); let m22 := (sR m21 80 16 (some 90)); bif Nat.beq (Int32.toNatClampNeg ((40 : Int32))) 40 then (bif Nat.beq 40 0 then none else (let m23 := (qz m22 91); let m24 := (sR m23 80 17 (some 91)); bif Nat.beq (Int32.toNatClampNeg ((15 : Int32))) 15 then (bif Nat.beq 15 0 then none else (let m25 := (qz m24 92); let m26 := (sR m25 80 18 (some 92)); let m27 := (sR m26 80 0 (some 4)); let m28 := (sR m27 80 1 (some 7)); let m29 := (sR m28 80 2 (some 47)); let m30 := (sR m29 80 3 (some 58)); let m31 := (sR m30 80 4 (some 74)); some ((), m31))) else none)) else none)) else none)) else none)) else none)) else none)) else none)) else none)) else none)) else none)) else none)) else none
noncomputable def tX1_init_0 : qT (Unit × qM) :=
  oLa 0 (oObj (oLa 0 (oC (.int (3240 : Int32)) (oNewa 81 3240 (oPr 80 5 (oLa 0 (oC (.int (3240 : Int32)) (oNewa 82 3240 (oPr 80 6 (oLa 0 (oC (.int (81 : Int32)) (oNewa 83 81 (oPr 80 7 (oLa 0 (oC (.int (0 : Int32)) (oPi 80 8 (oLa 0 (oC (.int (0 : Int32)) (oPi 80 9 (oLa 0 (oC (.int (6 : Int32)) (oNewa 84 6 (oPr 80 10 (oLa 0 (oC (.int (10 : Int32)) (oNewa 85 10 (oPr 80 11 (oLa 0 (oC (.int (10 : Int32)) (oNewa 86 10 (oPr 80 12 (oLa 0 (oC (.int (15 : Int32)) (oNewa 87 15 (oPr 80 13 (oLa 0 (oC (.int (15 : Int32)) (oNewa 88 15 (oPr 80 14 (oLa 0 (oC (.int (4 : Int32)) (oNewa 89 4 (oPr 80 15 (oLa 0 (oC (.int (40 : Int32)) (oNewa 90 40 (oPr 80 16 (oLa 0 (oC (.int (40 : Int32)) (oNewa 91 40 (oPr 80 17 (oLa 0 (oC (.int (15 : Int32)) (oNewa 92 15 (oPr 80 18 (oLa 0 (oLa 1 (oPr 80 0 (oLa 0 (oLa 2 (oPr 80 1 (oLa 0 (oLa 3 (oPr 80 2 (oLa 0 (oLa 4 (oPr 80 3 (oLa 0 (oLa 5 (oPr 80 4 (eV)))))))))))))))))))))))))))))))))))))))))))))))))))))))))))))))))))))))
set_option maxRecDepth 20000 in
theorem sX1_init_0 {C : qCx} {w : qWp} (h : qOk C w RX1 cX1_init 6 1 81 93) (hm : qMt C none) (hx : qNx C) (hin : C.2.2.2.2.2.2.2.2.1.name = "<init>") : qSnd C w 6 81 (qQf C w 81 93 jV) qf0 81 0 (tX1_init_0) :=
  cLa (pc := 0) h dX1_init_0 rfl (nObj (pc := 1) h dX1_init_1 fo_X1_3 fo_inst fo_code (by decide) (cLa (pc := 4) h dX1_init_4 rfl (cS (pc := 5) h dX1_init_5 rfl (nNewi (pc := 8) h dX1_init_8 rfl ac_int (by decide) (by decide) (by decide) (by decide) (gPr (pc := 10) h dX1_init_10 ff_X1_11_80 (Or.inr ⟨rfl, hin, rfl⟩) (Nat.le_of_ble_eq_true rfl) (Nat.le_of_ble_eq_true rfl) rfl (cLa (pc := 13) h dX1_init_13 rfl (cS (pc := 14) h dX1_init_14 rfl (nNewi (pc := 17) h dX1_init_17 rfl ac_int (by decide) (by decide) (by decide) (by decide) (gPr (pc := 19) h dX1_init_19 ff_X1_15_80 (Or.inr ⟨rfl, hin, rfl⟩) (Nat.le_of_ble_eq_true rfl) (Nat.le_of_ble_eq_true rfl) rfl (cLa (pc := 22) h dX1_init_22 rfl (cB (pc := 23) h dX1_init_23 rfl (nNewz (pc := 25) h dX1_init_25 rfl ac_boolean (by decide) (by decide) (by decide) (by decide) (gPr (pc := 27) h dX1_init_27 ff_X1_18_80 (Or.inr ⟨rfl, hin, rfl⟩) (Nat.le_of_ble_eq_true rfl) (Nat.le_of_ble_eq_true rfl) rfl (cLa (pc := 30) h dX1_init_30 rfl (cC (pc := 31) h dX1_init_31 rfl (gPi (pc := 32) h dX1_init_32 ff_X1_22_80 (Or.inl rfl) (Nat.le_of_ble_eq_true rfl) (Nat.le_of_ble_eq_true rfl) (cLa (pc := 35) h dX1_init_35 rfl (cC (pc := 36) h dX1_init_36 rfl (gPi (pc := 37) h dX1_init_37 ff_X1_26_80 (Or.inl rfl) (Nat.le_of_ble_eq_true rfl) (Nat.le_of_ble_eq_true rfl) (cLa (pc := 40) h dX1_init_40 rfl (cB (pc := 41) h dX1_init_41 rfl (nNewi (pc := 43) h dX1_init_43 rfl ac_int (by decide) (by decide) (by decide) (by decide) (gPr (pc := 45) h dX1_init_45 ff_X1_29_80 (Or.inr ⟨rfl, hin, rfl⟩) (Nat.le_of_ble_eq_true rfl) (Nat.le_of_ble_eq_true rfl) rfl (cLa (pc := 48) h dX1_init_48 rfl (cB (pc := 49) h dX1_init_49 rfl (nNewi (pc := 51) h dX1_init_51 rfl ac_int (by decide) (by decide) (by decide) (by decide) (gPr (pc := 53) h dX1_init_53 ff_X1_32_80 (Or.inr ⟨rfl, hin, rfl⟩) (Nat.le_of_ble_eq_true rfl) (Nat.le_of_ble_eq_true rfl) rfl (cLa (pc := 56) h dX1_init_56 rfl (cB (pc := 57) h dX1_init_57 rfl (nNewi (pc := 59) h dX1_init_59 rfl ac_int (by decide) (by decide) (by decide) (by decide) (gPr (pc := 61) h dX1_init_61 ff_X1_35_80 (Or.inr ⟨rfl, hin, rfl⟩) (Nat.le_of_ble_eq_true rfl) (Nat.le_of_ble_eq_true rfl) rfl (cLa (pc := 64) h dX1_init_64 rfl (cB (pc := 65) h dX1_init_65 rfl (nNewi (pc := 67) h dX1_init_67 rfl ac_int (by decide) (by decide) (by decide) (by decide) (gPr (pc := 69) h dX1_init_69 ff_X1_38_80 (Or.inr ⟨rfl, hin, rfl⟩) (Nat.le_of_ble_eq_true rfl) (Nat.le_of_ble_eq_true rfl) rfl (cLa (pc := 72) h dX1_init_72 rfl (cB (pc := 73) h dX1_init_73 rfl (nNewi (pc := 75) h dX1_init_75 rfl ac_int (by decide) (by decide) (by decide) (by decide) (gPr (pc := 77) h dX1_init_77 ff_X1_41_80 (Or.inr ⟨rfl, hin, rfl⟩) (Nat.le_of_ble_eq_true rfl) (Nat.le_of_ble_eq_true rfl) rfl (cLa (pc := 80) h dX1_init_80 rfl (cC (pc := 81) h dX1_init_81 rfl (nNewi (pc := 82) h dX1_init_82 rfl ac_int (by decide) (by decide) (by decide) (by decide) (gPr (pc := 84) h dX1_init_84 ff_X1_44_80 (Or.inr ⟨rfl, hin, rfl⟩) (Nat.le_of_ble_eq_true rfl) (Nat.le_of_ble_eq_true rfl) rfl (cLa (pc := 87) h dX1_init_87 rfl (cB (pc := 88) h dX1_init_88 rfl (nNewi (pc := 90) h dX1_init_90 rfl ac_int (by decide) (by decide) (by decide) (by decide) (gPr (pc := 92) h dX1_init_92 ff_X1_47_80 (Or.inr ⟨rfl, hin, rfl⟩) (Nat.le_of_ble_eq_true rfl) (Nat.le_of_ble_eq_true rfl) rfl (cLa (pc := 95) h dX1_init_95 rfl (cB (pc := 96) h dX1_init_96 rfl (nNewi (pc := 98) h dX1_init_98 rfl ac_int (by decide) (by decide) (by decide) (by decide) (gPr (pc := 100) h dX1_init_100 ff_X1_50_80 (Or.inr ⟨rfl, hin, rfl⟩) (Nat.le_of_ble_eq_true rfl) (Nat.le_of_ble_eq_true rfl) rfl (cLa (pc := 103) h dX1_init_103 rfl (cB (pc := 104) h dX1_init_104 rfl (nNewi (pc := 106) h dX1_init_106 rfl ac_int (by decide) (by decide) (by decide) (by decide) (gPr (pc := 108) h dX1_init_108 ff_X1_53_80 (Or.inr ⟨rfl, hin, rfl⟩) (Nat.le_of_ble_eq_true rfl) (Nat.le_of_ble_eq_true rfl) rfl (cLa (pc := 111) h dX1_init_111 rfl (cLa (pc := 112) h dX1_init_112 rfl (gPr (pc := 113) h dX1_init_113 ff_X1_56_80 (Or.inr ⟨rfl, hin, rfl⟩) (Nat.le_of_ble_eq_true rfl) (Nat.le_of_ble_eq_true rfl) rfl (cLa (pc := 116) h dX1_init_116 rfl (cLa (pc := 117) h dX1_init_117 rfl (gPr (pc := 118) h dX1_init_118 ff_X1_60_80 (Or.inr ⟨rfl, hin, rfl⟩) (Nat.le_of_ble_eq_true rfl) (Nat.le_of_ble_eq_true rfl) rfl (cLa (pc := 121) h dX1_init_121 rfl (cLa (pc := 122) h dX1_init_122 rfl (gPr (pc := 123) h dX1_init_123 ff_X1_64_80 (Or.inr ⟨rfl, hin, rfl⟩) (Nat.le_of_ble_eq_true rfl) (Nat.le_of_ble_eq_true rfl) rfl (cLa (pc := 126) h dX1_init_126 rfl (cLA (pc := 127) h dX1_init_127 (gPr (pc := 129) h dX1_init_129 ff_X1_68_80 (Or.inr ⟨rfl, hin, rfl⟩) (Nat.le_of_ble_eq_true rfl) (Nat.le_of_ble_eq_true rfl) rfl (cLa (pc := 132) h dX1_init_132 rfl (cLA (pc := 133) h dX1_init_133 (gPr (pc := 135) h dX1_init_135 ff_X1_72_80 (Or.inr ⟨rfl, hin, rfl⟩) (Nat.le_of_ble_eq_true rfl) (Nat.le_of_ble_eq_true rfl) rfl (zV (pc := 138) h hm (by decide) dX1_init_138)))))))))))))))))))))))))))))))))))))))))))))))))))))))))))))))))))))) (fun _ _ => trivial))
set_option maxRecDepth 20000 in
theorem lX1_init_0 (m : qM) : tX1_init_0 [some (.ref 80), some (.ref 4), some (.ref 7), some (.ref 47), some (.ref 58), some (.ref 74)] [] m = fX1_init_0 m := rfl
theorem fX1_init_x : ∃ f : qM → Option (Unit × qM), f = fun m => fX1_init_0 m := ⟨_, rfl⟩
noncomputable def fX1_init : qM → Option (Unit × qM) := Classical.choose fX1_init_x
theorem fX1_init_d : fX1_init = fun m => fX1_init_0 m := Classical.choose_spec fX1_init_x
noncomputable def GX1_init : qG Unit := fun av m => match av with
  | [.ref 80, .ref 4, .ref 7, .ref 47, .ref 58, .ref 74] => fX1_init m
  | _ => none
theorem spX1_init : qSpV yX1_init (.code yX1_init cX1_init 6 none) 1 qf0 81 93 2 GX1_init := by
  intro av m m' hG
  unfold GX1_init at hG
  split at hG
  · rw [fX1_init_d] at hG
    exact ⟨qmeet (J := jV) (r := ((), m')) (av := [.ref 80, .ref 4, .ref 7, .ref 47, .ref 58, .ref 74]) (by decide +kernel) (Nat.le_of_ble_eq_true rfl) (fun C w h hm hx hn => sX1_init_0 h hm hx (by rw [hn]; rfl)) ((lX1_init_0 _).trans hG) (Nat.le_of_ble_eq_true rfl), ⟨80, _, rfl, by decide⟩⟩
  · cases hG
theorem mf_X2_9 : Jvm.Cond.fieldLink RX2 9 (qTb 2 1).1 (qTb 2 1).2.1 (qTb 2 1).2.2.1 ∈ qTw := qm2 (List.mem_of_getElem? (i := 143) (by decide +kernel)) (by decide +kernel)
theorem ff_X2_9_93 : qFd RX2 9 93 2 1 3 := ⟨mf_X2_9, rfl, by decide, rfl⟩
theorem mf_X2_15 : Jvm.Cond.fieldLink RX2 15 (qTb 2 2).1 (qTb 2 2).2.1 (qTb 2 2).2.2.1 ∈ qTw := qm2 (List.mem_of_getElem? (i := 144) (by decide +kernel)) (by decide +kernel)
theorem ff_X2_15_93 : qFd RX2 15 93 2 2 3 := ⟨mf_X2_15, rfl, by decide, rfl⟩
theorem mf_X2_18 : Jvm.Cond.fieldLink RX2 18 (qTb 2 3).1 (qTb 2 3).2.1 (qTb 2 3).2.2.1 ∈ qTw := qm2 (List.mem_of_getElem? (i := 145) (by decide +kernel)) (by decide +kernel)
theorem ff_X2_18_93 : qFd RX2 18 93 2 3 3 := ⟨mf_X2_18, rfl, by decide, rfl⟩
theorem mf_X2_21 : Jvm.Cond.fieldLink RX2 21 (qTb 2 4).1 (qTb 2 4).2.1 (qTb 2 4).2.2.1 ∈ qTw := qm2 (List.mem_of_getElem? (i := 146) (by decide +kernel)) (by decide +kernel)
theorem ff_X2_21_93 : qFd RX2 21 93 2 4 3 := ⟨mf_X2_21, rfl, by decide, rfl⟩
theorem mf_X2_24 : Jvm.Cond.fieldLink RX2 24 (qTb 2 5).1 (qTb 2 5).2.1 (qTb 2 5).2.2.1 ∈ qTw := qm2 (List.mem_of_getElem? (i := 147) (by decide +kernel)) (by decide +kernel)
theorem ff_X2_24_93 : qFd RX2 24 93 2 5 0 := ⟨mf_X2_24, rfl, by decide, rfl⟩
theorem mf_X2_28 : Jvm.Cond.fieldLink RX2 28 (qTb 2 6).1 (qTb 2 6).2.1 (qTb 2 6).2.2.1 ∈ qTw := qm2 (List.mem_of_getElem? (i := 148) (by decide +kernel)) (by decide +kernel)
theorem ff_X2_28_93 : qFd RX2 28 93 2 6 0 := ⟨mf_X2_28, rfl, by decide, rfl⟩
theorem mf_X2_31 : Jvm.Cond.fieldLink RX2 31 (qTb 2 0).1 (qTb 2 0).2.1 (qTb 2 0).2.2.1 ∈ qTw := qm2 (List.mem_of_getElem? (i := 142) (by decide +kernel)) (by decide +kernel)
theorem ff_X2_31_93 : qFd RX2 31 93 2 0 3 := ⟨mf_X2_31, rfl, by decide, rfl⟩
theorem fo_X2_3 : Jvm.Cond.methodLink RX2 3 objectInit ∈ qTw := qm2 (List.mem_of_getElem? (i := 141) (by decide +kernel)) (by decide +kernel)
theorem dX2_init_0 : decode cX2_init 0 = .ok (.aload_n 0, 1) := by decide +kernel
theorem dX2_init_1 : decode cX2_init 1 = .ok (.invokespecial 3, 3) := by decide +kernel
theorem dX2_init_4 : decode cX2_init 4 = .ok (.aload_n 0, 1) := by decide +kernel
theorem dX2_init_5 : decode cX2_init 5 = .ok (.sipush 2400, 3) := by decide +kernel
theorem dX2_init_8 : decode cX2_init 8 = .ok (.newarray .int, 2) := by decide +kernel
theorem dX2_init_10 : decode cX2_init 10 = .ok (.putfield 9, 3) := by decide +kernel
theorem dX2_init_13 : decode cX2_init 13 = .ok (.aload_n 0, 1) := by decide +kernel
theorem dX2_init_14 : decode cX2_init 14 = .ok (.bipush 40, 2) := by decide +kernel
theorem dX2_init_16 : decode cX2_init 16 = .ok (.newarray .int, 2) := by decide +kernel
theorem dX2_init_18 : decode cX2_init 18 = .ok (.putfield 15, 3) := by decide +kernel
theorem dX2_init_21 : decode cX2_init 21 = .ok (.aload_n 0, 1) := by decide +kernel
theorem dX2_init_22 : decode cX2_init 22 = .ok (.bipush 40, 2) := by decide +kernel
theorem dX2_init_24 : decode cX2_init 24 = .ok (.newarray .int, 2) := by decide +kernel
theorem dX2_init_26 : decode cX2_init 26 = .ok (.putfield 18, 3) := by decide +kernel
theorem dX2_init_29 : decode cX2_init 29 = .ok (.aload_n 0, 1) := by decide +kernel
theorem dX2_init_30 : decode cX2_init 30 = .ok (.bipush 40, 2) := by decide +kernel
theorem dX2_init_32 : decode cX2_init 32 = .ok (.newarray .int, 2) := by decide +kernel
theorem dX2_init_34 : decode cX2_init 34 = .ok (.putfield 21, 3) := by decide +kernel
theorem dX2_init_37 : decode cX2_init 37 = .ok (.aload_n 0, 1) := by decide +kernel
theorem dX2_init_38 : decode cX2_init 38 = .ok (.iconst 0, 1) := by decide +kernel
theorem dX2_init_39 : decode cX2_init 39 = .ok (.putfield 24, 3) := by decide +kernel
theorem dX2_init_42 : decode cX2_init 42 = .ok (.aload_n 0, 1) := by decide +kernel
theorem dX2_init_43 : decode cX2_init 43 = .ok (.iconst 0, 1) := by decide +kernel
theorem dX2_init_44 : decode cX2_init 44 = .ok (.putfield 28, 3) := by decide +kernel
theorem dX2_init_47 : decode cX2_init 47 = .ok (.aload_n 0, 1) := by decide +kernel
theorem dX2_init_48 : decode cX2_init 48 = .ok (.aload_n 1, 1) := by decide +kernel
theorem dX2_init_49 : decode cX2_init 49 = .ok (.putfield 31, 3) := by decide +kernel
theorem dX2_init_52 : decode cX2_init 52 = .ok (.return_, 1) := by decide +kernel
noncomputable def fX2_init_0 (m : qM) : Option (Unit × qM) :=
  bif Nat.beq (Int32.toNatClampNeg ((2400 : Int32))) 2400 then (bif Nat.beq 2400 0 then none else (let m1 := (qz m 94); let m2 := (sR m1 93 1 (some 94)); bif Nat.beq (Int32.toNatClampNeg ((40 : Int32))) 40 then (bif Nat.beq 40 0 then none else (let m3 := (qz m2 95); let m4 := (sR m3 93 2 (some 95)); bif Nat.beq (Int32.toNatClampNeg ((40 : Int32))) 40 then (bif Nat.beq 40 0 then none else (let m5 := (qz m4 96); let m6 := (sR m5 93 3 (some 96)); bif Nat.beq (Int32.toNatClampNeg ((40 : Int32))) 40 then (bif Nat.beq 40 0 then none else (let m7 := (qz m6 97); let m8 := (sR m7 93 4 (some 97)); let m9 := (sI m8 93 5 ((0 : Int32))); let m10 := (sI m9 93 6 ((0 : Int32))); let m11 := (sR m10 93 0 (some 58)); some ((), m11))) else none)) else none)) else none)) else none
noncomputable def tX2_init_0 : qT (Unit × qM) :=
  oLa 0 (oObj (oLa 0 (oC (.int (2400 : Int32)) (oNewa 94 2400 (oPr 93 1 (oLa 0 (oC (.int (40 : Int32)) (oNewa 95 40 (oPr 93 2 (oLa 0 (oC (.int (40 : Int32)) (oNewa 96 40 (oPr 93 3 (oLa 0 (oC (.int (40 : Int32)) (oNewa 97 40 (oPr 93 4 (oLa 0 (oC (.int (0 : Int32)) (oPi 93 5 (oLa 0 (oC (.int (0 : Int32)) (oPi 93 6 (oLa 0 (oLa 1 (oPr 93 0 (eV)))))))))))))))))))))))))))
set_option maxRecDepth 20000 in
theorem sX2_init_0 {C : qCx} {w : qWp} (h : qOk C w RX2 cX2_init 2 1 94 98) (hm : qMt C none) (hx : qNx C) (hin : C.2.2.2.2.2.2.2.2.1.name = "<init>") : qSnd C w 2 94 (qQf C w 94 98 jV) qf0 94 0 (tX2_init_0) :=
  cLa (pc := 0) h dX2_init_0 rfl (nObj (pc := 1) h dX2_init_1 fo_X2_3 fo_inst fo_code (by decide) (cLa (pc := 4) h dX2_init_4 rfl (cS (pc := 5) h dX2_init_5 rfl (nNewi (pc := 8) h dX2_init_8 rfl ac_int (by decide) (by decide) (by decide) (by decide) (gPr (pc := 10) h dX2_init_10 ff_X2_9_93 (Or.inr ⟨rfl, hin, rfl⟩) (Nat.le_of_ble_eq_true rfl) (Nat.le_of_ble_eq_true rfl) rfl (cLa (pc := 13) h dX2_init_13 rfl (cB (pc := 14) h dX2_init_14 rfl (nNewi (pc := 16) h dX2_init_16 rfl ac_int (by decide) (by decide) (by decide) (by decide) (gPr (pc := 18) h dX2_init_18 ff_X2_15_93 (Or.inr ⟨rfl, hin, rfl⟩) (Nat.le_of_ble_eq_true rfl) (Nat.le_of_ble_eq_true rfl) rfl (cLa (pc := 21) h dX2_init_21 rfl (cB (pc := 22) h dX2_init_22 rfl (nNewi (pc := 24) h dX2_init_24 rfl ac_int (by decide) (by decide) (by decide) (by decide) (gPr (pc := 26) h dX2_init_26 ff_X2_18_93 (Or.inr ⟨rfl, hin, rfl⟩) (Nat.le_of_ble_eq_true rfl) (Nat.le_of_ble_eq_true rfl) rfl (cLa (pc := 29) h dX2_init_29 rfl (cB (pc := 30) h dX2_init_30 rfl (nNewi (pc := 32) h dX2_init_32 rfl ac_int (by decide) (by decide) (by decide) (by decide) (gPr (pc := 34) h dX2_init_34 ff_X2_21_93 (Or.inr ⟨rfl, hin, rfl⟩) (Nat.le_of_ble_eq_true rfl) (Nat.le_of_ble_eq_true rfl) rfl (cLa (pc := 37) h dX2_init_37 rfl (cC (pc := 38) h dX2_init_38 rfl (gPi (pc := 39) h dX2_init_39 ff_X2_24_93 (Or.inl rfl) (Nat.le_of_ble_eq_true rfl) (Nat.le_of_ble_eq_true rfl) (cLa (pc := 42) h dX2_init_42 rfl (cC (pc := 43) h dX2_init_43 rfl (gPi (pc := 44) h dX2_init_44 ff_X2_28_93 (Or.inl rfl) (Nat.le_of_ble_eq_true rfl) (Nat.le_of_ble_eq_true rfl) (cLa (pc := 47) h dX2_init_47 rfl (cLa (pc := 48) h dX2_init_48 rfl (gPr (pc := 49) h dX2_init_49 ff_X2_31_93 (Or.inr ⟨rfl, hin, rfl⟩) (Nat.le_of_ble_eq_true rfl) (Nat.le_of_ble_eq_true rfl) rfl (zV (pc := 52) h hm (by decide) dX2_init_52)))))))))))))))))))))))))) (fun _ _ => trivial))
set_option maxRecDepth 20000 in
theorem lX2_init_0 (m : qM) : tX2_init_0 [some (.ref 93), some (.ref 58)] [] m = fX2_init_0 m := rfl
theorem fX2_init_x : ∃ f : qM → Option (Unit × qM), f = fun m => fX2_init_0 m := ⟨_, rfl⟩
noncomputable def fX2_init : qM → Option (Unit × qM) := Classical.choose fX2_init_x
theorem fX2_init_d : fX2_init = fun m => fX2_init_0 m := Classical.choose_spec fX2_init_x
noncomputable def GX2_init : qG Unit := fun av m => match av with
  | [.ref 93, .ref 58] => fX2_init m
  | _ => none
theorem spX2_init : qSpV yX2_init (.code yX2_init cX2_init 2 none) 1 qf0 94 98 2 GX2_init := by
  intro av m m' hG
  unfold GX2_init at hG
  split at hG
  · rw [fX2_init_d] at hG
    exact ⟨qmeet (J := jV) (r := ((), m')) (av := [.ref 93, .ref 58]) (by decide +kernel) (Nat.le_of_ble_eq_true rfl) (fun C w h hm hx hn => sX2_init_0 h hm hx (by rw [hn]; rfl)) ((lX2_init_0 _).trans hG) (Nat.le_of_ble_eq_true rfl), ⟨93, _, rfl, by decide⟩⟩
  · cases hG
