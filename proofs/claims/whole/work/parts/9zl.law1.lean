/-! the law's loop (by program) -/
section
variable {ρ : Type} {C : qCx} {w : qWp} {own : String} {cc : ByteArray} {nL dp n0 n1 : Nat} {fin : Nat → Nat → Option Nat} {n pc : Nat}
/-- the law's end: with 1 it is the answer -/
def qLe (C : qCx) (w : qWp) (Qf : Unit × qM → State → Prop) : Prop := ∀ (pc : Nat), decode code pc = .ok (.ireturn, 1) → ∀ (H : Heap) (ls : Array Slot) (locs : List Loc) (m : qM), va_S (qAd w.1) (qSt C).heap H locs → qWj C H locs (155 - 0) (qss 155 - qss 0) (Qf ((), m)) (F0 (qMe C) pc ls [.int 1])
def qSc (C : qCx) (w : qWp) (nA : Nat) (fA : Nat → Int32) : Prop := ∃ a, w.2.1 10020 = .ref a ∧ va_T .int a nA (fun i => .int (fA i)) (qAd w.1) (qSt C) (qSt C).heap
noncomputable def eLaw : qT (Unit × qM) := fun _ st m => match st with
  | [.int x] => bif eqb x (1 : Int32) then some ((), m) else none
  | _ => none
theorem zLaw {Qf : Unit × qM → State → Prop} (hm : qLe C w Qf) (d : decode code pc = .ok (.ireturn, 1)) : qSnd C w nL 0 Qf fin 155 pc eLaw := by
  intro lo st mm r hr hF H ls locs a2 a3 a4
  unfold eLaw at hr
  split at hr
  · rename_i x
    have hx : x = 1 := by
      cases hb : eqb x (1 : Int32)
      · rw [hb] at hr
        cases hr
      · rw [eqb_d] at hb
        exact of_decide_eq_true hb
    rw [hx, show eqb (1 : Int32) (1 : Int32) = true by rw [eqb_d]; rfl] at hr
    have hr' : r = ((), mm) := by
      simp only [cond_true, Option.some.injEq] at hr
      exact hr.symm
    rw [hx, hr']
    exact hm pc d H ls locs mm a3
  · cases hr
end
theorem im_X11_feed : Jvm.Cond.instanceMethod yX11_feed ∈ qTw := qm2 (List.mem_of_getElem? (i := 199) (by decide +kernel)) (by decide +kernel)
theorem se_X11_feed : Jvm.Cond.selects yX11_feed.cls yX11_feed yX11_feed ∈ qTw := qm2 (List.mem_of_getElem? (i := 200) (by decide +kernel)) (by decide +kernel)
theorem co_X11_feed : Jvm.Cond.code yX11_feed cX11_feed 6 (some .int) ∈ qTw := qm2 (List.mem_of_getElem? (i := 201) (by decide +kernel)) (by decide +kernel)
theorem yk_X11_feed : qYk yX11_feed 5 := ⟨⟨by decide +kernel, by decide +kernel⟩, by decide +kernel⟩
theorem ml_L_13 : Jvm.Cond.methodLink RL 13 yX11_feed ∈ qTw := qm2 (List.mem_of_getElem? (i := 198) (by decide +kernel)) (by decide +kernel)
theorem kd_L_13 {C : qCx} {w : qWp} {cc : ByteArray} {nL dp n0 n1 pc : Nat} (h : qOk C w RL cc nL dp n0 n1) (d : decode cc pc = .ok (.invokevirtual 13, 3)) : qCallOk C w nL dp n0 n1 pc 6 1 yX11_feed (.code yX11_feed cX11_feed 6 (some .int)) := kindV h d ml_L_13 im_X11_feed se_X11_feed in_ParentEve co_X11_feed yk_X11_feed (by decide)
theorem im_X13_feed : Jvm.Cond.instanceMethod yX13_feed ∈ qTw := qm7 (List.mem_of_getElem? (i := 208) (by decide +kernel)) (by decide +kernel)
theorem se_X13_feed : Jvm.Cond.selects yX13_feed.cls yX13_feed yX13_feed ∈ qTw := qm7 (List.mem_of_getElem? (i := 209) (by decide +kernel)) (by decide +kernel)
theorem co_X13_feed : Jvm.Cond.code yX13_feed cX13_feed 6 (some .int) ∈ qTw := qm7 (List.mem_of_getElem? (i := 210) (by decide +kernel)) (by decide +kernel)
theorem yk_X13_feed : qYk yX13_feed 5 := ⟨⟨by decide +kernel, by decide +kernel⟩, by decide +kernel⟩
theorem ml_L_17 : Jvm.Cond.methodLink RL 17 yX13_feed ∈ qTw := qm7 (List.mem_of_getElem? (i := 207) (by decide +kernel)) (by decide +kernel)
theorem kd_L_17 {C : qCx} {w : qWp} {cc : ByteArray} {nL dp n0 n1 pc : Nat} (h : qOk C w RL cc nL dp n0 n1) (d : decode cc pc = .ok (.invokevirtual 17, 3)) : qCallOk C w nL dp n0 n1 pc 6 1 yX13_feed (.code yX13_feed cX13_feed 6 (some .int)) := kindV h d ml_L_17 im_X13_feed se_X13_feed in_ParentEveModel co_X13_feed yk_X13_feed (by decide)
theorem im_X11_end : Jvm.Cond.instanceMethod yX11_end ∈ qTw := qm2 (List.mem_of_getElem? (i := 211) (by decide +kernel)) (by decide +kernel)
theorem se_X11_end : Jvm.Cond.selects yX11_end.cls yX11_end yX11_end ∈ qTw := qm2 (List.mem_of_getElem? (i := 212) (by decide +kernel)) (by decide +kernel)
theorem co_X11_end : Jvm.Cond.code yX11_end cX11_end 2 (some .int) ∈ qTw := qm2 (List.mem_of_getElem? (i := 213) (by decide +kernel)) (by decide +kernel)
theorem yk_X11_end : qYk yX11_end 1 := ⟨⟨by decide +kernel, by decide +kernel⟩, by decide +kernel⟩
theorem ml_L_18 : Jvm.Cond.methodLink RL 18 yX11_end ∈ qTw := qm2 (List.mem_of_getElem? (i := 210) (by decide +kernel)) (by decide +kernel)
theorem kd_L_18 {C : qCx} {w : qWp} {cc : ByteArray} {nL dp n0 n1 pc : Nat} (h : qOk C w RL cc nL dp n0 n1) (d : decode cc pc = .ok (.invokevirtual 18, 3)) : qCallOk C w nL dp n0 n1 pc 2 1 yX11_end (.code yX11_end cX11_end 2 (some .int)) := kindV h d ml_L_18 im_X11_end se_X11_end in_ParentEve co_X11_end yk_X11_end (by decide)
theorem im_X13_end : Jvm.Cond.instanceMethod yX13_end ∈ qTw := qm7 (List.mem_of_getElem? (i := 216) (by decide +kernel)) (by decide +kernel)
theorem se_X13_end : Jvm.Cond.selects yX13_end.cls yX13_end yX13_end ∈ qTw := qm7 (List.mem_of_getElem? (i := 217) (by decide +kernel)) (by decide +kernel)
theorem co_X13_end : Jvm.Cond.code yX13_end cX13_end 2 (some .int) ∈ qTw := qm7 (List.mem_of_getElem? (i := 218) (by decide +kernel)) (by decide +kernel)
theorem yk_X13_end : qYk yX13_end 1 := ⟨⟨by decide +kernel, by decide +kernel⟩, by decide +kernel⟩
theorem ml_L_22 : Jvm.Cond.methodLink RL 22 yX13_end ∈ qTw := qm7 (List.mem_of_getElem? (i := 215) (by decide +kernel)) (by decide +kernel)
theorem kd_L_22 {C : qCx} {w : qWp} {cc : ByteArray} {nL dp n0 n1 pc : Nat} (h : qOk C w RL cc nL dp n0 n1) (d : decode cc pc = .ok (.invokevirtual 22, 3)) : qCallOk C w nL dp n0 n1 pc 2 1 yX13_end (.code yX13_end cX13_end 2 (some .int)) := kindV h d ml_L_22 im_X13_end se_X13_end in_ParentEveModel co_X13_end yk_X13_end (by decide)
theorem im_X11_rules : Jvm.Cond.instanceMethod yX11_rules ∈ qTw := qm2 (List.mem_of_getElem? (i := 228) (by decide +kernel)) (by decide +kernel)
theorem se_X11_rules : Jvm.Cond.selects yX11_rules.cls yX11_rules yX11_rules ∈ qTw := qm2 (List.mem_of_getElem? (i := 229) (by decide +kernel)) (by decide +kernel)
theorem co_X11_rules : Jvm.Cond.code yX11_rules cX11_rules 2 (some .int) ∈ qTw := qm2 (List.mem_of_getElem? (i := 230) (by decide +kernel)) (by decide +kernel)
theorem yk_X11_rules : qYk yX11_rules 0 := ⟨⟨by decide +kernel, by decide +kernel⟩, by decide +kernel⟩
theorem ml_L_23 : Jvm.Cond.methodLink RL 23 yX11_rules ∈ qTw := qm2 (List.mem_of_getElem? (i := 227) (by decide +kernel)) (by decide +kernel)
theorem kd_L_23 {C : qCx} {w : qWp} {cc : ByteArray} {nL dp n0 n1 pc : Nat} (h : qOk C w RL cc nL dp n0 n1) (d : decode cc pc = .ok (.invokevirtual 23, 3)) : qCallOk C w nL dp n0 n1 pc 1 1 yX11_rules (.code yX11_rules cX11_rules 2 (some .int)) := kindV h d ml_L_23 im_X11_rules se_X11_rules in_ParentEve co_X11_rules yk_X11_rules (by decide)
theorem im_X13_rules : Jvm.Cond.instanceMethod yX13_rules ∈ qTw := qm7 (List.mem_of_getElem? (i := 223) (by decide +kernel)) (by decide +kernel)
theorem se_X13_rules : Jvm.Cond.selects yX13_rules.cls yX13_rules yX13_rules ∈ qTw := qm7 (List.mem_of_getElem? (i := 224) (by decide +kernel)) (by decide +kernel)
theorem co_X13_rules : Jvm.Cond.codeWith yX13_rules cX13_rules 3 (some .int) [(24, 33, 36, 180)] ∈ qTw := qm7 (List.mem_of_getElem? (i := 225) (by decide +kernel)) (by decide +kernel)
theorem yk_X13_rules : qYk yX13_rules 0 := ⟨⟨by decide +kernel, by decide +kernel⟩, by decide +kernel⟩
theorem ml_L_27 : Jvm.Cond.methodLink RL 27 yX13_rules ∈ qTw := qm7 (List.mem_of_getElem? (i := 222) (by decide +kernel)) (by decide +kernel)
theorem kd_L_27 {C : qCx} {w : qWp} {cc : ByteArray} {nL dp n0 n1 pc : Nat} (h : qOk C w RL cc nL dp n0 n1) (d : decode cc pc = .ok (.invokevirtual 27, 3)) : qCallOk C w nL dp n0 n1 pc 1 1 yX13_rules (.codeWith yX13_rules cX13_rules 3 (some .int) [(24, 33, 36, 180)]) := kindH h d ml_L_27 im_X13_rules se_X13_rules in_ParentEveModel co_X13_rules yk_X13_rules (by decide)
theorem im_X11_rule : Jvm.Cond.instanceMethod yX11_rule ∈ qTw := qm3 (List.mem_of_getElem? (i := 129) (by decide +kernel)) (by decide +kernel)
theorem se_X11_rule : Jvm.Cond.selects yX11_rule.cls yX11_rule yX11_rule ∈ qTw := qm3 (List.mem_of_getElem? (i := 130) (by decide +kernel)) (by decide +kernel)
theorem co_X11_rule : Jvm.Cond.code yX11_rule cX11_rule 2 (some .int) ∈ qTw := qm3 (List.mem_of_getElem? (i := 131) (by decide +kernel)) (by decide +kernel)
theorem yk_X11_rule : qYk yX11_rule 1 := ⟨⟨by decide +kernel, by decide +kernel⟩, by decide +kernel⟩
theorem ml_L_28 : Jvm.Cond.methodLink RL 28 yX11_rule ∈ qTw := qm3 (List.mem_of_getElem? (i := 128) (by decide +kernel)) (by decide +kernel)
theorem kd_L_28 {C : qCx} {w : qWp} {cc : ByteArray} {nL dp n0 n1 pc : Nat} (h : qOk C w RL cc nL dp n0 n1) (d : decode cc pc = .ok (.invokevirtual 28, 3)) : qCallOk C w nL dp n0 n1 pc 2 1 yX11_rule (.code yX11_rule cX11_rule 2 (some .int)) := kindV h d ml_L_28 im_X11_rule se_X11_rule in_ParentEve co_X11_rule yk_X11_rule (by decide)
theorem im_X13_rule : Jvm.Cond.instanceMethod yX13_rule ∈ qTw := qm8 (List.mem_of_getElem? (i := 48) (by decide +kernel)) (by decide +kernel)
theorem se_X13_rule : Jvm.Cond.selects yX13_rule.cls yX13_rule yX13_rule ∈ qTw := qm8 (List.mem_of_getElem? (i := 49) (by decide +kernel)) (by decide +kernel)
theorem co_X13_rule : Jvm.Cond.code yX13_rule cX13_rule 2 (some .int) ∈ qTw := qm8 (List.mem_of_getElem? (i := 50) (by decide +kernel)) (by decide +kernel)
theorem yk_X13_rule : qYk yX13_rule 1 := ⟨⟨by decide +kernel, by decide +kernel⟩, by decide +kernel⟩
theorem ml_L_31 : Jvm.Cond.methodLink RL 31 yX13_rule ∈ qTw := qm8 (List.mem_of_getElem? (i := 47) (by decide +kernel)) (by decide +kernel)
theorem kd_L_31 {C : qCx} {w : qWp} {cc : ByteArray} {nL dp n0 n1 pc : Nat} (h : qOk C w RL cc nL dp n0 n1) (d : decode cc pc = .ok (.invokevirtual 31, 3)) : qCallOk C w nL dp n0 n1 pc 2 1 yX13_rule (.code yX13_rule cX13_rule 2 (some .int)) := kindV h d ml_L_31 im_X13_rule se_X13_rule in_ParentEveModel co_X13_rule yk_X13_rule (by decide)
theorem im_X11_policy : Jvm.Cond.instanceMethod yX11_policy ∈ qTw := qm3 (List.mem_of_getElem? (i := 134) (by decide +kernel)) (by decide +kernel)
theorem se_X11_policy : Jvm.Cond.selects yX11_policy.cls yX11_policy yX11_policy ∈ qTw := qm3 (List.mem_of_getElem? (i := 135) (by decide +kernel)) (by decide +kernel)
theorem co_X11_policy : Jvm.Cond.code yX11_policy cX11_policy 3 (some .int) ∈ qTw := qm3 (List.mem_of_getElem? (i := 136) (by decide +kernel)) (by decide +kernel)
theorem yk_X11_policy : qYk yX11_policy 1 := ⟨⟨by decide +kernel, by decide +kernel⟩, by decide +kernel⟩
theorem ml_L_32 : Jvm.Cond.methodLink RL 32 yX11_policy ∈ qTw := qm3 (List.mem_of_getElem? (i := 133) (by decide +kernel)) (by decide +kernel)
theorem kd_L_32 {C : qCx} {w : qWp} {cc : ByteArray} {nL dp n0 n1 pc : Nat} (h : qOk C w RL cc nL dp n0 n1) (d : decode cc pc = .ok (.invokevirtual 32, 3)) : qCallOk C w nL dp n0 n1 pc 2 1 yX11_policy (.code yX11_policy cX11_policy 3 (some .int)) := kindV h d ml_L_32 im_X11_policy se_X11_policy in_ParentEve co_X11_policy yk_X11_policy (by decide)
theorem im_X13_policy : Jvm.Cond.instanceMethod yX13_policy ∈ qTw := qm8 (List.mem_of_getElem? (i := 53) (by decide +kernel)) (by decide +kernel)
theorem se_X13_policy : Jvm.Cond.selects yX13_policy.cls yX13_policy yX13_policy ∈ qTw := qm8 (List.mem_of_getElem? (i := 54) (by decide +kernel)) (by decide +kernel)
theorem co_X13_policy : Jvm.Cond.codeWith yX13_policy cX13_policy 7 (some .int) [(39, 48, 51, 180)] ∈ qTw := qm8 (List.mem_of_getElem? (i := 55) (by decide +kernel)) (by decide +kernel)
theorem yk_X13_policy : qYk yX13_policy 1 := ⟨⟨by decide +kernel, by decide +kernel⟩, by decide +kernel⟩
theorem ml_L_35 : Jvm.Cond.methodLink RL 35 yX13_policy ∈ qTw := qm8 (List.mem_of_getElem? (i := 52) (by decide +kernel)) (by decide +kernel)
theorem kd_L_35 {C : qCx} {w : qWp} {cc : ByteArray} {nL dp n0 n1 pc : Nat} (h : qOk C w RL cc nL dp n0 n1) (d : decode cc pc = .ok (.invokevirtual 35, 3)) : qCallOk C w nL dp n0 n1 pc 2 1 yX13_policy (.codeWith yX13_policy cX13_policy 7 (some .int) [(39, 48, 51, 180)]) := kindH h d ml_L_35 im_X13_policy se_X13_policy in_ParentEveModel co_X13_policy yk_X13_policy (by decide)
theorem im_X11_follow : Jvm.Cond.instanceMethod yX11_follow ∈ qTw := qm3 (List.mem_of_getElem? (i := 183) (by decide +kernel)) (by decide +kernel)
theorem se_X11_follow : Jvm.Cond.selects yX11_follow.cls yX11_follow yX11_follow ∈ qTw := qm3 (List.mem_of_getElem? (i := 184) (by decide +kernel)) (by decide +kernel)
theorem co_X11_follow : Jvm.Cond.code yX11_follow cX11_follow 3 (some .int) ∈ qTw := qm3 (List.mem_of_getElem? (i := 185) (by decide +kernel)) (by decide +kernel)
theorem yk_X11_follow : qYk yX11_follow 2 := ⟨⟨by decide +kernel, by decide +kernel⟩, by decide +kernel⟩
theorem ml_L_36 : Jvm.Cond.methodLink RL 36 yX11_follow ∈ qTw := qm3 (List.mem_of_getElem? (i := 182) (by decide +kernel)) (by decide +kernel)
theorem kd_L_36 {C : qCx} {w : qWp} {cc : ByteArray} {nL dp n0 n1 pc : Nat} (h : qOk C w RL cc nL dp n0 n1) (d : decode cc pc = .ok (.invokevirtual 36, 3)) : qCallOk C w nL dp n0 n1 pc 3 1 yX11_follow (.code yX11_follow cX11_follow 3 (some .int)) := kindV h d ml_L_36 im_X11_follow se_X11_follow in_ParentEve co_X11_follow yk_X11_follow (by decide)
theorem im_X13_follow : Jvm.Cond.instanceMethod yX13_follow ∈ qTw := qm8 (List.mem_of_getElem? (i := 90) (by decide +kernel)) (by decide +kernel)
theorem se_X13_follow : Jvm.Cond.selects yX13_follow.cls yX13_follow yX13_follow ∈ qTw := qm8 (List.mem_of_getElem? (i := 91) (by decide +kernel)) (by decide +kernel)
theorem co_X13_follow : Jvm.Cond.code yX13_follow cX13_follow 4 (some .int) ∈ qTw := qm8 (List.mem_of_getElem? (i := 92) (by decide +kernel)) (by decide +kernel)
theorem yk_X13_follow : qYk yX13_follow 2 := ⟨⟨by decide +kernel, by decide +kernel⟩, by decide +kernel⟩
theorem ml_L_40 : Jvm.Cond.methodLink RL 40 yX13_follow ∈ qTw := qm8 (List.mem_of_getElem? (i := 89) (by decide +kernel)) (by decide +kernel)
theorem kd_L_40 {C : qCx} {w : qWp} {cc : ByteArray} {nL dp n0 n1 pc : Nat} (h : qOk C w RL cc nL dp n0 n1) (d : decode cc pc = .ok (.invokevirtual 40, 3)) : qCallOk C w nL dp n0 n1 pc 3 1 yX13_follow (.code yX13_follow cX13_follow 4 (some .int)) := kindV h d ml_L_40 im_X13_follow se_X13_follow in_ParentEveModel co_X13_follow yk_X13_follow (by decide)
theorem im_X11_fault : Jvm.Cond.instanceMethod yX11_fault ∈ qTw := qm3 (List.mem_of_getElem? (i := 198) (by decide +kernel)) (by decide +kernel)
theorem se_X11_fault : Jvm.Cond.selects yX11_fault.cls yX11_fault yX11_fault ∈ qTw := qm3 (List.mem_of_getElem? (i := 199) (by decide +kernel)) (by decide +kernel)
theorem co_X11_fault : Jvm.Cond.code yX11_fault cX11_fault 2 (some .int) ∈ qTw := qm3 (List.mem_of_getElem? (i := 200) (by decide +kernel)) (by decide +kernel)
theorem yk_X11_fault : qYk yX11_fault 1 := ⟨⟨by decide +kernel, by decide +kernel⟩, by decide +kernel⟩
theorem ml_L_41 : Jvm.Cond.methodLink RL 41 yX11_fault ∈ qTw := qm3 (List.mem_of_getElem? (i := 197) (by decide +kernel)) (by decide +kernel)
theorem kd_L_41 {C : qCx} {w : qWp} {cc : ByteArray} {nL dp n0 n1 pc : Nat} (h : qOk C w RL cc nL dp n0 n1) (d : decode cc pc = .ok (.invokevirtual 41, 3)) : qCallOk C w nL dp n0 n1 pc 2 1 yX11_fault (.code yX11_fault cX11_fault 2 (some .int)) := kindV h d ml_L_41 im_X11_fault se_X11_fault in_ParentEve co_X11_fault yk_X11_fault (by decide)
theorem im_X13_fault : Jvm.Cond.instanceMethod yX13_fault ∈ qTw := qm8 (List.mem_of_getElem? (i := 99) (by decide +kernel)) (by decide +kernel)
theorem se_X13_fault : Jvm.Cond.selects yX13_fault.cls yX13_fault yX13_fault ∈ qTw := qm8 (List.mem_of_getElem? (i := 100) (by decide +kernel)) (by decide +kernel)
theorem co_X13_fault : Jvm.Cond.code yX13_fault cX13_fault 2 (some .int) ∈ qTw := qm8 (List.mem_of_getElem? (i := 101) (by decide +kernel)) (by decide +kernel)
theorem yk_X13_fault : qYk yX13_fault 1 := ⟨⟨by decide +kernel, by decide +kernel⟩, by decide +kernel⟩
theorem ml_L_44 : Jvm.Cond.methodLink RL 44 yX13_fault ∈ qTw := qm8 (List.mem_of_getElem? (i := 98) (by decide +kernel)) (by decide +kernel)
theorem kd_L_44 {C : qCx} {w : qWp} {cc : ByteArray} {nL dp n0 n1 pc : Nat} (h : qOk C w RL cc nL dp n0 n1) (d : decode cc pc = .ok (.invokevirtual 44, 3)) : qCallOk C w nL dp n0 n1 pc 2 1 yX13_fault (.code yX13_fault cX13_fault 2 (some .int)) := kindV h d ml_L_44 im_X13_fault se_X13_fault in_ParentEveModel co_X13_fault yk_X13_fault (by decide)
theorem im_X11_room : Jvm.Cond.instanceMethod yX11_room ∈ qTw := qm3 (List.mem_of_getElem? (i := 210) (by decide +kernel)) (by decide +kernel)
theorem se_X11_room : Jvm.Cond.selects yX11_room.cls yX11_room yX11_room ∈ qTw := qm3 (List.mem_of_getElem? (i := 211) (by decide +kernel)) (by decide +kernel)
theorem co_X11_room : Jvm.Cond.code yX11_room cX11_room 4 (some .int) ∈ qTw := qm3 (List.mem_of_getElem? (i := 212) (by decide +kernel)) (by decide +kernel)
theorem yk_X11_room : qYk yX11_room 3 := ⟨⟨by decide +kernel, by decide +kernel⟩, by decide +kernel⟩
theorem ml_L_45 : Jvm.Cond.methodLink RL 45 yX11_room ∈ qTw := qm3 (List.mem_of_getElem? (i := 209) (by decide +kernel)) (by decide +kernel)
theorem kd_L_45 {C : qCx} {w : qWp} {cc : ByteArray} {nL dp n0 n1 pc : Nat} (h : qOk C w RL cc nL dp n0 n1) (d : decode cc pc = .ok (.invokevirtual 45, 3)) : qCallOk C w nL dp n0 n1 pc 4 1 yX11_room (.code yX11_room cX11_room 4 (some .int)) := kindV h d ml_L_45 im_X11_room se_X11_room in_ParentEve co_X11_room yk_X11_room (by decide)
theorem im_X13_room : Jvm.Cond.instanceMethod yX13_room ∈ qTw := qm8 (List.mem_of_getElem? (i := 103) (by decide +kernel)) (by decide +kernel)
theorem se_X13_room : Jvm.Cond.selects yX13_room.cls yX13_room yX13_room ∈ qTw := qm8 (List.mem_of_getElem? (i := 104) (by decide +kernel)) (by decide +kernel)
theorem co_X13_room : Jvm.Cond.code yX13_room cX13_room 4 (some .int) ∈ qTw := qm8 (List.mem_of_getElem? (i := 105) (by decide +kernel)) (by decide +kernel)
theorem yk_X13_room : qYk yX13_room 3 := ⟨⟨by decide +kernel, by decide +kernel⟩, by decide +kernel⟩
theorem ml_L_49 : Jvm.Cond.methodLink RL 49 yX13_room ∈ qTw := qm8 (List.mem_of_getElem? (i := 102) (by decide +kernel)) (by decide +kernel)
theorem kd_L_49 {C : qCx} {w : qWp} {cc : ByteArray} {nL dp n0 n1 pc : Nat} (h : qOk C w RL cc nL dp n0 n1) (d : decode cc pc = .ok (.invokevirtual 49, 3)) : qCallOk C w nL dp n0 n1 pc 4 1 yX13_room (.code yX13_room cX13_room 4 (some .int)) := kindV h d ml_L_49 im_X13_room se_X13_room in_ParentEveModel co_X13_room yk_X13_room (by decide)
theorem im_X11_teacher : Jvm.Cond.instanceMethod yX11_teacher ∈ qTw := qm3 (List.mem_of_getElem? (i := 219) (by decide +kernel)) (by decide +kernel)
theorem se_X11_teacher : Jvm.Cond.selects yX11_teacher.cls yX11_teacher yX11_teacher ∈ qTw := qm3 (List.mem_of_getElem? (i := 220) (by decide +kernel)) (by decide +kernel)
theorem co_X11_teacher : Jvm.Cond.code yX11_teacher cX11_teacher 4 (some .int) ∈ qTw := qm3 (List.mem_of_getElem? (i := 221) (by decide +kernel)) (by decide +kernel)
theorem yk_X11_teacher : qYk yX11_teacher 3 := ⟨⟨by decide +kernel, by decide +kernel⟩, by decide +kernel⟩
theorem ml_L_50 : Jvm.Cond.methodLink RL 50 yX11_teacher ∈ qTw := qm3 (List.mem_of_getElem? (i := 218) (by decide +kernel)) (by decide +kernel)
theorem kd_L_50 {C : qCx} {w : qWp} {cc : ByteArray} {nL dp n0 n1 pc : Nat} (h : qOk C w RL cc nL dp n0 n1) (d : decode cc pc = .ok (.invokevirtual 50, 3)) : qCallOk C w nL dp n0 n1 pc 4 1 yX11_teacher (.code yX11_teacher cX11_teacher 4 (some .int)) := kindV h d ml_L_50 im_X11_teacher se_X11_teacher in_ParentEve co_X11_teacher yk_X11_teacher (by decide)
theorem im_X13_teacher : Jvm.Cond.instanceMethod yX13_teacher ∈ qTw := qm8 (List.mem_of_getElem? (i := 107) (by decide +kernel)) (by decide +kernel)
theorem se_X13_teacher : Jvm.Cond.selects yX13_teacher.cls yX13_teacher yX13_teacher ∈ qTw := qm8 (List.mem_of_getElem? (i := 108) (by decide +kernel)) (by decide +kernel)
theorem co_X13_teacher : Jvm.Cond.code yX13_teacher cX13_teacher 4 (some .int) ∈ qTw := qm8 (List.mem_of_getElem? (i := 109) (by decide +kernel)) (by decide +kernel)
theorem yk_X13_teacher : qYk yX13_teacher 3 := ⟨⟨by decide +kernel, by decide +kernel⟩, by decide +kernel⟩
theorem ml_L_53 : Jvm.Cond.methodLink RL 53 yX13_teacher ∈ qTw := qm8 (List.mem_of_getElem? (i := 106) (by decide +kernel)) (by decide +kernel)
theorem kd_L_53 {C : qCx} {w : qWp} {cc : ByteArray} {nL dp n0 n1 pc : Nat} (h : qOk C w RL cc nL dp n0 n1) (d : decode cc pc = .ok (.invokevirtual 53, 3)) : qCallOk C w nL dp n0 n1 pc 4 1 yX13_teacher (.code yX13_teacher cX13_teacher 4 (some .int)) := kindV h d ml_L_53 im_X13_teacher se_X13_teacher in_ParentEveModel co_X13_teacher yk_X13_teacher (by decide)
theorem im_X11_family : Jvm.Cond.instanceMethod yX11_family ∈ qTw := qm3 (List.mem_of_getElem? (i := 235) (by decide +kernel)) (by decide +kernel)
theorem se_X11_family : Jvm.Cond.selects yX11_family.cls yX11_family yX11_family ∈ qTw := qm3 (List.mem_of_getElem? (i := 236) (by decide +kernel)) (by decide +kernel)
theorem co_X11_family : Jvm.Cond.code yX11_family cX11_family 5 (some .int) ∈ qTw := qm3 (List.mem_of_getElem? (i := 237) (by decide +kernel)) (by decide +kernel)
theorem yk_X11_family : qYk yX11_family 4 := ⟨⟨by decide +kernel, by decide +kernel⟩, by decide +kernel⟩
theorem ml_L_54 : Jvm.Cond.methodLink RL 54 yX11_family ∈ qTw := qm3 (List.mem_of_getElem? (i := 234) (by decide +kernel)) (by decide +kernel)
theorem kd_L_54 {C : qCx} {w : qWp} {cc : ByteArray} {nL dp n0 n1 pc : Nat} (h : qOk C w RL cc nL dp n0 n1) (d : decode cc pc = .ok (.invokevirtual 54, 3)) : qCallOk C w nL dp n0 n1 pc 5 1 yX11_family (.code yX11_family cX11_family 5 (some .int)) := kindV h d ml_L_54 im_X11_family se_X11_family in_ParentEve co_X11_family yk_X11_family (by decide)
theorem im_X13_family : Jvm.Cond.instanceMethod yX13_family ∈ qTw := qm8 (List.mem_of_getElem? (i := 118) (by decide +kernel)) (by decide +kernel)
theorem se_X13_family : Jvm.Cond.selects yX13_family.cls yX13_family yX13_family ∈ qTw := qm8 (List.mem_of_getElem? (i := 119) (by decide +kernel)) (by decide +kernel)
theorem co_X13_family : Jvm.Cond.code yX13_family cX13_family 5 (some .int) ∈ qTw := qm8 (List.mem_of_getElem? (i := 120) (by decide +kernel)) (by decide +kernel)
theorem yk_X13_family : qYk yX13_family 4 := ⟨⟨by decide +kernel, by decide +kernel⟩, by decide +kernel⟩
theorem ml_L_58 : Jvm.Cond.methodLink RL 58 yX13_family ∈ qTw := qm8 (List.mem_of_getElem? (i := 117) (by decide +kernel)) (by decide +kernel)
theorem kd_L_58 {C : qCx} {w : qWp} {cc : ByteArray} {nL dp n0 n1 pc : Nat} (h : qOk C w RL cc nL dp n0 n1) (d : decode cc pc = .ok (.invokevirtual 58, 3)) : qCallOk C w nL dp n0 n1 pc 5 1 yX13_family (.code yX13_family cX13_family 5 (some .int)) := kindV h d ml_L_58 im_X13_family se_X13_family in_ParentEveModel co_X13_family yk_X13_family (by decide)
theorem im_X11_wish : Jvm.Cond.instanceMethod yX11_wish ∈ qTw := qm4 (List.mem_of_getElem? (i := 6) (by decide +kernel)) (by decide +kernel)
theorem se_X11_wish : Jvm.Cond.selects yX11_wish.cls yX11_wish yX11_wish ∈ qTw := qm4 (List.mem_of_getElem? (i := 7) (by decide +kernel)) (by decide +kernel)
theorem co_X11_wish : Jvm.Cond.code yX11_wish cX11_wish 5 (some .int) ∈ qTw := qm4 (List.mem_of_getElem? (i := 8) (by decide +kernel)) (by decide +kernel)
theorem yk_X11_wish : qYk yX11_wish 4 := ⟨⟨by decide +kernel, by decide +kernel⟩, by decide +kernel⟩
theorem ml_L_59 : Jvm.Cond.methodLink RL 59 yX11_wish ∈ qTw := qm4 (List.mem_of_getElem? (i := 5) (by decide +kernel)) (by decide +kernel)
theorem kd_L_59 {C : qCx} {w : qWp} {cc : ByteArray} {nL dp n0 n1 pc : Nat} (h : qOk C w RL cc nL dp n0 n1) (d : decode cc pc = .ok (.invokevirtual 59, 3)) : qCallOk C w nL dp n0 n1 pc 5 1 yX11_wish (.code yX11_wish cX11_wish 5 (some .int)) := kindV h d ml_L_59 im_X11_wish se_X11_wish in_ParentEve co_X11_wish yk_X11_wish (by decide)
theorem im_X13_wish : Jvm.Cond.instanceMethod yX13_wish ∈ qTw := qm8 (List.mem_of_getElem? (i := 126) (by decide +kernel)) (by decide +kernel)
theorem se_X13_wish : Jvm.Cond.selects yX13_wish.cls yX13_wish yX13_wish ∈ qTw := qm8 (List.mem_of_getElem? (i := 127) (by decide +kernel)) (by decide +kernel)
theorem co_X13_wish : Jvm.Cond.code yX13_wish cX13_wish 5 (some .int) ∈ qTw := qm8 (List.mem_of_getElem? (i := 128) (by decide +kernel)) (by decide +kernel)
theorem yk_X13_wish : qYk yX13_wish 4 := ⟨⟨by decide +kernel, by decide +kernel⟩, by decide +kernel⟩
theorem ml_L_62 : Jvm.Cond.methodLink RL 62 yX13_wish ∈ qTw := qm8 (List.mem_of_getElem? (i := 125) (by decide +kernel)) (by decide +kernel)
theorem kd_L_62 {C : qCx} {w : qWp} {cc : ByteArray} {nL dp n0 n1 pc : Nat} (h : qOk C w RL cc nL dp n0 n1) (d : decode cc pc = .ok (.invokevirtual 62, 3)) : qCallOk C w nL dp n0 n1 pc 5 1 yX13_wish (.code yX13_wish cX13_wish 5 (some .int)) := kindV h d ml_L_62 im_X13_wish se_X13_wish in_ParentEveModel co_X13_wish yk_X13_wish (by decide)
theorem im_X11_apart : Jvm.Cond.instanceMethod yX11_apart ∈ qTw := qm4 (List.mem_of_getElem? (i := 14) (by decide +kernel)) (by decide +kernel)
theorem se_X11_apart : Jvm.Cond.selects yX11_apart.cls yX11_apart yX11_apart ∈ qTw := qm4 (List.mem_of_getElem? (i := 15) (by decide +kernel)) (by decide +kernel)
theorem co_X11_apart : Jvm.Cond.code yX11_apart cX11_apart 4 (some .int) ∈ qTw := qm4 (List.mem_of_getElem? (i := 16) (by decide +kernel)) (by decide +kernel)
theorem yk_X11_apart : qYk yX11_apart 3 := ⟨⟨by decide +kernel, by decide +kernel⟩, by decide +kernel⟩
theorem ml_L_63 : Jvm.Cond.methodLink RL 63 yX11_apart ∈ qTw := qm4 (List.mem_of_getElem? (i := 13) (by decide +kernel)) (by decide +kernel)
theorem kd_L_63 {C : qCx} {w : qWp} {cc : ByteArray} {nL dp n0 n1 pc : Nat} (h : qOk C w RL cc nL dp n0 n1) (d : decode cc pc = .ok (.invokevirtual 63, 3)) : qCallOk C w nL dp n0 n1 pc 4 1 yX11_apart (.code yX11_apart cX11_apart 4 (some .int)) := kindV h d ml_L_63 im_X11_apart se_X11_apart in_ParentEve co_X11_apart yk_X11_apart (by decide)
theorem im_X13_apart : Jvm.Cond.instanceMethod yX13_apart ∈ qTw := qm8 (List.mem_of_getElem? (i := 130) (by decide +kernel)) (by decide +kernel)
theorem se_X13_apart : Jvm.Cond.selects yX13_apart.cls yX13_apart yX13_apart ∈ qTw := qm8 (List.mem_of_getElem? (i := 131) (by decide +kernel)) (by decide +kernel)
theorem co_X13_apart : Jvm.Cond.code yX13_apart cX13_apart 5 (some .int) ∈ qTw := qm8 (List.mem_of_getElem? (i := 132) (by decide +kernel)) (by decide +kernel)
theorem yk_X13_apart : qYk yX13_apart 3 := ⟨⟨by decide +kernel, by decide +kernel⟩, by decide +kernel⟩
theorem ml_L_67 : Jvm.Cond.methodLink RL 67 yX13_apart ∈ qTw := qm8 (List.mem_of_getElem? (i := 129) (by decide +kernel)) (by decide +kernel)
theorem kd_L_67 {C : qCx} {w : qWp} {cc : ByteArray} {nL dp n0 n1 pc : Nat} (h : qOk C w RL cc nL dp n0 n1) (d : decode cc pc = .ok (.invokevirtual 67, 3)) : qCallOk C w nL dp n0 n1 pc 4 1 yX13_apart (.code yX13_apart cX13_apart 5 (some .int)) := kindV h d ml_L_67 im_X13_apart se_X13_apart in_ParentEveModel co_X13_apart yk_X13_apart (by decide)
theorem im_X11_walk : Jvm.Cond.instanceMethod yX11_walk ∈ qTw := qm4 (List.mem_of_getElem? (i := 23) (by decide +kernel)) (by decide +kernel)
theorem se_X11_walk : Jvm.Cond.selects yX11_walk.cls yX11_walk yX11_walk ∈ qTw := qm4 (List.mem_of_getElem? (i := 24) (by decide +kernel)) (by decide +kernel)
theorem co_X11_walk : Jvm.Cond.code yX11_walk cX11_walk 3 (some .int) ∈ qTw := qm4 (List.mem_of_getElem? (i := 25) (by decide +kernel)) (by decide +kernel)
theorem yk_X11_walk : qYk yX11_walk 2 := ⟨⟨by decide +kernel, by decide +kernel⟩, by decide +kernel⟩
theorem ml_L_68 : Jvm.Cond.methodLink RL 68 yX11_walk ∈ qTw := qm4 (List.mem_of_getElem? (i := 22) (by decide +kernel)) (by decide +kernel)
theorem kd_L_68 {C : qCx} {w : qWp} {cc : ByteArray} {nL dp n0 n1 pc : Nat} (h : qOk C w RL cc nL dp n0 n1) (d : decode cc pc = .ok (.invokevirtual 68, 3)) : qCallOk C w nL dp n0 n1 pc 3 1 yX11_walk (.code yX11_walk cX11_walk 3 (some .int)) := kindV h d ml_L_68 im_X11_walk se_X11_walk in_ParentEve co_X11_walk yk_X11_walk (by decide)
theorem im_X13_walk : Jvm.Cond.instanceMethod yX13_walk ∈ qTw := qm8 (List.mem_of_getElem? (i := 134) (by decide +kernel)) (by decide +kernel)
theorem se_X13_walk : Jvm.Cond.selects yX13_walk.cls yX13_walk yX13_walk ∈ qTw := qm8 (List.mem_of_getElem? (i := 135) (by decide +kernel)) (by decide +kernel)
theorem co_X13_walk : Jvm.Cond.code yX13_walk cX13_walk 3 (some .int) ∈ qTw := qm8 (List.mem_of_getElem? (i := 136) (by decide +kernel)) (by decide +kernel)
theorem yk_X13_walk : qYk yX13_walk 2 := ⟨⟨by decide +kernel, by decide +kernel⟩, by decide +kernel⟩
theorem ml_L_71 : Jvm.Cond.methodLink RL 71 yX13_walk ∈ qTw := qm8 (List.mem_of_getElem? (i := 133) (by decide +kernel)) (by decide +kernel)
theorem kd_L_71 {C : qCx} {w : qWp} {cc : ByteArray} {nL dp n0 n1 pc : Nat} (h : qOk C w RL cc nL dp n0 n1) (d : decode cc pc = .ok (.invokevirtual 71, 3)) : qCallOk C w nL dp n0 n1 pc 3 1 yX13_walk (.code yX13_walk cX13_walk 3 (some .int)) := kindV h d ml_L_71 im_X13_walk se_X13_walk in_ParentEveModel co_X13_walk yk_X13_walk (by decide)
theorem im_X11_ask : Jvm.Cond.instanceMethod yX11_ask ∈ qTw := qm4 (List.mem_of_getElem? (i := 31) (by decide +kernel)) (by decide +kernel)
theorem se_X11_ask : Jvm.Cond.selects yX11_ask.cls yX11_ask yX11_ask ∈ qTw := qm4 (List.mem_of_getElem? (i := 32) (by decide +kernel)) (by decide +kernel)
theorem co_X11_ask : Jvm.Cond.code yX11_ask cX11_ask 4 (some .int) ∈ qTw := qm4 (List.mem_of_getElem? (i := 33) (by decide +kernel)) (by decide +kernel)
theorem yk_X11_ask : qYk yX11_ask 3 := ⟨⟨by decide +kernel, by decide +kernel⟩, by decide +kernel⟩
theorem ml_L_72 : Jvm.Cond.methodLink RL 72 yX11_ask ∈ qTw := qm4 (List.mem_of_getElem? (i := 30) (by decide +kernel)) (by decide +kernel)
theorem kd_L_72 {C : qCx} {w : qWp} {cc : ByteArray} {nL dp n0 n1 pc : Nat} (h : qOk C w RL cc nL dp n0 n1) (d : decode cc pc = .ok (.invokevirtual 72, 3)) : qCallOk C w nL dp n0 n1 pc 4 1 yX11_ask (.code yX11_ask cX11_ask 4 (some .int)) := kindV h d ml_L_72 im_X11_ask se_X11_ask in_ParentEve co_X11_ask yk_X11_ask (by decide)
theorem im_X13_ask : Jvm.Cond.instanceMethod yX13_ask ∈ qTw := qm8 (List.mem_of_getElem? (i := 143) (by decide +kernel)) (by decide +kernel)
theorem se_X13_ask : Jvm.Cond.selects yX13_ask.cls yX13_ask yX13_ask ∈ qTw := qm8 (List.mem_of_getElem? (i := 144) (by decide +kernel)) (by decide +kernel)
theorem co_X13_ask : Jvm.Cond.code yX13_ask cX13_ask 5 (some .int) ∈ qTw := qm8 (List.mem_of_getElem? (i := 145) (by decide +kernel)) (by decide +kernel)
theorem yk_X13_ask : qYk yX13_ask 3 := ⟨⟨by decide +kernel, by decide +kernel⟩, by decide +kernel⟩
theorem ml_L_75 : Jvm.Cond.methodLink RL 75 yX13_ask ∈ qTw := qm8 (List.mem_of_getElem? (i := 142) (by decide +kernel)) (by decide +kernel)
theorem kd_L_75 {C : qCx} {w : qWp} {cc : ByteArray} {nL dp n0 n1 pc : Nat} (h : qOk C w RL cc nL dp n0 n1) (d : decode cc pc = .ok (.invokevirtual 75, 3)) : qCallOk C w nL dp n0 n1 pc 4 1 yX13_ask (.code yX13_ask cX13_ask 5 (some .int)) := kindV h d ml_L_75 im_X13_ask se_X13_ask in_ParentEveModel co_X13_ask yk_X13_ask (by decide)
theorem im_X11_may : Jvm.Cond.instanceMethod yX11_may ∈ qTw := qm4 (List.mem_of_getElem? (i := 47) (by decide +kernel)) (by decide +kernel)
theorem se_X11_may : Jvm.Cond.selects yX11_may.cls yX11_may yX11_may ∈ qTw := qm4 (List.mem_of_getElem? (i := 48) (by decide +kernel)) (by decide +kernel)
theorem co_X11_may : Jvm.Cond.code yX11_may cX11_may 3 (some .int) ∈ qTw := qm4 (List.mem_of_getElem? (i := 49) (by decide +kernel)) (by decide +kernel)
theorem yk_X11_may : qYk yX11_may 2 := ⟨⟨by decide +kernel, by decide +kernel⟩, by decide +kernel⟩
theorem ml_L_76 : Jvm.Cond.methodLink RL 76 yX11_may ∈ qTw := qm4 (List.mem_of_getElem? (i := 46) (by decide +kernel)) (by decide +kernel)
theorem kd_L_76 {C : qCx} {w : qWp} {cc : ByteArray} {nL dp n0 n1 pc : Nat} (h : qOk C w RL cc nL dp n0 n1) (d : decode cc pc = .ok (.invokevirtual 76, 3)) : qCallOk C w nL dp n0 n1 pc 3 1 yX11_may (.code yX11_may cX11_may 3 (some .int)) := kindV h d ml_L_76 im_X11_may se_X11_may in_ParentEve co_X11_may yk_X11_may (by decide)
theorem im_X13_may : Jvm.Cond.instanceMethod yX13_may ∈ qTw := qm8 (List.mem_of_getElem? (i := 147) (by decide +kernel)) (by decide +kernel)
theorem se_X13_may : Jvm.Cond.selects yX13_may.cls yX13_may yX13_may ∈ qTw := qm8 (List.mem_of_getElem? (i := 148) (by decide +kernel)) (by decide +kernel)
theorem co_X13_may : Jvm.Cond.code yX13_may cX13_may 3 (some .int) ∈ qTw := qm8 (List.mem_of_getElem? (i := 149) (by decide +kernel)) (by decide +kernel)
theorem yk_X13_may : qYk yX13_may 2 := ⟨⟨by decide +kernel, by decide +kernel⟩, by decide +kernel⟩
theorem ml_L_79 : Jvm.Cond.methodLink RL 79 yX13_may ∈ qTw := qm8 (List.mem_of_getElem? (i := 146) (by decide +kernel)) (by decide +kernel)
theorem kd_L_79 {C : qCx} {w : qWp} {cc : ByteArray} {nL dp n0 n1 pc : Nat} (h : qOk C w RL cc nL dp n0 n1) (d : decode cc pc = .ok (.invokevirtual 79, 3)) : qCallOk C w nL dp n0 n1 pc 3 1 yX13_may (.code yX13_may cX13_may 3 (some .int)) := kindV h d ml_L_79 im_X13_may se_X13_may in_ParentEveModel co_X13_may yk_X13_may (by decide)
theorem im_X11_lay : Jvm.Cond.instanceMethod yX11_lay ∈ qTw := qm4 (List.mem_of_getElem? (i := 101) (by decide +kernel)) (by decide +kernel)
theorem se_X11_lay : Jvm.Cond.selects yX11_lay.cls yX11_lay yX11_lay ∈ qTw := qm4 (List.mem_of_getElem? (i := 102) (by decide +kernel)) (by decide +kernel)
theorem co_X11_lay : Jvm.Cond.code yX11_lay cX11_lay 3 (some .int) ∈ qTw := qm4 (List.mem_of_getElem? (i := 103) (by decide +kernel)) (by decide +kernel)
theorem yk_X11_lay : qYk yX11_lay 2 := ⟨⟨by decide +kernel, by decide +kernel⟩, by decide +kernel⟩
theorem ml_L_80 : Jvm.Cond.methodLink RL 80 yX11_lay ∈ qTw := qm4 (List.mem_of_getElem? (i := 100) (by decide +kernel)) (by decide +kernel)
theorem kd_L_80 {C : qCx} {w : qWp} {cc : ByteArray} {nL dp n0 n1 pc : Nat} (h : qOk C w RL cc nL dp n0 n1) (d : decode cc pc = .ok (.invokevirtual 80, 3)) : qCallOk C w nL dp n0 n1 pc 3 1 yX11_lay (.code yX11_lay cX11_lay 3 (some .int)) := kindV h d ml_L_80 im_X11_lay se_X11_lay in_ParentEve co_X11_lay yk_X11_lay (by decide)
theorem im_X13_lay_ : Jvm.Cond.instanceMethod yX13_lay_ ∈ qTw := qm8 (List.mem_of_getElem? (i := 163) (by decide +kernel)) (by decide +kernel)
theorem se_X13_lay_ : Jvm.Cond.selects yX13_lay_.cls yX13_lay_ yX13_lay_ ∈ qTw := qm8 (List.mem_of_getElem? (i := 164) (by decide +kernel)) (by decide +kernel)
theorem co_X13_lay_ : Jvm.Cond.code yX13_lay_ cX13_lay_ 3 (some .int) ∈ qTw := qm8 (List.mem_of_getElem? (i := 165) (by decide +kernel)) (by decide +kernel)
theorem yk_X13_lay_ : qYk yX13_lay_ 2 := ⟨⟨by decide +kernel, by decide +kernel⟩, by decide +kernel⟩
theorem ml_L_83 : Jvm.Cond.methodLink RL 83 yX13_lay_ ∈ qTw := qm8 (List.mem_of_getElem? (i := 162) (by decide +kernel)) (by decide +kernel)
theorem kd_L_83 {C : qCx} {w : qWp} {cc : ByteArray} {nL dp n0 n1 pc : Nat} (h : qOk C w RL cc nL dp n0 n1) (d : decode cc pc = .ok (.invokevirtual 83, 3)) : qCallOk C w nL dp n0 n1 pc 3 1 yX13_lay_ (.code yX13_lay_ cX13_lay_ 3 (some .int)) := kindV h d ml_L_83 im_X13_lay_ se_X13_lay_ in_ParentEveModel co_X13_lay_ yk_X13_lay_ (by decide)
theorem im_X11_lift : Jvm.Cond.instanceMethod yX11_lift ∈ qTw := qm4 (List.mem_of_getElem? (i := 134) (by decide +kernel)) (by decide +kernel)
theorem se_X11_lift : Jvm.Cond.selects yX11_lift.cls yX11_lift yX11_lift ∈ qTw := qm4 (List.mem_of_getElem? (i := 135) (by decide +kernel)) (by decide +kernel)
theorem co_X11_lift : Jvm.Cond.code yX11_lift cX11_lift 2 (some .int) ∈ qTw := qm4 (List.mem_of_getElem? (i := 136) (by decide +kernel)) (by decide +kernel)
theorem yk_X11_lift : qYk yX11_lift 1 := ⟨⟨by decide +kernel, by decide +kernel⟩, by decide +kernel⟩
theorem ml_L_84 : Jvm.Cond.methodLink RL 84 yX11_lift ∈ qTw := qm4 (List.mem_of_getElem? (i := 133) (by decide +kernel)) (by decide +kernel)
theorem kd_L_84 {C : qCx} {w : qWp} {cc : ByteArray} {nL dp n0 n1 pc : Nat} (h : qOk C w RL cc nL dp n0 n1) (d : decode cc pc = .ok (.invokevirtual 84, 3)) : qCallOk C w nL dp n0 n1 pc 2 1 yX11_lift (.code yX11_lift cX11_lift 2 (some .int)) := kindV h d ml_L_84 im_X11_lift se_X11_lift in_ParentEve co_X11_lift yk_X11_lift (by decide)
theorem im_X13_lift : Jvm.Cond.instanceMethod yX13_lift ∈ qTw := qm8 (List.mem_of_getElem? (i := 167) (by decide +kernel)) (by decide +kernel)
theorem se_X13_lift : Jvm.Cond.selects yX13_lift.cls yX13_lift yX13_lift ∈ qTw := qm8 (List.mem_of_getElem? (i := 168) (by decide +kernel)) (by decide +kernel)
theorem co_X13_lift : Jvm.Cond.code yX13_lift cX13_lift 3 (some .int) ∈ qTw := qm8 (List.mem_of_getElem? (i := 169) (by decide +kernel)) (by decide +kernel)
theorem yk_X13_lift : qYk yX13_lift 1 := ⟨⟨by decide +kernel, by decide +kernel⟩, by decide +kernel⟩
theorem ml_L_87 : Jvm.Cond.methodLink RL 87 yX13_lift ∈ qTw := qm8 (List.mem_of_getElem? (i := 166) (by decide +kernel)) (by decide +kernel)
theorem kd_L_87 {C : qCx} {w : qWp} {cc : ByteArray} {nL dp n0 n1 pc : Nat} (h : qOk C w RL cc nL dp n0 n1) (d : decode cc pc = .ok (.invokevirtual 87, 3)) : qCallOk C w nL dp n0 n1 pc 2 1 yX13_lift (.code yX13_lift cX13_lift 3 (some .int)) := kindV h d ml_L_87 im_X13_lift se_X13_lift in_ParentEveModel co_X13_lift yk_X13_lift (by decide)
theorem im_X11_layAll : Jvm.Cond.instanceMethod yX11_layAll ∈ qTw := qm4 (List.mem_of_getElem? (i := 142) (by decide +kernel)) (by decide +kernel)
theorem se_X11_layAll : Jvm.Cond.selects yX11_layAll.cls yX11_layAll yX11_layAll ∈ qTw := qm4 (List.mem_of_getElem? (i := 143) (by decide +kernel)) (by decide +kernel)
theorem co_X11_layAll : Jvm.Cond.code yX11_layAll cX11_layAll 1 (some .int) ∈ qTw := qm4 (List.mem_of_getElem? (i := 144) (by decide +kernel)) (by decide +kernel)
theorem yk_X11_layAll : qYk yX11_layAll 0 := ⟨⟨by decide +kernel, by decide +kernel⟩, by decide +kernel⟩
theorem ml_L_88 : Jvm.Cond.methodLink RL 88 yX11_layAll ∈ qTw := qm4 (List.mem_of_getElem? (i := 141) (by decide +kernel)) (by decide +kernel)
theorem kd_L_88 {C : qCx} {w : qWp} {cc : ByteArray} {nL dp n0 n1 pc : Nat} (h : qOk C w RL cc nL dp n0 n1) (d : decode cc pc = .ok (.invokevirtual 88, 3)) : qCallOk C w nL dp n0 n1 pc 1 1 yX11_layAll (.code yX11_layAll cX11_layAll 1 (some .int)) := kindV h d ml_L_88 im_X11_layAll se_X11_layAll in_ParentEve co_X11_layAll yk_X11_layAll (by decide)
theorem im_X13_layAll : Jvm.Cond.instanceMethod yX13_layAll ∈ qTw := qm8 (List.mem_of_getElem? (i := 171) (by decide +kernel)) (by decide +kernel)
theorem se_X13_layAll : Jvm.Cond.selects yX13_layAll.cls yX13_layAll yX13_layAll ∈ qTw := qm8 (List.mem_of_getElem? (i := 172) (by decide +kernel)) (by decide +kernel)
theorem co_X13_layAll : Jvm.Cond.code yX13_layAll cX13_layAll 7 (some .int) ∈ qTw := qm8 (List.mem_of_getElem? (i := 173) (by decide +kernel)) (by decide +kernel)
theorem yk_X13_layAll : qYk yX13_layAll 0 := ⟨⟨by decide +kernel, by decide +kernel⟩, by decide +kernel⟩
theorem ml_L_91 : Jvm.Cond.methodLink RL 91 yX13_layAll ∈ qTw := qm8 (List.mem_of_getElem? (i := 170) (by decide +kernel)) (by decide +kernel)
theorem kd_L_91 {C : qCx} {w : qWp} {cc : ByteArray} {nL dp n0 n1 pc : Nat} (h : qOk C w RL cc nL dp n0 n1) (d : decode cc pc = .ok (.invokevirtual 91, 3)) : qCallOk C w nL dp n0 n1 pc 1 1 yX13_layAll (.code yX13_layAll cX13_layAll 7 (some .int)) := kindV h d ml_L_91 im_X13_layAll se_X13_layAll in_ParentEveModel co_X13_layAll yk_X13_layAll (by decide)
theorem im_X11_best : Jvm.Cond.instanceMethod yX11_best ∈ qTw := qm4 (List.mem_of_getElem? (i := 176) (by decide +kernel)) (by decide +kernel)
theorem se_X11_best : Jvm.Cond.selects yX11_best.cls yX11_best yX11_best ∈ qTw := qm4 (List.mem_of_getElem? (i := 177) (by decide +kernel)) (by decide +kernel)
theorem co_X11_best : Jvm.Cond.code yX11_best cX11_best 3 (some .int) ∈ qTw := qm4 (List.mem_of_getElem? (i := 178) (by decide +kernel)) (by decide +kernel)
theorem yk_X11_best : qYk yX11_best 1 := ⟨⟨by decide +kernel, by decide +kernel⟩, by decide +kernel⟩
theorem ml_L_92 : Jvm.Cond.methodLink RL 92 yX11_best ∈ qTw := qm4 (List.mem_of_getElem? (i := 175) (by decide +kernel)) (by decide +kernel)
theorem kd_L_92 {C : qCx} {w : qWp} {cc : ByteArray} {nL dp n0 n1 pc : Nat} (h : qOk C w RL cc nL dp n0 n1) (d : decode cc pc = .ok (.invokevirtual 92, 3)) : qCallOk C w nL dp n0 n1 pc 2 1 yX11_best (.code yX11_best cX11_best 3 (some .int)) := kindV h d ml_L_92 im_X11_best se_X11_best in_ParentEve co_X11_best yk_X11_best (by decide)
theorem im_X13_best : Jvm.Cond.instanceMethod yX13_best ∈ qTw := qm8 (List.mem_of_getElem? (i := 193) (by decide +kernel)) (by decide +kernel)
theorem se_X13_best : Jvm.Cond.selects yX13_best.cls yX13_best yX13_best ∈ qTw := qm8 (List.mem_of_getElem? (i := 194) (by decide +kernel)) (by decide +kernel)
theorem co_X13_best : Jvm.Cond.code yX13_best cX13_best 5 (some .int) ∈ qTw := qm8 (List.mem_of_getElem? (i := 195) (by decide +kernel)) (by decide +kernel)
theorem yk_X13_best : qYk yX13_best 1 := ⟨⟨by decide +kernel, by decide +kernel⟩, by decide +kernel⟩
theorem ml_L_95 : Jvm.Cond.methodLink RL 95 yX13_best ∈ qTw := qm8 (List.mem_of_getElem? (i := 192) (by decide +kernel)) (by decide +kernel)
theorem kd_L_95 {C : qCx} {w : qWp} {cc : ByteArray} {nL dp n0 n1 pc : Nat} (h : qOk C w RL cc nL dp n0 n1) (d : decode cc pc = .ok (.invokevirtual 95, 3)) : qCallOk C w nL dp n0 n1 pc 2 1 yX13_best (.code yX13_best cX13_best 5 (some .int)) := kindV h d ml_L_95 im_X13_best se_X13_best in_ParentEveModel co_X13_best yk_X13_best (by decide)
theorem im_X11_settle : Jvm.Cond.instanceMethod yX11_settle ∈ qTw := qm4 (List.mem_of_getElem? (i := 223) (by decide +kernel)) (by decide +kernel)
theorem se_X11_settle : Jvm.Cond.selects yX11_settle.cls yX11_settle yX11_settle ∈ qTw := qm4 (List.mem_of_getElem? (i := 224) (by decide +kernel)) (by decide +kernel)
theorem co_X11_settle : Jvm.Cond.code yX11_settle cX11_settle 2 (some .int) ∈ qTw := qm4 (List.mem_of_getElem? (i := 225) (by decide +kernel)) (by decide +kernel)
theorem yk_X11_settle : qYk yX11_settle 0 := ⟨⟨by decide +kernel, by decide +kernel⟩, by decide +kernel⟩
theorem ml_L_96 : Jvm.Cond.methodLink RL 96 yX11_settle ∈ qTw := qm4 (List.mem_of_getElem? (i := 222) (by decide +kernel)) (by decide +kernel)
theorem kd_L_96 {C : qCx} {w : qWp} {cc : ByteArray} {nL dp n0 n1 pc : Nat} (h : qOk C w RL cc nL dp n0 n1) (d : decode cc pc = .ok (.invokevirtual 96, 3)) : qCallOk C w nL dp n0 n1 pc 1 1 yX11_settle (.code yX11_settle cX11_settle 2 (some .int)) := kindV h d ml_L_96 im_X11_settle se_X11_settle in_ParentEve co_X11_settle yk_X11_settle (by decide)
theorem im_X13_settle : Jvm.Cond.instanceMethod yX13_settle ∈ qTw := qm8 (List.mem_of_getElem? (i := 217) (by decide +kernel)) (by decide +kernel)
theorem se_X13_settle : Jvm.Cond.selects yX13_settle.cls yX13_settle yX13_settle ∈ qTw := qm8 (List.mem_of_getElem? (i := 218) (by decide +kernel)) (by decide +kernel)
theorem co_X13_settle : Jvm.Cond.code yX13_settle cX13_settle 3 (some .int) ∈ qTw := qm8 (List.mem_of_getElem? (i := 219) (by decide +kernel)) (by decide +kernel)
theorem yk_X13_settle : qYk yX13_settle 0 := ⟨⟨by decide +kernel, by decide +kernel⟩, by decide +kernel⟩
theorem ml_L_99 : Jvm.Cond.methodLink RL 99 yX13_settle ∈ qTw := qm8 (List.mem_of_getElem? (i := 216) (by decide +kernel)) (by decide +kernel)
theorem kd_L_99 {C : qCx} {w : qWp} {cc : ByteArray} {nL dp n0 n1 pc : Nat} (h : qOk C w RL cc nL dp n0 n1) (d : decode cc pc = .ok (.invokevirtual 99, 3)) : qCallOk C w nL dp n0 n1 pc 1 1 yX13_settle (.code yX13_settle cX13_settle 3 (some .int)) := kindV h d ml_L_99 im_X13_settle se_X13_settle in_ParentEveModel co_X13_settle yk_X13_settle (by decide)
theorem im_X11_about : Jvm.Cond.instanceMethod yX11_about ∈ qTw := qm5 (List.mem_of_getElem? (i := 19) (by decide +kernel)) (by decide +kernel)
theorem se_X11_about : Jvm.Cond.selects yX11_about.cls yX11_about yX11_about ∈ qTw := qm5 (List.mem_of_getElem? (i := 20) (by decide +kernel)) (by decide +kernel)
theorem co_X11_about : Jvm.Cond.code yX11_about cX11_about 3 (some .int) ∈ qTw := qm5 (List.mem_of_getElem? (i := 21) (by decide +kernel)) (by decide +kernel)
theorem yk_X11_about : qYk yX11_about 2 := ⟨⟨by decide +kernel, by decide +kernel⟩, by decide +kernel⟩
theorem ml_L_100 : Jvm.Cond.methodLink RL 100 yX11_about ∈ qTw := qm5 (List.mem_of_getElem? (i := 18) (by decide +kernel)) (by decide +kernel)
theorem kd_L_100 {C : qCx} {w : qWp} {cc : ByteArray} {nL dp n0 n1 pc : Nat} (h : qOk C w RL cc nL dp n0 n1) (d : decode cc pc = .ok (.invokevirtual 100, 3)) : qCallOk C w nL dp n0 n1 pc 3 1 yX11_about (.code yX11_about cX11_about 3 (some .int)) := kindV h d ml_L_100 im_X11_about se_X11_about in_ParentEve co_X11_about yk_X11_about (by decide)
theorem im_X13_about : Jvm.Cond.instanceMethod yX13_about ∈ qTw := qm8 (List.mem_of_getElem? (i := 233) (by decide +kernel)) (by decide +kernel)
theorem se_X13_about : Jvm.Cond.selects yX13_about.cls yX13_about yX13_about ∈ qTw := qm8 (List.mem_of_getElem? (i := 234) (by decide +kernel)) (by decide +kernel)
theorem co_X13_about : Jvm.Cond.code yX13_about cX13_about 3 (some .int) ∈ qTw := qm8 (List.mem_of_getElem? (i := 235) (by decide +kernel)) (by decide +kernel)
theorem yk_X13_about : qYk yX13_about 2 := ⟨⟨by decide +kernel, by decide +kernel⟩, by decide +kernel⟩
theorem ml_L_103 : Jvm.Cond.methodLink RL 103 yX13_about ∈ qTw := qm8 (List.mem_of_getElem? (i := 232) (by decide +kernel)) (by decide +kernel)
theorem kd_L_103 {C : qCx} {w : qWp} {cc : ByteArray} {nL dp n0 n1 pc : Nat} (h : qOk C w RL cc nL dp n0 n1) (d : decode cc pc = .ok (.invokevirtual 103, 3)) : qCallOk C w nL dp n0 n1 pc 3 1 yX13_about (.code yX13_about cX13_about 3 (some .int)) := kindV h d ml_L_103 im_X13_about se_X13_about in_ParentEveModel co_X13_about yk_X13_about (by decide)
theorem im_X11_waits : Jvm.Cond.instanceMethod yX11_waits ∈ qTw := qm5 (List.mem_of_getElem? (i := 30) (by decide +kernel)) (by decide +kernel)
theorem se_X11_waits : Jvm.Cond.selects yX11_waits.cls yX11_waits yX11_waits ∈ qTw := qm5 (List.mem_of_getElem? (i := 31) (by decide +kernel)) (by decide +kernel)
theorem co_X11_waits : Jvm.Cond.code yX11_waits cX11_waits 3 (some .int) ∈ qTw := qm5 (List.mem_of_getElem? (i := 32) (by decide +kernel)) (by decide +kernel)
theorem yk_X11_waits : qYk yX11_waits 1 := ⟨⟨by decide +kernel, by decide +kernel⟩, by decide +kernel⟩
theorem ml_L_104 : Jvm.Cond.methodLink RL 104 yX11_waits ∈ qTw := qm5 (List.mem_of_getElem? (i := 29) (by decide +kernel)) (by decide +kernel)
theorem kd_L_104 {C : qCx} {w : qWp} {cc : ByteArray} {nL dp n0 n1 pc : Nat} (h : qOk C w RL cc nL dp n0 n1) (d : decode cc pc = .ok (.invokevirtual 104, 3)) : qCallOk C w nL dp n0 n1 pc 2 1 yX11_waits (.code yX11_waits cX11_waits 3 (some .int)) := kindV h d ml_L_104 im_X11_waits se_X11_waits in_ParentEve co_X11_waits yk_X11_waits (by decide)
theorem im_X13_waits : Jvm.Cond.instanceMethod yX13_waits ∈ qTw := qm8 (List.mem_of_getElem? (i := 237) (by decide +kernel)) (by decide +kernel)
theorem se_X13_waits : Jvm.Cond.selects yX13_waits.cls yX13_waits yX13_waits ∈ qTw := qm8 (List.mem_of_getElem? (i := 238) (by decide +kernel)) (by decide +kernel)
theorem co_X13_waits : Jvm.Cond.code yX13_waits cX13_waits 2 (some .int) ∈ qTw := qm8 (List.mem_of_getElem? (i := 239) (by decide +kernel)) (by decide +kernel)
theorem yk_X13_waits : qYk yX13_waits 1 := ⟨⟨by decide +kernel, by decide +kernel⟩, by decide +kernel⟩
theorem ml_L_107 : Jvm.Cond.methodLink RL 107 yX13_waits ∈ qTw := qm8 (List.mem_of_getElem? (i := 236) (by decide +kernel)) (by decide +kernel)
theorem kd_L_107 {C : qCx} {w : qWp} {cc : ByteArray} {nL dp n0 n1 pc : Nat} (h : qOk C w RL cc nL dp n0 n1) (d : decode cc pc = .ok (.invokevirtual 107, 3)) : qCallOk C w nL dp n0 n1 pc 2 1 yX13_waits (.code yX13_waits cX13_waits 2 (some .int)) := kindV h d ml_L_107 im_X13_waits se_X13_waits in_ParentEveModel co_X13_waits yk_X13_waits (by decide)
theorem im_X11_value : Jvm.Cond.instanceMethod yX11_value ∈ qTw := qm5 (List.mem_of_getElem? (i := 39) (by decide +kernel)) (by decide +kernel)
theorem se_X11_value : Jvm.Cond.selects yX11_value.cls yX11_value yX11_value ∈ qTw := qm5 (List.mem_of_getElem? (i := 40) (by decide +kernel)) (by decide +kernel)
theorem co_X11_value : Jvm.Cond.code yX11_value cX11_value 2 (some .int) ∈ qTw := qm5 (List.mem_of_getElem? (i := 41) (by decide +kernel)) (by decide +kernel)
theorem yk_X11_value : qYk yX11_value 1 := ⟨⟨by decide +kernel, by decide +kernel⟩, by decide +kernel⟩
theorem ml_L_108 : Jvm.Cond.methodLink RL 108 yX11_value ∈ qTw := qm5 (List.mem_of_getElem? (i := 38) (by decide +kernel)) (by decide +kernel)
theorem kd_L_108 {C : qCx} {w : qWp} {cc : ByteArray} {nL dp n0 n1 pc : Nat} (h : qOk C w RL cc nL dp n0 n1) (d : decode cc pc = .ok (.invokevirtual 108, 3)) : qCallOk C w nL dp n0 n1 pc 2 1 yX11_value (.code yX11_value cX11_value 2 (some .int)) := kindV h d ml_L_108 im_X11_value se_X11_value in_ParentEve co_X11_value yk_X11_value (by decide)
theorem im_X13_value : Jvm.Cond.instanceMethod yX13_value ∈ qTw := qm8 (List.mem_of_getElem? (i := 179) (by decide +kernel)) (by decide +kernel)
theorem se_X13_value : Jvm.Cond.selects yX13_value.cls yX13_value yX13_value ∈ qTw := qm8 (List.mem_of_getElem? (i := 180) (by decide +kernel)) (by decide +kernel)
theorem co_X13_value : Jvm.Cond.code yX13_value cX13_value 2 (some .int) ∈ qTw := qm8 (List.mem_of_getElem? (i := 181) (by decide +kernel)) (by decide +kernel)
theorem yk_X13_value : qYk yX13_value 1 := ⟨⟨by decide +kernel, by decide +kernel⟩, by decide +kernel⟩
theorem ml_L_111 : Jvm.Cond.methodLink RL 111 yX13_value ∈ qTw := qm8 (List.mem_of_getElem? (i := 178) (by decide +kernel)) (by decide +kernel)
theorem kd_L_111 {C : qCx} {w : qWp} {cc : ByteArray} {nL dp n0 n1 pc : Nat} (h : qOk C w RL cc nL dp n0 n1) (d : decode cc pc = .ok (.invokevirtual 111, 3)) : qCallOk C w nL dp n0 n1 pc 2 1 yX13_value (.code yX13_value cX13_value 2 (some .int)) := kindV h d ml_L_111 im_X13_value se_X13_value in_ParentEveModel co_X13_value yk_X13_value (by decide)
theorem im_X11_habit : Jvm.Cond.instanceMethod yX11_habit ∈ qTw := qm5 (List.mem_of_getElem? (i := 55) (by decide +kernel)) (by decide +kernel)
theorem se_X11_habit : Jvm.Cond.selects yX11_habit.cls yX11_habit yX11_habit ∈ qTw := qm5 (List.mem_of_getElem? (i := 56) (by decide +kernel)) (by decide +kernel)
theorem co_X11_habit : Jvm.Cond.code yX11_habit cX11_habit 3 (some .int) ∈ qTw := qm5 (List.mem_of_getElem? (i := 57) (by decide +kernel)) (by decide +kernel)
theorem yk_X11_habit : qYk yX11_habit 2 := ⟨⟨by decide +kernel, by decide +kernel⟩, by decide +kernel⟩
theorem ml_L_112 : Jvm.Cond.methodLink RL 112 yX11_habit ∈ qTw := qm5 (List.mem_of_getElem? (i := 54) (by decide +kernel)) (by decide +kernel)
theorem kd_L_112 {C : qCx} {w : qWp} {cc : ByteArray} {nL dp n0 n1 pc : Nat} (h : qOk C w RL cc nL dp n0 n1) (d : decode cc pc = .ok (.invokevirtual 112, 3)) : qCallOk C w nL dp n0 n1 pc 3 1 yX11_habit (.code yX11_habit cX11_habit 3 (some .int)) := kindV h d ml_L_112 im_X11_habit se_X11_habit in_ParentEve co_X11_habit yk_X11_habit (by decide)
theorem im_X13_habit : Jvm.Cond.instanceMethod yX13_habit ∈ qTw := qm9 (List.mem_of_getElem? (i := 1) (by decide +kernel)) (by decide +kernel)
theorem se_X13_habit : Jvm.Cond.selects yX13_habit.cls yX13_habit yX13_habit ∈ qTw := qm9 (List.mem_of_getElem? (i := 2) (by decide +kernel)) (by decide +kernel)
theorem co_X13_habit : Jvm.Cond.code yX13_habit cX13_habit 4 (some .int) ∈ qTw := qm9 (List.mem_of_getElem? (i := 3) (by decide +kernel)) (by decide +kernel)
theorem yk_X13_habit : qYk yX13_habit 2 := ⟨⟨by decide +kernel, by decide +kernel⟩, by decide +kernel⟩
theorem ml_L_115 : Jvm.Cond.methodLink RL 115 yX13_habit ∈ qTw := qm9 (List.mem_of_getElem? (i := 0) (by decide +kernel)) (by decide +kernel)
theorem kd_L_115 {C : qCx} {w : qWp} {cc : ByteArray} {nL dp n0 n1 pc : Nat} (h : qOk C w RL cc nL dp n0 n1) (d : decode cc pc = .ok (.invokevirtual 115, 3)) : qCallOk C w nL dp n0 n1 pc 3 1 yX13_habit (.code yX13_habit cX13_habit 4 (some .int)) := kindV h d ml_L_115 im_X13_habit se_X13_habit in_ParentEveModel co_X13_habit yk_X13_habit (by decide)
theorem im_X11_foretold : Jvm.Cond.instanceMethod yX11_foretold ∈ qTw := qm5 (List.mem_of_getElem? (i := 67) (by decide +kernel)) (by decide +kernel)
theorem se_X11_foretold : Jvm.Cond.selects yX11_foretold.cls yX11_foretold yX11_foretold ∈ qTw := qm5 (List.mem_of_getElem? (i := 68) (by decide +kernel)) (by decide +kernel)
theorem co_X11_foretold : Jvm.Cond.code yX11_foretold cX11_foretold 2 (some .int) ∈ qTw := qm5 (List.mem_of_getElem? (i := 69) (by decide +kernel)) (by decide +kernel)
theorem yk_X11_foretold : qYk yX11_foretold 1 := ⟨⟨by decide +kernel, by decide +kernel⟩, by decide +kernel⟩
theorem ml_L_116 : Jvm.Cond.methodLink RL 116 yX11_foretold ∈ qTw := qm5 (List.mem_of_getElem? (i := 66) (by decide +kernel)) (by decide +kernel)
theorem kd_L_116 {C : qCx} {w : qWp} {cc : ByteArray} {nL dp n0 n1 pc : Nat} (h : qOk C w RL cc nL dp n0 n1) (d : decode cc pc = .ok (.invokevirtual 116, 3)) : qCallOk C w nL dp n0 n1 pc 2 1 yX11_foretold (.code yX11_foretold cX11_foretold 2 (some .int)) := kindV h d ml_L_116 im_X11_foretold se_X11_foretold in_ParentEve co_X11_foretold yk_X11_foretold (by decide)
theorem im_X13_foretold : Jvm.Cond.instanceMethod yX13_foretold ∈ qTw := qm9 (List.mem_of_getElem? (i := 6) (by decide +kernel)) (by decide +kernel)
theorem se_X13_foretold : Jvm.Cond.selects yX13_foretold.cls yX13_foretold yX13_foretold ∈ qTw := qm9 (List.mem_of_getElem? (i := 7) (by decide +kernel)) (by decide +kernel)
theorem co_X13_foretold : Jvm.Cond.code yX13_foretold cX13_foretold 2 (some .int) ∈ qTw := qm9 (List.mem_of_getElem? (i := 8) (by decide +kernel)) (by decide +kernel)
theorem yk_X13_foretold : qYk yX13_foretold 1 := ⟨⟨by decide +kernel, by decide +kernel⟩, by decide +kernel⟩
theorem ml_L_119 : Jvm.Cond.methodLink RL 119 yX13_foretold ∈ qTw := qm9 (List.mem_of_getElem? (i := 5) (by decide +kernel)) (by decide +kernel)
theorem kd_L_119 {C : qCx} {w : qWp} {cc : ByteArray} {nL dp n0 n1 pc : Nat} (h : qOk C w RL cc nL dp n0 n1) (d : decode cc pc = .ok (.invokevirtual 119, 3)) : qCallOk C w nL dp n0 n1 pc 2 1 yX13_foretold (.code yX13_foretold cX13_foretold 2 (some .int)) := kindV h d ml_L_119 im_X13_foretold se_X13_foretold in_ParentEveModel co_X13_foretold yk_X13_foretold (by decide)
theorem im_X11_begin : Jvm.Cond.instanceMethod yX11_begin ∈ qTw := qm5 (List.mem_of_getElem? (i := 75) (by decide +kernel)) (by decide +kernel)
theorem se_X11_begin : Jvm.Cond.selects yX11_begin.cls yX11_begin yX11_begin ∈ qTw := qm5 (List.mem_of_getElem? (i := 76) (by decide +kernel)) (by decide +kernel)
theorem co_X11_begin : Jvm.Cond.code yX11_begin cX11_begin 1 (some .int) ∈ qTw := qm5 (List.mem_of_getElem? (i := 77) (by decide +kernel)) (by decide +kernel)
theorem yk_X11_begin : qYk yX11_begin 0 := ⟨⟨by decide +kernel, by decide +kernel⟩, by decide +kernel⟩
theorem ml_L_120 : Jvm.Cond.methodLink RL 120 yX11_begin ∈ qTw := qm5 (List.mem_of_getElem? (i := 74) (by decide +kernel)) (by decide +kernel)
theorem kd_L_120 {C : qCx} {w : qWp} {cc : ByteArray} {nL dp n0 n1 pc : Nat} (h : qOk C w RL cc nL dp n0 n1) (d : decode cc pc = .ok (.invokevirtual 120, 3)) : qCallOk C w nL dp n0 n1 pc 1 1 yX11_begin (.code yX11_begin cX11_begin 1 (some .int)) := kindV h d ml_L_120 im_X11_begin se_X11_begin in_ParentEve co_X11_begin yk_X11_begin (by decide)
theorem im_X13_begin : Jvm.Cond.instanceMethod yX13_begin ∈ qTw := qm9 (List.mem_of_getElem? (i := 14) (by decide +kernel)) (by decide +kernel)
theorem se_X13_begin : Jvm.Cond.selects yX13_begin.cls yX13_begin yX13_begin ∈ qTw := qm9 (List.mem_of_getElem? (i := 15) (by decide +kernel)) (by decide +kernel)
theorem co_X13_begin : Jvm.Cond.code yX13_begin cX13_begin 1 (some .int) ∈ qTw := qm9 (List.mem_of_getElem? (i := 16) (by decide +kernel)) (by decide +kernel)
theorem yk_X13_begin : qYk yX13_begin 0 := ⟨⟨by decide +kernel, by decide +kernel⟩, by decide +kernel⟩
theorem ml_L_123 : Jvm.Cond.methodLink RL 123 yX13_begin ∈ qTw := qm9 (List.mem_of_getElem? (i := 13) (by decide +kernel)) (by decide +kernel)
theorem kd_L_123 {C : qCx} {w : qWp} {cc : ByteArray} {nL dp n0 n1 pc : Nat} (h : qOk C w RL cc nL dp n0 n1) (d : decode cc pc = .ok (.invokevirtual 123, 3)) : qCallOk C w nL dp n0 n1 pc 1 1 yX13_begin (.code yX13_begin cX13_begin 1 (some .int)) := kindV h d ml_L_123 im_X13_begin se_X13_begin in_ParentEveModel co_X13_begin yk_X13_begin (by decide)
theorem im_X11_over : Jvm.Cond.instanceMethod yX11_over ∈ qTw := qm5 (List.mem_of_getElem? (i := 79) (by decide +kernel)) (by decide +kernel)
theorem se_X11_over : Jvm.Cond.selects yX11_over.cls yX11_over yX11_over ∈ qTw := qm5 (List.mem_of_getElem? (i := 80) (by decide +kernel)) (by decide +kernel)
theorem co_X11_over : Jvm.Cond.code yX11_over cX11_over 4 (some .int) ∈ qTw := qm5 (List.mem_of_getElem? (i := 81) (by decide +kernel)) (by decide +kernel)
theorem yk_X11_over : qYk yX11_over 3 := ⟨⟨by decide +kernel, by decide +kernel⟩, by decide +kernel⟩
theorem ml_L_124 : Jvm.Cond.methodLink RL 124 yX11_over ∈ qTw := qm5 (List.mem_of_getElem? (i := 78) (by decide +kernel)) (by decide +kernel)
theorem kd_L_124 {C : qCx} {w : qWp} {cc : ByteArray} {nL dp n0 n1 pc : Nat} (h : qOk C w RL cc nL dp n0 n1) (d : decode cc pc = .ok (.invokevirtual 124, 3)) : qCallOk C w nL dp n0 n1 pc 4 1 yX11_over (.code yX11_over cX11_over 4 (some .int)) := kindV h d ml_L_124 im_X11_over se_X11_over in_ParentEve co_X11_over yk_X11_over (by decide)
theorem im_X13_over : Jvm.Cond.instanceMethod yX13_over ∈ qTw := qm9 (List.mem_of_getElem? (i := 18) (by decide +kernel)) (by decide +kernel)
theorem se_X13_over : Jvm.Cond.selects yX13_over.cls yX13_over yX13_over ∈ qTw := qm9 (List.mem_of_getElem? (i := 19) (by decide +kernel)) (by decide +kernel)
theorem co_X13_over : Jvm.Cond.code yX13_over cX13_over 4 (some .int) ∈ qTw := qm9 (List.mem_of_getElem? (i := 20) (by decide +kernel)) (by decide +kernel)
theorem yk_X13_over : qYk yX13_over 3 := ⟨⟨by decide +kernel, by decide +kernel⟩, by decide +kernel⟩
theorem ml_L_127 : Jvm.Cond.methodLink RL 127 yX13_over ∈ qTw := qm9 (List.mem_of_getElem? (i := 17) (by decide +kernel)) (by decide +kernel)
theorem kd_L_127 {C : qCx} {w : qWp} {cc : ByteArray} {nL dp n0 n1 pc : Nat} (h : qOk C w RL cc nL dp n0 n1) (d : decode cc pc = .ok (.invokevirtual 127, 3)) : qCallOk C w nL dp n0 n1 pc 4 1 yX13_over (.code yX13_over cX13_over 4 (some .int)) := kindV h d ml_L_127 im_X13_over se_X13_over in_ParentEveModel co_X13_over yk_X13_over (by decide)
theorem im_X11_absent : Jvm.Cond.instanceMethod yX11_absent ∈ qTw := qm5 (List.mem_of_getElem? (i := 98) (by decide +kernel)) (by decide +kernel)
theorem se_X11_absent : Jvm.Cond.selects yX11_absent.cls yX11_absent yX11_absent ∈ qTw := qm5 (List.mem_of_getElem? (i := 99) (by decide +kernel)) (by decide +kernel)
theorem co_X11_absent : Jvm.Cond.code yX11_absent cX11_absent 4 (some .int) ∈ qTw := qm5 (List.mem_of_getElem? (i := 100) (by decide +kernel)) (by decide +kernel)
theorem yk_X11_absent : qYk yX11_absent 3 := ⟨⟨by decide +kernel, by decide +kernel⟩, by decide +kernel⟩
theorem ml_L_128 : Jvm.Cond.methodLink RL 128 yX11_absent ∈ qTw := qm5 (List.mem_of_getElem? (i := 97) (by decide +kernel)) (by decide +kernel)
theorem kd_L_128 {C : qCx} {w : qWp} {cc : ByteArray} {nL dp n0 n1 pc : Nat} (h : qOk C w RL cc nL dp n0 n1) (d : decode cc pc = .ok (.invokevirtual 128, 3)) : qCallOk C w nL dp n0 n1 pc 4 1 yX11_absent (.code yX11_absent cX11_absent 4 (some .int)) := kindV h d ml_L_128 im_X11_absent se_X11_absent in_ParentEve co_X11_absent yk_X11_absent (by decide)
theorem im_X13_absent : Jvm.Cond.instanceMethod yX13_absent ∈ qTw := qm9 (List.mem_of_getElem? (i := 39) (by decide +kernel)) (by decide +kernel)
theorem se_X13_absent : Jvm.Cond.selects yX13_absent.cls yX13_absent yX13_absent ∈ qTw := qm9 (List.mem_of_getElem? (i := 40) (by decide +kernel)) (by decide +kernel)
theorem co_X13_absent : Jvm.Cond.code yX13_absent cX13_absent 4 (some .int) ∈ qTw := qm9 (List.mem_of_getElem? (i := 41) (by decide +kernel)) (by decide +kernel)
theorem yk_X13_absent : qYk yX13_absent 3 := ⟨⟨by decide +kernel, by decide +kernel⟩, by decide +kernel⟩
theorem ml_L_131 : Jvm.Cond.methodLink RL 131 yX13_absent ∈ qTw := qm9 (List.mem_of_getElem? (i := 38) (by decide +kernel)) (by decide +kernel)
theorem kd_L_131 {C : qCx} {w : qWp} {cc : ByteArray} {nL dp n0 n1 pc : Nat} (h : qOk C w RL cc nL dp n0 n1) (d : decode cc pc = .ok (.invokevirtual 131, 3)) : qCallOk C w nL dp n0 n1 pc 4 1 yX13_absent (.code yX13_absent cX13_absent 4 (some .int)) := kindV h d ml_L_131 im_X13_absent se_X13_absent in_ParentEveModel co_X13_absent yk_X13_absent (by decide)
theorem im_X11_comes : Jvm.Cond.instanceMethod yX11_comes ∈ qTw := qm5 (List.mem_of_getElem? (i := 102) (by decide +kernel)) (by decide +kernel)
theorem se_X11_comes : Jvm.Cond.selects yX11_comes.cls yX11_comes yX11_comes ∈ qTw := qm5 (List.mem_of_getElem? (i := 103) (by decide +kernel)) (by decide +kernel)
theorem co_X11_comes : Jvm.Cond.code yX11_comes cX11_comes 4 (some .int) ∈ qTw := qm5 (List.mem_of_getElem? (i := 104) (by decide +kernel)) (by decide +kernel)
theorem yk_X11_comes : qYk yX11_comes 3 := ⟨⟨by decide +kernel, by decide +kernel⟩, by decide +kernel⟩
theorem ml_L_132 : Jvm.Cond.methodLink RL 132 yX11_comes ∈ qTw := qm5 (List.mem_of_getElem? (i := 101) (by decide +kernel)) (by decide +kernel)
theorem kd_L_132 {C : qCx} {w : qWp} {cc : ByteArray} {nL dp n0 n1 pc : Nat} (h : qOk C w RL cc nL dp n0 n1) (d : decode cc pc = .ok (.invokevirtual 132, 3)) : qCallOk C w nL dp n0 n1 pc 4 1 yX11_comes (.code yX11_comes cX11_comes 4 (some .int)) := kindV h d ml_L_132 im_X11_comes se_X11_comes in_ParentEve co_X11_comes yk_X11_comes (by decide)
theorem im_X13_comes : Jvm.Cond.instanceMethod yX13_comes ∈ qTw := qm9 (List.mem_of_getElem? (i := 43) (by decide +kernel)) (by decide +kernel)
theorem se_X13_comes : Jvm.Cond.selects yX13_comes.cls yX13_comes yX13_comes ∈ qTw := qm9 (List.mem_of_getElem? (i := 44) (by decide +kernel)) (by decide +kernel)
theorem co_X13_comes : Jvm.Cond.code yX13_comes cX13_comes 4 (some .int) ∈ qTw := qm9 (List.mem_of_getElem? (i := 45) (by decide +kernel)) (by decide +kernel)
theorem yk_X13_comes : qYk yX13_comes 3 := ⟨⟨by decide +kernel, by decide +kernel⟩, by decide +kernel⟩
theorem ml_L_135 : Jvm.Cond.methodLink RL 135 yX13_comes ∈ qTw := qm9 (List.mem_of_getElem? (i := 42) (by decide +kernel)) (by decide +kernel)
theorem kd_L_135 {C : qCx} {w : qWp} {cc : ByteArray} {nL dp n0 n1 pc : Nat} (h : qOk C w RL cc nL dp n0 n1) (d : decode cc pc = .ok (.invokevirtual 135, 3)) : qCallOk C w nL dp n0 n1 pc 4 1 yX13_comes (.code yX13_comes cX13_comes 4 (some .int)) := kindV h d ml_L_135 im_X13_comes se_X13_comes in_ParentEveModel co_X13_comes yk_X13_comes (by decide)
theorem im_X11_away : Jvm.Cond.instanceMethod yX11_away ∈ qTw := qm5 (List.mem_of_getElem? (i := 107) (by decide +kernel)) (by decide +kernel)
theorem se_X11_away : Jvm.Cond.selects yX11_away.cls yX11_away yX11_away ∈ qTw := qm5 (List.mem_of_getElem? (i := 108) (by decide +kernel)) (by decide +kernel)
theorem co_X11_away : Jvm.Cond.code yX11_away cX11_away 5 (some .int) ∈ qTw := qm5 (List.mem_of_getElem? (i := 109) (by decide +kernel)) (by decide +kernel)
theorem yk_X11_away : qYk yX11_away 4 := ⟨⟨by decide +kernel, by decide +kernel⟩, by decide +kernel⟩
theorem ml_L_136 : Jvm.Cond.methodLink RL 136 yX11_away ∈ qTw := qm5 (List.mem_of_getElem? (i := 106) (by decide +kernel)) (by decide +kernel)
theorem kd_L_136 {C : qCx} {w : qWp} {cc : ByteArray} {nL dp n0 n1 pc : Nat} (h : qOk C w RL cc nL dp n0 n1) (d : decode cc pc = .ok (.invokevirtual 136, 3)) : qCallOk C w nL dp n0 n1 pc 5 1 yX11_away (.code yX11_away cX11_away 5 (some .int)) := kindV h d ml_L_136 im_X11_away se_X11_away in_ParentEve co_X11_away yk_X11_away (by decide)
theorem im_X13_away : Jvm.Cond.instanceMethod yX13_away ∈ qTw := qm9 (List.mem_of_getElem? (i := 47) (by decide +kernel)) (by decide +kernel)
theorem se_X13_away : Jvm.Cond.selects yX13_away.cls yX13_away yX13_away ∈ qTw := qm9 (List.mem_of_getElem? (i := 48) (by decide +kernel)) (by decide +kernel)
theorem co_X13_away : Jvm.Cond.code yX13_away cX13_away 5 (some .int) ∈ qTw := qm9 (List.mem_of_getElem? (i := 49) (by decide +kernel)) (by decide +kernel)
theorem yk_X13_away : qYk yX13_away 4 := ⟨⟨by decide +kernel, by decide +kernel⟩, by decide +kernel⟩
theorem ml_L_139 : Jvm.Cond.methodLink RL 139 yX13_away ∈ qTw := qm9 (List.mem_of_getElem? (i := 46) (by decide +kernel)) (by decide +kernel)
theorem kd_L_139 {C : qCx} {w : qWp} {cc : ByteArray} {nL dp n0 n1 pc : Nat} (h : qOk C w RL cc nL dp n0 n1) (d : decode cc pc = .ok (.invokevirtual 139, 3)) : qCallOk C w nL dp n0 n1 pc 5 1 yX13_away (.code yX13_away cX13_away 5 (some .int)) := kindV h d ml_L_139 im_X13_away se_X13_away in_ParentEveModel co_X13_away yk_X13_away (by decide)
theorem im_X11_meeting : Jvm.Cond.instanceMethod yX11_meeting ∈ qTw := qm5 (List.mem_of_getElem? (i := 111) (by decide +kernel)) (by decide +kernel)
theorem se_X11_meeting : Jvm.Cond.selects yX11_meeting.cls yX11_meeting yX11_meeting ∈ qTw := qm5 (List.mem_of_getElem? (i := 112) (by decide +kernel)) (by decide +kernel)
theorem co_X11_meeting : Jvm.Cond.code yX11_meeting cX11_meeting 7 (some .int) ∈ qTw := qm5 (List.mem_of_getElem? (i := 113) (by decide +kernel)) (by decide +kernel)
theorem yk_X11_meeting : qYk yX11_meeting 3 := ⟨⟨by decide +kernel, by decide +kernel⟩, by decide +kernel⟩
theorem ml_L_140 : Jvm.Cond.methodLink RL 140 yX11_meeting ∈ qTw := qm5 (List.mem_of_getElem? (i := 110) (by decide +kernel)) (by decide +kernel)
theorem kd_L_140 {C : qCx} {w : qWp} {cc : ByteArray} {nL dp n0 n1 pc : Nat} (h : qOk C w RL cc nL dp n0 n1) (d : decode cc pc = .ok (.invokevirtual 140, 3)) : qCallOk C w nL dp n0 n1 pc 4 1 yX11_meeting (.code yX11_meeting cX11_meeting 7 (some .int)) := kindV h d ml_L_140 im_X11_meeting se_X11_meeting in_ParentEve co_X11_meeting yk_X11_meeting (by decide)
theorem im_X13_meeting : Jvm.Cond.instanceMethod yX13_meeting ∈ qTw := qm9 (List.mem_of_getElem? (i := 51) (by decide +kernel)) (by decide +kernel)
theorem se_X13_meeting : Jvm.Cond.selects yX13_meeting.cls yX13_meeting yX13_meeting ∈ qTw := qm9 (List.mem_of_getElem? (i := 52) (by decide +kernel)) (by decide +kernel)
theorem co_X13_meeting : Jvm.Cond.code yX13_meeting cX13_meeting 4 (some .int) ∈ qTw := qm9 (List.mem_of_getElem? (i := 53) (by decide +kernel)) (by decide +kernel)
theorem yk_X13_meeting : qYk yX13_meeting 3 := ⟨⟨by decide +kernel, by decide +kernel⟩, by decide +kernel⟩
theorem ml_L_143 : Jvm.Cond.methodLink RL 143 yX13_meeting ∈ qTw := qm9 (List.mem_of_getElem? (i := 50) (by decide +kernel)) (by decide +kernel)
theorem kd_L_143 {C : qCx} {w : qWp} {cc : ByteArray} {nL dp n0 n1 pc : Nat} (h : qOk C w RL cc nL dp n0 n1) (d : decode cc pc = .ok (.invokevirtual 143, 3)) : qCallOk C w nL dp n0 n1 pc 4 1 yX13_meeting (.code yX13_meeting cX13_meeting 4 (some .int)) := kindV h d ml_L_143 im_X13_meeting se_X13_meeting in_ParentEveModel co_X13_meeting yk_X13_meeting (by decide)
theorem im_X11_off : Jvm.Cond.instanceMethod yX11_off ∈ qTw := qm5 (List.mem_of_getElem? (i := 231) (by decide +kernel)) (by decide +kernel)
theorem se_X11_off : Jvm.Cond.selects yX11_off.cls yX11_off yX11_off ∈ qTw := qm5 (List.mem_of_getElem? (i := 232) (by decide +kernel)) (by decide +kernel)
theorem co_X11_off : Jvm.Cond.code yX11_off cX11_off 3 (some .int) ∈ qTw := qm5 (List.mem_of_getElem? (i := 233) (by decide +kernel)) (by decide +kernel)
theorem yk_X11_off : qYk yX11_off 1 := ⟨⟨by decide +kernel, by decide +kernel⟩, by decide +kernel⟩
theorem ml_L_144 : Jvm.Cond.methodLink RL 144 yX11_off ∈ qTw := qm5 (List.mem_of_getElem? (i := 230) (by decide +kernel)) (by decide +kernel)
theorem kd_L_144 {C : qCx} {w : qWp} {cc : ByteArray} {nL dp n0 n1 pc : Nat} (h : qOk C w RL cc nL dp n0 n1) (d : decode cc pc = .ok (.invokevirtual 144, 3)) : qCallOk C w nL dp n0 n1 pc 2 1 yX11_off (.code yX11_off cX11_off 3 (some .int)) := kindV h d ml_L_144 im_X11_off se_X11_off in_ParentEve co_X11_off yk_X11_off (by decide)
theorem im_X13_off : Jvm.Cond.instanceMethod yX13_off ∈ qTw := qm9 (List.mem_of_getElem? (i := 103) (by decide +kernel)) (by decide +kernel)
theorem se_X13_off : Jvm.Cond.selects yX13_off.cls yX13_off yX13_off ∈ qTw := qm9 (List.mem_of_getElem? (i := 104) (by decide +kernel)) (by decide +kernel)
theorem co_X13_off : Jvm.Cond.code yX13_off cX13_off 6 (some .int) ∈ qTw := qm9 (List.mem_of_getElem? (i := 105) (by decide +kernel)) (by decide +kernel)
theorem yk_X13_off : qYk yX13_off 1 := ⟨⟨by decide +kernel, by decide +kernel⟩, by decide +kernel⟩
theorem ml_L_147 : Jvm.Cond.methodLink RL 147 yX13_off ∈ qTw := qm9 (List.mem_of_getElem? (i := 102) (by decide +kernel)) (by decide +kernel)
theorem kd_L_147 {C : qCx} {w : qWp} {cc : ByteArray} {nL dp n0 n1 pc : Nat} (h : qOk C w RL cc nL dp n0 n1) (d : decode cc pc = .ok (.invokevirtual 147, 3)) : qCallOk C w nL dp n0 n1 pc 2 1 yX13_off (.code yX13_off cX13_off 6 (some .int)) := kindV h d ml_L_147 im_X13_off se_X13_off in_ParentEveModel co_X13_off yk_X13_off (by decide)
theorem im_X11_next : Jvm.Cond.instanceMethod yX11_next ∈ qTw := qm6 (List.mem_of_getElem? (i := 11) (by decide +kernel)) (by decide +kernel)
theorem se_X11_next : Jvm.Cond.selects yX11_next.cls yX11_next yX11_next ∈ qTw := qm6 (List.mem_of_getElem? (i := 12) (by decide +kernel)) (by decide +kernel)
theorem co_X11_next : Jvm.Cond.code yX11_next cX11_next 4 (some .int) ∈ qTw := qm6 (List.mem_of_getElem? (i := 13) (by decide +kernel)) (by decide +kernel)
theorem yk_X11_next : qYk yX11_next 2 := ⟨⟨by decide +kernel, by decide +kernel⟩, by decide +kernel⟩
theorem ml_L_148 : Jvm.Cond.methodLink RL 148 yX11_next ∈ qTw := qm6 (List.mem_of_getElem? (i := 10) (by decide +kernel)) (by decide +kernel)
theorem kd_L_148 {C : qCx} {w : qWp} {cc : ByteArray} {nL dp n0 n1 pc : Nat} (h : qOk C w RL cc nL dp n0 n1) (d : decode cc pc = .ok (.invokevirtual 148, 3)) : qCallOk C w nL dp n0 n1 pc 3 1 yX11_next (.code yX11_next cX11_next 4 (some .int)) := kindV h d ml_L_148 im_X11_next se_X11_next in_ParentEve co_X11_next yk_X11_next (by decide)
theorem im_X13_next : Jvm.Cond.instanceMethod yX13_next ∈ qTw := qm9 (List.mem_of_getElem? (i := 107) (by decide +kernel)) (by decide +kernel)
theorem se_X13_next : Jvm.Cond.selects yX13_next.cls yX13_next yX13_next ∈ qTw := qm9 (List.mem_of_getElem? (i := 108) (by decide +kernel)) (by decide +kernel)
theorem co_X13_next : Jvm.Cond.code yX13_next cX13_next 3 (some .int) ∈ qTw := qm9 (List.mem_of_getElem? (i := 109) (by decide +kernel)) (by decide +kernel)
theorem yk_X13_next : qYk yX13_next 2 := ⟨⟨by decide +kernel, by decide +kernel⟩, by decide +kernel⟩
theorem ml_L_151 : Jvm.Cond.methodLink RL 151 yX13_next ∈ qTw := qm9 (List.mem_of_getElem? (i := 106) (by decide +kernel)) (by decide +kernel)
theorem kd_L_151 {C : qCx} {w : qWp} {cc : ByteArray} {nL dp n0 n1 pc : Nat} (h : qOk C w RL cc nL dp n0 n1) (d : decode cc pc = .ok (.invokevirtual 151, 3)) : qCallOk C w nL dp n0 n1 pc 3 1 yX13_next (.code yX13_next cX13_next 3 (some .int)) := kindV h d ml_L_151 im_X13_next se_X13_next in_ParentEveModel co_X13_next yk_X13_next (by decide)
theorem im_X11_messages : Jvm.Cond.instanceMethod yX11_messages ∈ qTw := qm6 (List.mem_of_getElem? (i := 19) (by decide +kernel)) (by decide +kernel)
theorem se_X11_messages : Jvm.Cond.selects yX11_messages.cls yX11_messages yX11_messages ∈ qTw := qm6 (List.mem_of_getElem? (i := 20) (by decide +kernel)) (by decide +kernel)
theorem co_X11_messages : Jvm.Cond.code yX11_messages cX11_messages 3 (some .int) ∈ qTw := qm6 (List.mem_of_getElem? (i := 21) (by decide +kernel)) (by decide +kernel)
theorem yk_X11_messages : qYk yX11_messages 1 := ⟨⟨by decide +kernel, by decide +kernel⟩, by decide +kernel⟩
theorem ml_L_152 : Jvm.Cond.methodLink RL 152 yX11_messages ∈ qTw := qm6 (List.mem_of_getElem? (i := 18) (by decide +kernel)) (by decide +kernel)
theorem kd_L_152 {C : qCx} {w : qWp} {cc : ByteArray} {nL dp n0 n1 pc : Nat} (h : qOk C w RL cc nL dp n0 n1) (d : decode cc pc = .ok (.invokevirtual 152, 3)) : qCallOk C w nL dp n0 n1 pc 2 1 yX11_messages (.code yX11_messages cX11_messages 3 (some .int)) := kindV h d ml_L_152 im_X11_messages se_X11_messages in_ParentEve co_X11_messages yk_X11_messages (by decide)
theorem im_X13_messages : Jvm.Cond.instanceMethod yX13_messages ∈ qTw := qm9 (List.mem_of_getElem? (i := 115) (by decide +kernel)) (by decide +kernel)
theorem se_X13_messages : Jvm.Cond.selects yX13_messages.cls yX13_messages yX13_messages ∈ qTw := qm9 (List.mem_of_getElem? (i := 116) (by decide +kernel)) (by decide +kernel)
theorem co_X13_messages : Jvm.Cond.code yX13_messages cX13_messages 8 (some .int) ∈ qTw := qm9 (List.mem_of_getElem? (i := 117) (by decide +kernel)) (by decide +kernel)
theorem yk_X13_messages : qYk yX13_messages 1 := ⟨⟨by decide +kernel, by decide +kernel⟩, by decide +kernel⟩
theorem ml_L_155 : Jvm.Cond.methodLink RL 155 yX13_messages ∈ qTw := qm9 (List.mem_of_getElem? (i := 114) (by decide +kernel)) (by decide +kernel)
theorem kd_L_155 {C : qCx} {w : qWp} {cc : ByteArray} {nL dp n0 n1 pc : Nat} (h : qOk C w RL cc nL dp n0 n1) (d : decode cc pc = .ok (.invokevirtual 155, 3)) : qCallOk C w nL dp n0 n1 pc 2 1 yX13_messages (.code yX13_messages cX13_messages 8 (some .int)) := kindV h d ml_L_155 im_X13_messages se_X13_messages in_ParentEveModel co_X13_messages yk_X13_messages (by decide)
theorem im_X11_mend : Jvm.Cond.instanceMethod yX11_mend ∈ qTw := qm6 (List.mem_of_getElem? (i := 38) (by decide +kernel)) (by decide +kernel)
theorem se_X11_mend : Jvm.Cond.selects yX11_mend.cls yX11_mend yX11_mend ∈ qTw := qm6 (List.mem_of_getElem? (i := 39) (by decide +kernel)) (by decide +kernel)
theorem co_X11_mend : Jvm.Cond.code yX11_mend cX11_mend 4 (some .int) ∈ qTw := qm6 (List.mem_of_getElem? (i := 40) (by decide +kernel)) (by decide +kernel)
theorem yk_X11_mend : qYk yX11_mend 1 := ⟨⟨by decide +kernel, by decide +kernel⟩, by decide +kernel⟩
theorem ml_L_156 : Jvm.Cond.methodLink RL 156 yX11_mend ∈ qTw := qm6 (List.mem_of_getElem? (i := 37) (by decide +kernel)) (by decide +kernel)
theorem kd_L_156 {C : qCx} {w : qWp} {cc : ByteArray} {nL dp n0 n1 pc : Nat} (h : qOk C w RL cc nL dp n0 n1) (d : decode cc pc = .ok (.invokevirtual 156, 3)) : qCallOk C w nL dp n0 n1 pc 2 1 yX11_mend (.code yX11_mend cX11_mend 4 (some .int)) := kindV h d ml_L_156 im_X11_mend se_X11_mend in_ParentEve co_X11_mend yk_X11_mend (by decide)
theorem im_X13_mend : Jvm.Cond.instanceMethod yX13_mend ∈ qTw := qm9 (List.mem_of_getElem? (i := 119) (by decide +kernel)) (by decide +kernel)
theorem se_X13_mend : Jvm.Cond.selects yX13_mend.cls yX13_mend yX13_mend ∈ qTw := qm9 (List.mem_of_getElem? (i := 120) (by decide +kernel)) (by decide +kernel)
theorem co_X13_mend : Jvm.Cond.code yX13_mend cX13_mend 6 (some .int) ∈ qTw := qm9 (List.mem_of_getElem? (i := 121) (by decide +kernel)) (by decide +kernel)
theorem yk_X13_mend : qYk yX13_mend 1 := ⟨⟨by decide +kernel, by decide +kernel⟩, by decide +kernel⟩
theorem ml_L_159 : Jvm.Cond.methodLink RL 159 yX13_mend ∈ qTw := qm9 (List.mem_of_getElem? (i := 118) (by decide +kernel)) (by decide +kernel)
theorem kd_L_159 {C : qCx} {w : qWp} {cc : ByteArray} {nL dp n0 n1 pc : Nat} (h : qOk C w RL cc nL dp n0 n1) (d : decode cc pc = .ok (.invokevirtual 159, 3)) : qCallOk C w nL dp n0 n1 pc 2 1 yX13_mend (.code yX13_mend cX13_mend 6 (some .int)) := kindV h d ml_L_159 im_X13_mend se_X13_mend in_ParentEveModel co_X13_mend yk_X13_mend (by decide)
theorem im_X11_note : Jvm.Cond.instanceMethod yX11_note ∈ qTw := qm6 (List.mem_of_getElem? (i := 57) (by decide +kernel)) (by decide +kernel)
theorem se_X11_note : Jvm.Cond.selects yX11_note.cls yX11_note yX11_note ∈ qTw := qm6 (List.mem_of_getElem? (i := 58) (by decide +kernel)) (by decide +kernel)
theorem co_X11_note : Jvm.Cond.code yX11_note cX11_note 3 (some .int) ∈ qTw := qm6 (List.mem_of_getElem? (i := 59) (by decide +kernel)) (by decide +kernel)
theorem yk_X11_note : qYk yX11_note 1 := ⟨⟨by decide +kernel, by decide +kernel⟩, by decide +kernel⟩
theorem ml_L_160 : Jvm.Cond.methodLink RL 160 yX11_note ∈ qTw := qm6 (List.mem_of_getElem? (i := 56) (by decide +kernel)) (by decide +kernel)
theorem kd_L_160 {C : qCx} {w : qWp} {cc : ByteArray} {nL dp n0 n1 pc : Nat} (h : qOk C w RL cc nL dp n0 n1) (d : decode cc pc = .ok (.invokevirtual 160, 3)) : qCallOk C w nL dp n0 n1 pc 2 1 yX11_note (.code yX11_note cX11_note 3 (some .int)) := kindV h d ml_L_160 im_X11_note se_X11_note in_ParentEve co_X11_note yk_X11_note (by decide)
theorem im_X13_note : Jvm.Cond.instanceMethod yX13_note ∈ qTw := qm9 (List.mem_of_getElem? (i := 123) (by decide +kernel)) (by decide +kernel)
theorem se_X13_note : Jvm.Cond.selects yX13_note.cls yX13_note yX13_note ∈ qTw := qm9 (List.mem_of_getElem? (i := 124) (by decide +kernel)) (by decide +kernel)
theorem co_X13_note : Jvm.Cond.code yX13_note cX13_note 3 (some .int) ∈ qTw := qm9 (List.mem_of_getElem? (i := 125) (by decide +kernel)) (by decide +kernel)
theorem yk_X13_note : qYk yX13_note 1 := ⟨⟨by decide +kernel, by decide +kernel⟩, by decide +kernel⟩
theorem ml_L_163 : Jvm.Cond.methodLink RL 163 yX13_note ∈ qTw := qm9 (List.mem_of_getElem? (i := 122) (by decide +kernel)) (by decide +kernel)
theorem kd_L_163 {C : qCx} {w : qWp} {cc : ByteArray} {nL dp n0 n1 pc : Nat} (h : qOk C w RL cc nL dp n0 n1) (d : decode cc pc = .ok (.invokevirtual 163, 3)) : qCallOk C w nL dp n0 n1 pc 2 1 yX13_note (.code yX13_note cX13_note 3 (some .int)) := kindV h d ml_L_163 im_X13_note se_X13_note in_ParentEveModel co_X13_note yk_X13_note (by decide)
theorem im_X11_let : Jvm.Cond.instanceMethod yX11_let ∈ qTw := qm6 (List.mem_of_getElem? (i := 71) (by decide +kernel)) (by decide +kernel)
theorem se_X11_let : Jvm.Cond.selects yX11_let.cls yX11_let yX11_let ∈ qTw := qm6 (List.mem_of_getElem? (i := 72) (by decide +kernel)) (by decide +kernel)
theorem co_X11_let : Jvm.Cond.code yX11_let cX11_let 4 (some .int) ∈ qTw := qm6 (List.mem_of_getElem? (i := 73) (by decide +kernel)) (by decide +kernel)
theorem yk_X11_let : qYk yX11_let 3 := ⟨⟨by decide +kernel, by decide +kernel⟩, by decide +kernel⟩
theorem ml_L_164 : Jvm.Cond.methodLink RL 164 yX11_let ∈ qTw := qm6 (List.mem_of_getElem? (i := 70) (by decide +kernel)) (by decide +kernel)
theorem kd_L_164 {C : qCx} {w : qWp} {cc : ByteArray} {nL dp n0 n1 pc : Nat} (h : qOk C w RL cc nL dp n0 n1) (d : decode cc pc = .ok (.invokevirtual 164, 3)) : qCallOk C w nL dp n0 n1 pc 4 1 yX11_let (.code yX11_let cX11_let 4 (some .int)) := kindV h d ml_L_164 im_X11_let se_X11_let in_ParentEve co_X11_let yk_X11_let (by decide)
theorem im_X13_let : Jvm.Cond.instanceMethod yX13_let ∈ qTw := qm9 (List.mem_of_getElem? (i := 129) (by decide +kernel)) (by decide +kernel)
theorem se_X13_let : Jvm.Cond.selects yX13_let.cls yX13_let yX13_let ∈ qTw := qm9 (List.mem_of_getElem? (i := 130) (by decide +kernel)) (by decide +kernel)
theorem co_X13_let : Jvm.Cond.code yX13_let cX13_let 5 (some .int) ∈ qTw := qm9 (List.mem_of_getElem? (i := 131) (by decide +kernel)) (by decide +kernel)
theorem yk_X13_let : qYk yX13_let 3 := ⟨⟨by decide +kernel, by decide +kernel⟩, by decide +kernel⟩
theorem ml_L_167 : Jvm.Cond.methodLink RL 167 yX13_let ∈ qTw := qm9 (List.mem_of_getElem? (i := 128) (by decide +kernel)) (by decide +kernel)
theorem kd_L_167 {C : qCx} {w : qWp} {cc : ByteArray} {nL dp n0 n1 pc : Nat} (h : qOk C w RL cc nL dp n0 n1) (d : decode cc pc = .ok (.invokevirtual 167, 3)) : qCallOk C w nL dp n0 n1 pc 4 1 yX13_let (.code yX13_let cX13_let 5 (some .int)) := kindV h d ml_L_167 im_X13_let se_X13_let in_ParentEveModel co_X13_let yk_X13_let (by decide)
theorem im_X11_read : Jvm.Cond.instanceMethod yX11_read ∈ qTw := qm6 (List.mem_of_getElem? (i := 80) (by decide +kernel)) (by decide +kernel)
theorem se_X11_read : Jvm.Cond.selects yX11_read.cls yX11_read yX11_read ∈ qTw := qm6 (List.mem_of_getElem? (i := 81) (by decide +kernel)) (by decide +kernel)
theorem co_X11_read : Jvm.Cond.code yX11_read cX11_read 4 (some .int) ∈ qTw := qm6 (List.mem_of_getElem? (i := 82) (by decide +kernel)) (by decide +kernel)
theorem yk_X11_read : qYk yX11_read 3 := ⟨⟨by decide +kernel, by decide +kernel⟩, by decide +kernel⟩
theorem ml_L_168 : Jvm.Cond.methodLink RL 168 yX11_read ∈ qTw := qm6 (List.mem_of_getElem? (i := 79) (by decide +kernel)) (by decide +kernel)
theorem kd_L_168 {C : qCx} {w : qWp} {cc : ByteArray} {nL dp n0 n1 pc : Nat} (h : qOk C w RL cc nL dp n0 n1) (d : decode cc pc = .ok (.invokevirtual 168, 3)) : qCallOk C w nL dp n0 n1 pc 4 1 yX11_read (.code yX11_read cX11_read 4 (some .int)) := kindV h d ml_L_168 im_X11_read se_X11_read in_ParentEve co_X11_read yk_X11_read (by decide)
theorem im_X13_read : Jvm.Cond.instanceMethod yX13_read ∈ qTw := qm9 (List.mem_of_getElem? (i := 133) (by decide +kernel)) (by decide +kernel)
theorem se_X13_read : Jvm.Cond.selects yX13_read.cls yX13_read yX13_read ∈ qTw := qm9 (List.mem_of_getElem? (i := 134) (by decide +kernel)) (by decide +kernel)
theorem co_X13_read : Jvm.Cond.code yX13_read cX13_read 4 (some .int) ∈ qTw := qm9 (List.mem_of_getElem? (i := 135) (by decide +kernel)) (by decide +kernel)
theorem yk_X13_read : qYk yX13_read 3 := ⟨⟨by decide +kernel, by decide +kernel⟩, by decide +kernel⟩
theorem ml_L_171 : Jvm.Cond.methodLink RL 171 yX13_read ∈ qTw := qm9 (List.mem_of_getElem? (i := 132) (by decide +kernel)) (by decide +kernel)
theorem kd_L_171 {C : qCx} {w : qWp} {cc : ByteArray} {nL dp n0 n1 pc : Nat} (h : qOk C w RL cc nL dp n0 n1) (d : decode cc pc = .ok (.invokevirtual 171, 3)) : qCallOk C w nL dp n0 n1 pc 4 1 yX13_read (.code yX13_read cX13_read 4 (some .int)) := kindV h d ml_L_171 im_X13_read se_X13_read in_ParentEveModel co_X13_read yk_X13_read (by decide)
theorem im_X11_find : Jvm.Cond.instanceMethod yX11_find ∈ qTw := qm6 (List.mem_of_getElem? (i := 93) (by decide +kernel)) (by decide +kernel)
theorem se_X11_find : Jvm.Cond.selects yX11_find.cls yX11_find yX11_find ∈ qTw := qm6 (List.mem_of_getElem? (i := 94) (by decide +kernel)) (by decide +kernel)
theorem co_X11_find : Jvm.Cond.code yX11_find cX11_find 3 (some .int) ∈ qTw := qm6 (List.mem_of_getElem? (i := 95) (by decide +kernel)) (by decide +kernel)
theorem yk_X11_find : qYk yX11_find 1 := ⟨⟨by decide +kernel, by decide +kernel⟩, by decide +kernel⟩
theorem ml_L_172 : Jvm.Cond.methodLink RL 172 yX11_find ∈ qTw := qm6 (List.mem_of_getElem? (i := 92) (by decide +kernel)) (by decide +kernel)
theorem kd_L_172 {C : qCx} {w : qWp} {cc : ByteArray} {nL dp n0 n1 pc : Nat} (h : qOk C w RL cc nL dp n0 n1) (d : decode cc pc = .ok (.invokevirtual 172, 3)) : qCallOk C w nL dp n0 n1 pc 2 1 yX11_find (.code yX11_find cX11_find 3 (some .int)) := kindV h d ml_L_172 im_X11_find se_X11_find in_ParentEve co_X11_find yk_X11_find (by decide)
theorem im_X13_find : Jvm.Cond.instanceMethod yX13_find ∈ qTw := qm9 (List.mem_of_getElem? (i := 141) (by decide +kernel)) (by decide +kernel)
theorem se_X13_find : Jvm.Cond.selects yX13_find.cls yX13_find yX13_find ∈ qTw := qm9 (List.mem_of_getElem? (i := 142) (by decide +kernel)) (by decide +kernel)
theorem co_X13_find : Jvm.Cond.code yX13_find cX13_find 3 (some .int) ∈ qTw := qm9 (List.mem_of_getElem? (i := 143) (by decide +kernel)) (by decide +kernel)
theorem yk_X13_find : qYk yX13_find 1 := ⟨⟨by decide +kernel, by decide +kernel⟩, by decide +kernel⟩
theorem ml_L_175 : Jvm.Cond.methodLink RL 175 yX13_find ∈ qTw := qm9 (List.mem_of_getElem? (i := 140) (by decide +kernel)) (by decide +kernel)
theorem kd_L_175 {C : qCx} {w : qWp} {cc : ByteArray} {nL dp n0 n1 pc : Nat} (h : qOk C w RL cc nL dp n0 n1) (d : decode cc pc = .ok (.invokevirtual 175, 3)) : qCallOk C w nL dp n0 n1 pc 2 1 yX13_find (.code yX13_find cX13_find 3 (some .int)) := kindV h d ml_L_175 im_X13_find se_X13_find in_ParentEveModel co_X13_find yk_X13_find (by decide)
theorem im_X11_found : Jvm.Cond.instanceMethod yX11_found ∈ qTw := qm6 (List.mem_of_getElem? (i := 121) (by decide +kernel)) (by decide +kernel)
theorem se_X11_found : Jvm.Cond.selects yX11_found.cls yX11_found yX11_found ∈ qTw := qm6 (List.mem_of_getElem? (i := 122) (by decide +kernel)) (by decide +kernel)
theorem co_X11_found : Jvm.Cond.code yX11_found cX11_found 2 (some .int) ∈ qTw := qm6 (List.mem_of_getElem? (i := 123) (by decide +kernel)) (by decide +kernel)
theorem yk_X11_found : qYk yX11_found 1 := ⟨⟨by decide +kernel, by decide +kernel⟩, by decide +kernel⟩
theorem ml_L_176 : Jvm.Cond.methodLink RL 176 yX11_found ∈ qTw := qm6 (List.mem_of_getElem? (i := 120) (by decide +kernel)) (by decide +kernel)
theorem kd_L_176 {C : qCx} {w : qWp} {cc : ByteArray} {nL dp n0 n1 pc : Nat} (h : qOk C w RL cc nL dp n0 n1) (d : decode cc pc = .ok (.invokevirtual 176, 3)) : qCallOk C w nL dp n0 n1 pc 2 1 yX11_found (.code yX11_found cX11_found 2 (some .int)) := kindV h d ml_L_176 im_X11_found se_X11_found in_ParentEve co_X11_found yk_X11_found (by decide)
theorem im_X13_found : Jvm.Cond.instanceMethod yX13_found ∈ qTw := qm9 (List.mem_of_getElem? (i := 157) (by decide +kernel)) (by decide +kernel)
theorem se_X13_found : Jvm.Cond.selects yX13_found.cls yX13_found yX13_found ∈ qTw := qm9 (List.mem_of_getElem? (i := 158) (by decide +kernel)) (by decide +kernel)
theorem co_X13_found : Jvm.Cond.code yX13_found cX13_found 2 (some .int) ∈ qTw := qm9 (List.mem_of_getElem? (i := 159) (by decide +kernel)) (by decide +kernel)
theorem yk_X13_found : qYk yX13_found 1 := ⟨⟨by decide +kernel, by decide +kernel⟩, by decide +kernel⟩
theorem ml_L_179 : Jvm.Cond.methodLink RL 179 yX13_found ∈ qTw := qm9 (List.mem_of_getElem? (i := 156) (by decide +kernel)) (by decide +kernel)
theorem kd_L_179 {C : qCx} {w : qWp} {cc : ByteArray} {nL dp n0 n1 pc : Nat} (h : qOk C w RL cc nL dp n0 n1) (d : decode cc pc = .ok (.invokevirtual 179, 3)) : qCallOk C w nL dp n0 n1 pc 2 1 yX13_found (.code yX13_found cX13_found 2 (some .int)) := kindV h d ml_L_179 im_X13_found se_X13_found in_ParentEveModel co_X13_found yk_X13_found (by decide)
theorem im_X11_count : Jvm.Cond.instanceMethod yX11_count ∈ qTw := qm6 (List.mem_of_getElem? (i := 129) (by decide +kernel)) (by decide +kernel)
theorem se_X11_count : Jvm.Cond.selects yX11_count.cls yX11_count yX11_count ∈ qTw := qm6 (List.mem_of_getElem? (i := 130) (by decide +kernel)) (by decide +kernel)
theorem co_X11_count : Jvm.Cond.code yX11_count cX11_count 2 (some .int) ∈ qTw := qm6 (List.mem_of_getElem? (i := 131) (by decide +kernel)) (by decide +kernel)
theorem yk_X11_count : qYk yX11_count 1 := ⟨⟨by decide +kernel, by decide +kernel⟩, by decide +kernel⟩
theorem ml_L_180 : Jvm.Cond.methodLink RL 180 yX11_count ∈ qTw := qm6 (List.mem_of_getElem? (i := 128) (by decide +kernel)) (by decide +kernel)
theorem kd_L_180 {C : qCx} {w : qWp} {cc : ByteArray} {nL dp n0 n1 pc : Nat} (h : qOk C w RL cc nL dp n0 n1) (d : decode cc pc = .ok (.invokevirtual 180, 3)) : qCallOk C w nL dp n0 n1 pc 2 1 yX11_count (.code yX11_count cX11_count 2 (some .int)) := kindV h d ml_L_180 im_X11_count se_X11_count in_ParentEve co_X11_count yk_X11_count (by decide)
theorem im_X13_count : Jvm.Cond.instanceMethod yX13_count ∈ qTw := qm9 (List.mem_of_getElem? (i := 161) (by decide +kernel)) (by decide +kernel)
theorem se_X13_count : Jvm.Cond.selects yX13_count.cls yX13_count yX13_count ∈ qTw := qm9 (List.mem_of_getElem? (i := 162) (by decide +kernel)) (by decide +kernel)
theorem co_X13_count : Jvm.Cond.code yX13_count cX13_count 4 (some .int) ∈ qTw := qm9 (List.mem_of_getElem? (i := 163) (by decide +kernel)) (by decide +kernel)
theorem yk_X13_count : qYk yX13_count 1 := ⟨⟨by decide +kernel, by decide +kernel⟩, by decide +kernel⟩
theorem ml_L_183 : Jvm.Cond.methodLink RL 183 yX13_count ∈ qTw := qm9 (List.mem_of_getElem? (i := 160) (by decide +kernel)) (by decide +kernel)
theorem kd_L_183 {C : qCx} {w : qWp} {cc : ByteArray} {nL dp n0 n1 pc : Nat} (h : qOk C w RL cc nL dp n0 n1) (d : decode cc pc = .ok (.invokevirtual 183, 3)) : qCallOk C w nL dp n0 n1 pc 2 1 yX13_count (.code yX13_count cX13_count 4 (some .int)) := kindV h d ml_L_183 im_X13_count se_X13_count in_ParentEveModel co_X13_count yk_X13_count (by decide)
noncomputable def fL_law_1111 (nA : Nat) (fA : Nat → Int32) (k10 : Int32 → qM → Option (Unit × qM)) (a3 : Int32) (m : qM) : Option (Unit × qM) :=
  k10 ((a3 + (6 : Int32))) m
noncomputable def tL_law_1111 (nA : Nat) (fA : Nat → Int32) (j10 : qT (Unit × qM)) : qT (Unit × qM) :=
  oInc 3 (6 : Int32) (j10)
noncomputable def wL_law_1111 (k : Int32 → qM → Option (Unit × qM)) : qT (Unit × qM) := fun lo st m => match lo, st with
  | [some (.ref 10020), some (.ref 0), some (.ref 98), some (.int a3)], [] => k a3 m
  | _, _ => none
noncomputable def wL_law_10 (k : Int32 → qM → Option (Unit × qM)) : qT (Unit × qM) := fun lo st m => match lo, st with
  | [some (.ref 10020), some (.ref 0), some (.ref 98), some (.int a3)], [] => k a3 m
  | _, _ => none
set_option maxRecDepth 20000 in
theorem sL_law_1111 {C : qCx} {w : qWp} {Qf : Unit × qM → State → Prop} {nA : Nat} {fA : Nat → Int32} (h : qOk C w RL cL_law 4 16 0 155) (hm : qLe C w Qf) (hS : qSc C w nA fA) {j10 : qT (Unit × qM)} (k10 : qSnd C w 4 0 Qf qfin 155 18 j10) : qSnd C w 4 0 Qf qfin 155 1579 (tL_law_1111 nA fA j10) :=
  cInc (pc := 1579) h dL_law_1579 rfl (jGo (pc := 1582) h dL_law_1582 rfl (k10))
set_option maxRecDepth 20000 in
theorem lL_law_1111 {nA : Nat} {fA : Nat → Int32} (k10 : Int32 → qM → Option (Unit × qM)) (a3 : Int32) (m : qM) : tL_law_1111 nA fA (wL_law_10 k10) [some (.ref 10020), some (.ref 0), some (.ref 98), some (.int a3)] [] m = fL_law_1111 nA fA k10 a3 m := rfl
theorem bL_law_1111 {C : qCx} {w : qWp} {Qf : Unit × qM → State → Prop} {nA : Nat} {fA : Nat → Int32} (h : qOk C w RL cL_law 4 16 0 155) (hm : qLe C w Qf) (hS : qSc C w nA fA) {k10 : Int32 → qM → Option (Unit × qM)} (h10 : qSnd C w 4 0 Qf qfin 155 18 (wL_law_10 k10)) : qSnd C w 4 0 Qf qfin 155 1579 (wL_law_1111 (fL_law_1111 nA fA k10)) :=
  qSnd_of (fun lo st m x hr0 => by
    unfold wL_law_1111 at hr0
    split at hr0
    · exact ⟨_, (qsub_e (qsub_e (qsub_e (qsub_e qsub_nil)))), (lL_law_1111 _ _ _).trans hr0⟩
    · cases hr0) (sL_law_1111 h hm hS h10)
noncomputable def fL_law_22 (nA : Nat) (fA : Nat → Int32) (k10 : Int32 → qM → Option (Unit × qM)) (a3 : Int32) (m : qM) : Option (Unit × qM) :=
  bif inb ((a3 + (1 : Int32))) nA then bif inb ((a3 + (2 : Int32))) nA then bif inb ((a3 + (3 : Int32))) nA then bif inb ((a3 + (4 : Int32))) nA then bif inb ((a3 + (5 : Int32))) nA then qbI (fX11_feed ((fA (ix ((a3 + (1 : Int32)))))) ((fA (ix ((a3 + (2 : Int32)))))) ((fA (ix ((a3 + (3 : Int32)))))) ((fA (ix ((a3 + (4 : Int32)))))) ((fA (ix ((a3 + (5 : Int32)))))) m) (fun x1 m2 => bif inb ((a3 + (1 : Int32))) nA then bif inb ((a3 + (2 : Int32))) nA then bif inb ((a3 + (3 : Int32))) nA then bif inb ((a3 + (4 : Int32))) nA then bif inb ((a3 + (5 : Int32))) nA then qbI (fX13_feed ((fA (ix ((a3 + (1 : Int32)))))) ((fA (ix ((a3 + (2 : Int32)))))) ((fA (ix ((a3 + (3 : Int32)))))) ((fA (ix ((a3 + (4 : Int32)))))) ((fA (ix ((a3 + (5 : Int32)))))) m2) (fun x3 m4 => bif eqb x1 x3 then fL_law_1111 nA fA k10 a3 m4 else bif eqb ((0 : Int32)) (1 : Int32) then some ((), m4) else none) else none else none else none else none else none) else none else none else none else none else none
noncomputable def tL_law_22 (nA : Nat) (fA : Nat → Int32) (j1111 : qT (Unit × qM)) : qT (Unit × qM) :=
  oLa 1 (oLa 0 (oLi 3 (oC (.int (1 : Int32)) (o2 (· + ·) (oAx 10020 nA fA (oLa 0 (oLi 3 (oC (.int (2 : Int32)) (o2 (· + ·) (oAx 10020 nA fA (oLa 0 (oLi 3 (oC (.int (3 : Int32)) (o2 (· + ·) (oAx 10020 nA fA (oLa 0 (oLi 3 (oC (.int (4 : Int32)) (o2 (· + ·) (oAx 10020 nA fA (oLa 0 (oLi 3 (oC (.int (5 : Int32)) (o2 (· + ·) (oAx 10020 nA fA (oCi GX11_feed 6 (oLa 2 (oLa 0 (oLi 3 (oC (.int (1 : Int32)) (o2 (· + ·) (oAx 10020 nA fA (oLa 0 (oLi 3 (oC (.int (2 : Int32)) (o2 (· + ·) (oAx 10020 nA fA (oLa 0 (oLi 3 (oC (.int (3 : Int32)) (o2 (· + ·) (oAx 10020 nA fA (oLa 0 (oLi 3 (oC (.int (4 : Int32)) (o2 (· + ·) (oAx 10020 nA fA (oLa 0 (oLi 3 (oC (.int (5 : Int32)) (o2 (· + ·) (oAx 10020 nA fA (oCi GX13_feed 6 (oCEq (j1111) (oC (.int (0 : Int32)) (eLaw))))))))))))))))))))))))))))))))))))))))))))))))))))))))
noncomputable def wL_law_22 (k : Int32 → qM → Option (Unit × qM)) : qT (Unit × qM) := fun lo st m => match lo, st with
  | [some (.ref 10020), some (.ref 0), some (.ref 98), some (.int a3)], [] => k a3 m
  | _, _ => none
set_option maxRecDepth 20000 in
theorem sL_law_22 {C : qCx} {w : qWp} {Qf : Unit × qM → State → Prop} {nA : Nat} {fA : Nat → Int32} (h : qOk C w RL cL_law 4 16 0 155) (hm : qLe C w Qf) (hS : qSc C w nA fA) {j1111 : qT (Unit × qM)} (k1111 : qSnd C w 4 0 Qf qfin 155 1579 j1111) : qSnd C w 4 0 Qf qfin 155 212 (tL_law_22 nA fA j1111) :=
  cLa (pc := 212) h dL_law_212 rfl (cLa (pc := 213) h dL_law_213 rfl (cLi (pc := 214) h dL_law_214 rfl (cC (pc := 215) h dL_law_215 rfl (aAdd (pc := 216) h dL_law_216 (rAx (pc := 217) hS h dL_law_217 (cLa (pc := 218) h dL_law_218 rfl (cLi (pc := 219) h dL_law_219 rfl (cC (pc := 220) h dL_law_220 rfl (aAdd (pc := 221) h dL_law_221 (rAx (pc := 222) hS h dL_law_222 (cLa (pc := 223) h dL_law_223 rfl (cLi (pc := 224) h dL_law_224 rfl (cC (pc := 225) h dL_law_225 rfl (aAdd (pc := 226) h dL_law_226 (rAx (pc := 227) hS h dL_law_227 (cLa (pc := 228) h dL_law_228 rfl (cLi (pc := 229) h dL_law_229 rfl (cC (pc := 230) h dL_law_230 rfl (aAdd (pc := 231) h dL_law_231 (rAx (pc := 232) hS h dL_law_232 (cLa (pc := 233) h dL_law_233 rfl (cLi (pc := 234) h dL_law_234 rfl (cC (pc := 235) h dL_law_235 rfl (aAdd (pc := 236) h dL_law_236 (rAx (pc := 237) hS h dL_law_237 (kCi (pc := 238) h (kd_L_13 h dL_law_238) spX11_feed (by decide) (by decide) (by decide) (by decide) (cLa (pc := 241) h dL_law_241 rfl (cLa (pc := 242) h dL_law_242 rfl (cLi (pc := 243) h dL_law_243 rfl (cC (pc := 244) h dL_law_244 rfl (aAdd (pc := 245) h dL_law_245 (rAx (pc := 246) hS h dL_law_246 (cLa (pc := 247) h dL_law_247 rfl (cLi (pc := 248) h dL_law_248 rfl (cC (pc := 249) h dL_law_249 rfl (aAdd (pc := 250) h dL_law_250 (rAx (pc := 251) hS h dL_law_251 (cLa (pc := 252) h dL_law_252 rfl (cLi (pc := 253) h dL_law_253 rfl (cC (pc := 254) h dL_law_254 rfl (aAdd (pc := 255) h dL_law_255 (rAx (pc := 256) hS h dL_law_256 (cLa (pc := 257) h dL_law_257 rfl (cLi (pc := 258) h dL_law_258 rfl (cC (pc := 259) h dL_law_259 rfl (aAdd (pc := 260) h dL_law_260 (rAx (pc := 261) hS h dL_law_261 (cLa (pc := 262) h dL_law_262 rfl (cLi (pc := 263) h dL_law_263 rfl (cC (pc := 264) h dL_law_264 rfl (aAdd (pc := 265) h dL_law_265 (rAx (pc := 266) hS h dL_law_266 (kCi (pc := 267) h (kd_L_17 h dL_law_267) spX13_feed (by decide) (by decide) (by decide) (by decide) (jCEq (pc := 270) h dL_law_270 rfl (k1111) (cC (pc := 273) h dL_law_273 rfl (zLaw (pc := 274) hm dL_law_274))))))))))))))))))))))))))))))))))))))))))))))))))))))))
set_option maxRecDepth 20000 in
theorem lL_law_22 {nA : Nat} {fA : Nat → Int32} (k10 : Int32 → qM → Option (Unit × qM)) (a3 : Int32) (m : qM) : tL_law_22 nA fA (wL_law_1111 (fL_law_1111 nA fA k10)) [some (.ref 10020), some (.ref 0), some (.ref 98), some (.int a3)] [] m = fL_law_22 nA fA k10 a3 m := rfl
theorem bL_law_22 {C : qCx} {w : qWp} {Qf : Unit × qM → State → Prop} {nA : Nat} {fA : Nat → Int32} (h : qOk C w RL cL_law 4 16 0 155) (hm : qLe C w Qf) (hS : qSc C w nA fA) {k10 : Int32 → qM → Option (Unit × qM)} (h10 : qSnd C w 4 0 Qf qfin 155 18 (wL_law_10 k10)) : qSnd C w 4 0 Qf qfin 155 212 (wL_law_22 (fL_law_22 nA fA k10)) :=
  qSnd_of (fun lo st m x hr0 => by
    unfold wL_law_22 at hr0
    split at hr0
    · exact ⟨_, (qsub_e (qsub_e (qsub_e (qsub_e qsub_nil)))), (lL_law_22 _ _ _).trans hr0⟩
    · cases hr0) (sL_law_22 h hm hS (bL_law_1111 h hm hS h10))
noncomputable def fL_law_79 (nA : Nat) (fA : Nat → Int32) (k10 : Int32 → qM → Option (Unit × qM)) (a3 : Int32) (m : qM) : Option (Unit × qM) :=
  bif inb ((a3 + (1 : Int32))) nA then qbI (fX11_end ((fA (ix ((a3 + (1 : Int32)))))) m) (fun x5 m6 => bif inb ((a3 + (1 : Int32))) nA then qbI (fX13_end ((fA (ix ((a3 + (1 : Int32)))))) m6) (fun x7 m8 => bif eqb x5 x7 then fL_law_1111 nA fA k10 a3 m8 else bif eqb ((0 : Int32)) (1 : Int32) then some ((), m8) else none) else none) else none
noncomputable def tL_law_79 (nA : Nat) (fA : Nat → Int32) (j1111 : qT (Unit × qM)) : qT (Unit × qM) :=
  oLa 1 (oLa 0 (oLi 3 (oC (.int (1 : Int32)) (o2 (· + ·) (oAx 10020 nA fA (oCi GX11_end 2 (oLa 2 (oLa 0 (oLi 3 (oC (.int (1 : Int32)) (o2 (· + ·) (oAx 10020 nA fA (oCi GX13_end 2 (oCEq (j1111) (oC (.int (0 : Int32)) (eLaw))))))))))))))))
noncomputable def wL_law_79 (k : Int32 → qM → Option (Unit × qM)) : qT (Unit × qM) := fun lo st m => match lo, st with
  | [some (.ref 10020), some (.ref 0), some (.ref 98), some (.int a3)], [] => k a3 m
  | _, _ => none
set_option maxRecDepth 20000 in
theorem sL_law_79 {C : qCx} {w : qWp} {Qf : Unit × qM → State → Prop} {nA : Nat} {fA : Nat → Int32} (h : qOk C w RL cL_law 4 16 0 155) (hm : qLe C w Qf) (hS : qSc C w nA fA) {j1111 : qT (Unit × qM)} (k1111 : qSnd C w 4 0 Qf qfin 155 1579 j1111) : qSnd C w 4 0 Qf qfin 155 275 (tL_law_79 nA fA j1111) :=
  cLa (pc := 275) h dL_law_275 rfl (cLa (pc := 276) h dL_law_276 rfl (cLi (pc := 277) h dL_law_277 rfl (cC (pc := 278) h dL_law_278 rfl (aAdd (pc := 279) h dL_law_279 (rAx (pc := 280) hS h dL_law_280 (kCi (pc := 281) h (kd_L_18 h dL_law_281) spX11_end (by decide) (by decide) (by decide) (by decide) (cLa (pc := 284) h dL_law_284 rfl (cLa (pc := 285) h dL_law_285 rfl (cLi (pc := 286) h dL_law_286 rfl (cC (pc := 287) h dL_law_287 rfl (aAdd (pc := 288) h dL_law_288 (rAx (pc := 289) hS h dL_law_289 (kCi (pc := 290) h (kd_L_22 h dL_law_290) spX13_end (by decide) (by decide) (by decide) (by decide) (jCEq (pc := 293) h dL_law_293 rfl (k1111) (cC (pc := 296) h dL_law_296 rfl (zLaw (pc := 297) hm dL_law_297))))))))))))))))
set_option maxRecDepth 20000 in
theorem lL_law_79 {nA : Nat} {fA : Nat → Int32} (k10 : Int32 → qM → Option (Unit × qM)) (a3 : Int32) (m : qM) : tL_law_79 nA fA (wL_law_1111 (fL_law_1111 nA fA k10)) [some (.ref 10020), some (.ref 0), some (.ref 98), some (.int a3)] [] m = fL_law_79 nA fA k10 a3 m := rfl
theorem bL_law_79 {C : qCx} {w : qWp} {Qf : Unit × qM → State → Prop} {nA : Nat} {fA : Nat → Int32} (h : qOk C w RL cL_law 4 16 0 155) (hm : qLe C w Qf) (hS : qSc C w nA fA) {k10 : Int32 → qM → Option (Unit × qM)} (h10 : qSnd C w 4 0 Qf qfin 155 18 (wL_law_10 k10)) : qSnd C w 4 0 Qf qfin 155 275 (wL_law_79 (fL_law_79 nA fA k10)) :=
  qSnd_of (fun lo st m x hr0 => by
    unfold wL_law_79 at hr0
    split at hr0
    · exact ⟨_, (qsub_e (qsub_e (qsub_e (qsub_e qsub_nil)))), (lL_law_79 _ _ _).trans hr0⟩
    · cases hr0) (sL_law_79 h hm hS (bL_law_1111 h hm hS h10))
noncomputable def fL_law_96 (nA : Nat) (fA : Nat → Int32) (k10 : Int32 → qM → Option (Unit × qM)) (a3 : Int32) (m : qM) : Option (Unit × qM) :=
  qbI (fX11_rules m) (fun x9 m10 => qbI (fX13_rules m10) (fun x11 m12 => bif eqb x9 x11 then fL_law_1111 nA fA k10 a3 m12 else bif eqb ((0 : Int32)) (1 : Int32) then some ((), m12) else none))
noncomputable def tL_law_96 (nA : Nat) (fA : Nat → Int32) (j1111 : qT (Unit × qM)) : qT (Unit × qM) :=
  oLa 1 (oCi GX11_rules 1 (oLa 2 (oCi GX13_rules 1 (oCEq (j1111) (oC (.int (0 : Int32)) (eLaw))))))
noncomputable def wL_law_96 (k : Int32 → qM → Option (Unit × qM)) : qT (Unit × qM) := fun lo st m => match lo, st with
  | [some (.ref 10020), some (.ref 0), some (.ref 98), some (.int a3)], [] => k a3 m
  | _, _ => none
set_option maxRecDepth 20000 in
theorem sL_law_96 {C : qCx} {w : qWp} {Qf : Unit × qM → State → Prop} {nA : Nat} {fA : Nat → Int32} (h : qOk C w RL cL_law 4 16 0 155) (hm : qLe C w Qf) (hS : qSc C w nA fA) {j1111 : qT (Unit × qM)} (k1111 : qSnd C w 4 0 Qf qfin 155 1579 j1111) : qSnd C w 4 0 Qf qfin 155 298 (tL_law_96 nA fA j1111) :=
  cLa (pc := 298) h dL_law_298 rfl (kCi (pc := 299) h (kd_L_23 h dL_law_299) spX11_rules (by decide) (by decide) (by decide) (by decide) (cLa (pc := 302) h dL_law_302 rfl (kCi (pc := 303) h (kd_L_27 h dL_law_303) spX13_rules (by decide) (by decide) (by decide) (by decide) (jCEq (pc := 306) h dL_law_306 rfl (k1111) (cC (pc := 309) h dL_law_309 rfl (zLaw (pc := 310) hm dL_law_310))))))
set_option maxRecDepth 20000 in
theorem lL_law_96 {nA : Nat} {fA : Nat → Int32} (k10 : Int32 → qM → Option (Unit × qM)) (a3 : Int32) (m : qM) : tL_law_96 nA fA (wL_law_1111 (fL_law_1111 nA fA k10)) [some (.ref 10020), some (.ref 0), some (.ref 98), some (.int a3)] [] m = fL_law_96 nA fA k10 a3 m := rfl
theorem bL_law_96 {C : qCx} {w : qWp} {Qf : Unit × qM → State → Prop} {nA : Nat} {fA : Nat → Int32} (h : qOk C w RL cL_law 4 16 0 155) (hm : qLe C w Qf) (hS : qSc C w nA fA) {k10 : Int32 → qM → Option (Unit × qM)} (h10 : qSnd C w 4 0 Qf qfin 155 18 (wL_law_10 k10)) : qSnd C w 4 0 Qf qfin 155 298 (wL_law_96 (fL_law_96 nA fA k10)) :=
  qSnd_of (fun lo st m x hr0 => by
    unfold wL_law_96 at hr0
    split at hr0
    · exact ⟨_, (qsub_e (qsub_e (qsub_e (qsub_e qsub_nil)))), (lL_law_96 _ _ _).trans hr0⟩
    · cases hr0) (sL_law_96 h hm hS (bL_law_1111 h hm hS h10))
noncomputable def fL_law_103 (nA : Nat) (fA : Nat → Int32) (k10 : Int32 → qM → Option (Unit × qM)) (a3 : Int32) (m : qM) : Option (Unit × qM) :=
  bif inb ((a3 + (1 : Int32))) nA then qbI (fX11_rule ((fA (ix ((a3 + (1 : Int32)))))) m) (fun x13 m14 => bif inb ((a3 + (1 : Int32))) nA then qbI (fX13_rule ((fA (ix ((a3 + (1 : Int32)))))) m14) (fun x15 m16 => bif eqb x13 x15 then fL_law_1111 nA fA k10 a3 m16 else bif eqb ((0 : Int32)) (1 : Int32) then some ((), m16) else none) else none) else none
noncomputable def tL_law_103 (nA : Nat) (fA : Nat → Int32) (j1111 : qT (Unit × qM)) : qT (Unit × qM) :=
  oLa 1 (oLa 0 (oLi 3 (oC (.int (1 : Int32)) (o2 (· + ·) (oAx 10020 nA fA (oCi GX11_rule 2 (oLa 2 (oLa 0 (oLi 3 (oC (.int (1 : Int32)) (o2 (· + ·) (oAx 10020 nA fA (oCi GX13_rule 2 (oCEq (j1111) (oC (.int (0 : Int32)) (eLaw))))))))))))))))
noncomputable def wL_law_103 (k : Int32 → qM → Option (Unit × qM)) : qT (Unit × qM) := fun lo st m => match lo, st with
  | [some (.ref 10020), some (.ref 0), some (.ref 98), some (.int a3)], [] => k a3 m
  | _, _ => none
set_option maxRecDepth 20000 in
theorem sL_law_103 {C : qCx} {w : qWp} {Qf : Unit × qM → State → Prop} {nA : Nat} {fA : Nat → Int32} (h : qOk C w RL cL_law 4 16 0 155) (hm : qLe C w Qf) (hS : qSc C w nA fA) {j1111 : qT (Unit × qM)} (k1111 : qSnd C w 4 0 Qf qfin 155 1579 j1111) : qSnd C w 4 0 Qf qfin 155 311 (tL_law_103 nA fA j1111) :=
  cLa (pc := 311) h dL_law_311 rfl (cLa (pc := 312) h dL_law_312 rfl (cLi (pc := 313) h dL_law_313 rfl (cC (pc := 314) h dL_law_314 rfl (aAdd (pc := 315) h dL_law_315 (rAx (pc := 316) hS h dL_law_316 (kCi (pc := 317) h (kd_L_28 h dL_law_317) spX11_rule (by decide) (by decide) (by decide) (by decide) (cLa (pc := 320) h dL_law_320 rfl (cLa (pc := 321) h dL_law_321 rfl (cLi (pc := 322) h dL_law_322 rfl (cC (pc := 323) h dL_law_323 rfl (aAdd (pc := 324) h dL_law_324 (rAx (pc := 325) hS h dL_law_325 (kCi (pc := 326) h (kd_L_31 h dL_law_326) spX13_rule (by decide) (by decide) (by decide) (by decide) (jCEq (pc := 329) h dL_law_329 rfl (k1111) (cC (pc := 332) h dL_law_332 rfl (zLaw (pc := 333) hm dL_law_333))))))))))))))))
set_option maxRecDepth 20000 in
theorem lL_law_103 {nA : Nat} {fA : Nat → Int32} (k10 : Int32 → qM → Option (Unit × qM)) (a3 : Int32) (m : qM) : tL_law_103 nA fA (wL_law_1111 (fL_law_1111 nA fA k10)) [some (.ref 10020), some (.ref 0), some (.ref 98), some (.int a3)] [] m = fL_law_103 nA fA k10 a3 m := rfl
theorem bL_law_103 {C : qCx} {w : qWp} {Qf : Unit × qM → State → Prop} {nA : Nat} {fA : Nat → Int32} (h : qOk C w RL cL_law 4 16 0 155) (hm : qLe C w Qf) (hS : qSc C w nA fA) {k10 : Int32 → qM → Option (Unit × qM)} (h10 : qSnd C w 4 0 Qf qfin 155 18 (wL_law_10 k10)) : qSnd C w 4 0 Qf qfin 155 311 (wL_law_103 (fL_law_103 nA fA k10)) :=
  qSnd_of (fun lo st m x hr0 => by
    unfold wL_law_103 at hr0
    split at hr0
    · exact ⟨_, (qsub_e (qsub_e (qsub_e (qsub_e qsub_nil)))), (lL_law_103 _ _ _).trans hr0⟩
    · cases hr0) (sL_law_103 h hm hS (bL_law_1111 h hm hS h10))
noncomputable def fL_law_120 (nA : Nat) (fA : Nat → Int32) (k10 : Int32 → qM → Option (Unit × qM)) (a3 : Int32) (m : qM) : Option (Unit × qM) :=
  bif inb ((a3 + (1 : Int32))) nA then qbI (fX11_policy ((fA (ix ((a3 + (1 : Int32)))))) m) (fun x17 m18 => bif inb ((a3 + (1 : Int32))) nA then qbI (fX13_policy ((fA (ix ((a3 + (1 : Int32)))))) m18) (fun x19 m20 => bif eqb x17 x19 then fL_law_1111 nA fA k10 a3 m20 else bif eqb ((0 : Int32)) (1 : Int32) then some ((), m20) else none) else none) else none
noncomputable def tL_law_120 (nA : Nat) (fA : Nat → Int32) (j1111 : qT (Unit × qM)) : qT (Unit × qM) :=
  oLa 1 (oLa 0 (oLi 3 (oC (.int (1 : Int32)) (o2 (· + ·) (oAx 10020 nA fA (oCi GX11_policy 2 (oLa 2 (oLa 0 (oLi 3 (oC (.int (1 : Int32)) (o2 (· + ·) (oAx 10020 nA fA (oCi GX13_policy 2 (oCEq (j1111) (oC (.int (0 : Int32)) (eLaw))))))))))))))))
noncomputable def wL_law_120 (k : Int32 → qM → Option (Unit × qM)) : qT (Unit × qM) := fun lo st m => match lo, st with
  | [some (.ref 10020), some (.ref 0), some (.ref 98), some (.int a3)], [] => k a3 m
  | _, _ => none
set_option maxRecDepth 20000 in
theorem sL_law_120 {C : qCx} {w : qWp} {Qf : Unit × qM → State → Prop} {nA : Nat} {fA : Nat → Int32} (h : qOk C w RL cL_law 4 16 0 155) (hm : qLe C w Qf) (hS : qSc C w nA fA) {j1111 : qT (Unit × qM)} (k1111 : qSnd C w 4 0 Qf qfin 155 1579 j1111) : qSnd C w 4 0 Qf qfin 155 334 (tL_law_120 nA fA j1111) :=
  cLa (pc := 334) h dL_law_334 rfl (cLa (pc := 335) h dL_law_335 rfl (cLi (pc := 336) h dL_law_336 rfl (cC (pc := 337) h dL_law_337 rfl (aAdd (pc := 338) h dL_law_338 (rAx (pc := 339) hS h dL_law_339 (kCi (pc := 340) h (kd_L_32 h dL_law_340) spX11_policy (by decide) (by decide) (by decide) (by decide) (cLa (pc := 343) h dL_law_343 rfl (cLa (pc := 344) h dL_law_344 rfl (cLi (pc := 345) h dL_law_345 rfl (cC (pc := 346) h dL_law_346 rfl (aAdd (pc := 347) h dL_law_347 (rAx (pc := 348) hS h dL_law_348 (kCi (pc := 349) h (kd_L_35 h dL_law_349) spX13_policy (by decide) (by decide) (by decide) (by decide) (jCEq (pc := 352) h dL_law_352 rfl (k1111) (cC (pc := 355) h dL_law_355 rfl (zLaw (pc := 356) hm dL_law_356))))))))))))))))
set_option maxRecDepth 20000 in
theorem lL_law_120 {nA : Nat} {fA : Nat → Int32} (k10 : Int32 → qM → Option (Unit × qM)) (a3 : Int32) (m : qM) : tL_law_120 nA fA (wL_law_1111 (fL_law_1111 nA fA k10)) [some (.ref 10020), some (.ref 0), some (.ref 98), some (.int a3)] [] m = fL_law_120 nA fA k10 a3 m := rfl
theorem bL_law_120 {C : qCx} {w : qWp} {Qf : Unit × qM → State → Prop} {nA : Nat} {fA : Nat → Int32} (h : qOk C w RL cL_law 4 16 0 155) (hm : qLe C w Qf) (hS : qSc C w nA fA) {k10 : Int32 → qM → Option (Unit × qM)} (h10 : qSnd C w 4 0 Qf qfin 155 18 (wL_law_10 k10)) : qSnd C w 4 0 Qf qfin 155 334 (wL_law_120 (fL_law_120 nA fA k10)) :=
  qSnd_of (fun lo st m x hr0 => by
    unfold wL_law_120 at hr0
    split at hr0
    · exact ⟨_, (qsub_e (qsub_e (qsub_e (qsub_e qsub_nil)))), (lL_law_120 _ _ _).trans hr0⟩
    · cases hr0) (sL_law_120 h hm hS (bL_law_1111 h hm hS h10))
noncomputable def fL_law_137 (nA : Nat) (fA : Nat → Int32) (k10 : Int32 → qM → Option (Unit × qM)) (a3 : Int32) (m : qM) : Option (Unit × qM) :=
  bif inb ((a3 + (1 : Int32))) nA then bif inb ((a3 + (2 : Int32))) nA then qbI (fX11_follow ((fA (ix ((a3 + (1 : Int32)))))) ((fA (ix ((a3 + (2 : Int32)))))) m) (fun x21 m22 => bif inb ((a3 + (1 : Int32))) nA then bif inb ((a3 + (2 : Int32))) nA then qbI (fX13_follow ((fA (ix ((a3 + (1 : Int32)))))) ((fA (ix ((a3 + (2 : Int32)))))) m22) (fun x23 m24 => bif eqb x21 x23 then fL_law_1111 nA fA k10 a3 m24 else bif eqb ((0 : Int32)) (1 : Int32) then some ((), m24) else none) else none else none) else none else none
noncomputable def tL_law_137 (nA : Nat) (fA : Nat → Int32) (j1111 : qT (Unit × qM)) : qT (Unit × qM) :=
  oLa 1 (oLa 0 (oLi 3 (oC (.int (1 : Int32)) (o2 (· + ·) (oAx 10020 nA fA (oLa 0 (oLi 3 (oC (.int (2 : Int32)) (o2 (· + ·) (oAx 10020 nA fA (oCi GX11_follow 3 (oLa 2 (oLa 0 (oLi 3 (oC (.int (1 : Int32)) (o2 (· + ·) (oAx 10020 nA fA (oLa 0 (oLi 3 (oC (.int (2 : Int32)) (o2 (· + ·) (oAx 10020 nA fA (oCi GX13_follow 3 (oCEq (j1111) (oC (.int (0 : Int32)) (eLaw))))))))))))))))))))))))))
noncomputable def wL_law_137 (k : Int32 → qM → Option (Unit × qM)) : qT (Unit × qM) := fun lo st m => match lo, st with
  | [some (.ref 10020), some (.ref 0), some (.ref 98), some (.int a3)], [] => k a3 m
  | _, _ => none
set_option maxRecDepth 20000 in
theorem sL_law_137 {C : qCx} {w : qWp} {Qf : Unit × qM → State → Prop} {nA : Nat} {fA : Nat → Int32} (h : qOk C w RL cL_law 4 16 0 155) (hm : qLe C w Qf) (hS : qSc C w nA fA) {j1111 : qT (Unit × qM)} (k1111 : qSnd C w 4 0 Qf qfin 155 1579 j1111) : qSnd C w 4 0 Qf qfin 155 357 (tL_law_137 nA fA j1111) :=
  cLa (pc := 357) h dL_law_357 rfl (cLa (pc := 358) h dL_law_358 rfl (cLi (pc := 359) h dL_law_359 rfl (cC (pc := 360) h dL_law_360 rfl (aAdd (pc := 361) h dL_law_361 (rAx (pc := 362) hS h dL_law_362 (cLa (pc := 363) h dL_law_363 rfl (cLi (pc := 364) h dL_law_364 rfl (cC (pc := 365) h dL_law_365 rfl (aAdd (pc := 366) h dL_law_366 (rAx (pc := 367) hS h dL_law_367 (kCi (pc := 368) h (kd_L_36 h dL_law_368) spX11_follow (by decide) (by decide) (by decide) (by decide) (cLa (pc := 371) h dL_law_371 rfl (cLa (pc := 372) h dL_law_372 rfl (cLi (pc := 373) h dL_law_373 rfl (cC (pc := 374) h dL_law_374 rfl (aAdd (pc := 375) h dL_law_375 (rAx (pc := 376) hS h dL_law_376 (cLa (pc := 377) h dL_law_377 rfl (cLi (pc := 378) h dL_law_378 rfl (cC (pc := 379) h dL_law_379 rfl (aAdd (pc := 380) h dL_law_380 (rAx (pc := 381) hS h dL_law_381 (kCi (pc := 382) h (kd_L_40 h dL_law_382) spX13_follow (by decide) (by decide) (by decide) (by decide) (jCEq (pc := 385) h dL_law_385 rfl (k1111) (cC (pc := 388) h dL_law_388 rfl (zLaw (pc := 389) hm dL_law_389))))))))))))))))))))))))))
set_option maxRecDepth 20000 in
theorem lL_law_137 {nA : Nat} {fA : Nat → Int32} (k10 : Int32 → qM → Option (Unit × qM)) (a3 : Int32) (m : qM) : tL_law_137 nA fA (wL_law_1111 (fL_law_1111 nA fA k10)) [some (.ref 10020), some (.ref 0), some (.ref 98), some (.int a3)] [] m = fL_law_137 nA fA k10 a3 m := rfl
theorem bL_law_137 {C : qCx} {w : qWp} {Qf : Unit × qM → State → Prop} {nA : Nat} {fA : Nat → Int32} (h : qOk C w RL cL_law 4 16 0 155) (hm : qLe C w Qf) (hS : qSc C w nA fA) {k10 : Int32 → qM → Option (Unit × qM)} (h10 : qSnd C w 4 0 Qf qfin 155 18 (wL_law_10 k10)) : qSnd C w 4 0 Qf qfin 155 357 (wL_law_137 (fL_law_137 nA fA k10)) :=
  qSnd_of (fun lo st m x hr0 => by
    unfold wL_law_137 at hr0
    split at hr0
    · exact ⟨_, (qsub_e (qsub_e (qsub_e (qsub_e qsub_nil)))), (lL_law_137 _ _ _).trans hr0⟩
    · cases hr0) (sL_law_137 h hm hS (bL_law_1111 h hm hS h10))
noncomputable def fL_law_164 (nA : Nat) (fA : Nat → Int32) (k10 : Int32 → qM → Option (Unit × qM)) (a3 : Int32) (m : qM) : Option (Unit × qM) :=
  bif inb ((a3 + (1 : Int32))) nA then qbI (fX11_fault ((fA (ix ((a3 + (1 : Int32)))))) m) (fun x25 m26 => bif inb ((a3 + (1 : Int32))) nA then qbI (fX13_fault ((fA (ix ((a3 + (1 : Int32)))))) m26) (fun x27 m28 => bif eqb x25 x27 then fL_law_1111 nA fA k10 a3 m28 else bif eqb ((0 : Int32)) (1 : Int32) then some ((), m28) else none) else none) else none
noncomputable def tL_law_164 (nA : Nat) (fA : Nat → Int32) (j1111 : qT (Unit × qM)) : qT (Unit × qM) :=
  oLa 1 (oLa 0 (oLi 3 (oC (.int (1 : Int32)) (o2 (· + ·) (oAx 10020 nA fA (oCi GX11_fault 2 (oLa 2 (oLa 0 (oLi 3 (oC (.int (1 : Int32)) (o2 (· + ·) (oAx 10020 nA fA (oCi GX13_fault 2 (oCEq (j1111) (oC (.int (0 : Int32)) (eLaw))))))))))))))))
noncomputable def wL_law_164 (k : Int32 → qM → Option (Unit × qM)) : qT (Unit × qM) := fun lo st m => match lo, st with
  | [some (.ref 10020), some (.ref 0), some (.ref 98), some (.int a3)], [] => k a3 m
  | _, _ => none
set_option maxRecDepth 20000 in
theorem sL_law_164 {C : qCx} {w : qWp} {Qf : Unit × qM → State → Prop} {nA : Nat} {fA : Nat → Int32} (h : qOk C w RL cL_law 4 16 0 155) (hm : qLe C w Qf) (hS : qSc C w nA fA) {j1111 : qT (Unit × qM)} (k1111 : qSnd C w 4 0 Qf qfin 155 1579 j1111) : qSnd C w 4 0 Qf qfin 155 390 (tL_law_164 nA fA j1111) :=
  cLa (pc := 390) h dL_law_390 rfl (cLa (pc := 391) h dL_law_391 rfl (cLi (pc := 392) h dL_law_392 rfl (cC (pc := 393) h dL_law_393 rfl (aAdd (pc := 394) h dL_law_394 (rAx (pc := 395) hS h dL_law_395 (kCi (pc := 396) h (kd_L_41 h dL_law_396) spX11_fault (by decide) (by decide) (by decide) (by decide) (cLa (pc := 399) h dL_law_399 rfl (cLa (pc := 400) h dL_law_400 rfl (cLi (pc := 401) h dL_law_401 rfl (cC (pc := 402) h dL_law_402 rfl (aAdd (pc := 403) h dL_law_403 (rAx (pc := 404) hS h dL_law_404 (kCi (pc := 405) h (kd_L_44 h dL_law_405) spX13_fault (by decide) (by decide) (by decide) (by decide) (jCEq (pc := 408) h dL_law_408 rfl (k1111) (cC (pc := 411) h dL_law_411 rfl (zLaw (pc := 412) hm dL_law_412))))))))))))))))
set_option maxRecDepth 20000 in
theorem lL_law_164 {nA : Nat} {fA : Nat → Int32} (k10 : Int32 → qM → Option (Unit × qM)) (a3 : Int32) (m : qM) : tL_law_164 nA fA (wL_law_1111 (fL_law_1111 nA fA k10)) [some (.ref 10020), some (.ref 0), some (.ref 98), some (.int a3)] [] m = fL_law_164 nA fA k10 a3 m := rfl
theorem bL_law_164 {C : qCx} {w : qWp} {Qf : Unit × qM → State → Prop} {nA : Nat} {fA : Nat → Int32} (h : qOk C w RL cL_law 4 16 0 155) (hm : qLe C w Qf) (hS : qSc C w nA fA) {k10 : Int32 → qM → Option (Unit × qM)} (h10 : qSnd C w 4 0 Qf qfin 155 18 (wL_law_10 k10)) : qSnd C w 4 0 Qf qfin 155 390 (wL_law_164 (fL_law_164 nA fA k10)) :=
  qSnd_of (fun lo st m x hr0 => by
    unfold wL_law_164 at hr0
    split at hr0
    · exact ⟨_, (qsub_e (qsub_e (qsub_e (qsub_e qsub_nil)))), (lL_law_164 _ _ _).trans hr0⟩
    · cases hr0) (sL_law_164 h hm hS (bL_law_1111 h hm hS h10))
noncomputable def fL_law_181 (nA : Nat) (fA : Nat → Int32) (k10 : Int32 → qM → Option (Unit × qM)) (a3 : Int32) (m : qM) : Option (Unit × qM) :=
  bif inb ((a3 + (1 : Int32))) nA then bif inb ((a3 + (2 : Int32))) nA then bif inb ((a3 + (3 : Int32))) nA then qbI (fX11_room ((fA (ix ((a3 + (1 : Int32)))))) ((fA (ix ((a3 + (2 : Int32)))))) ((fA (ix ((a3 + (3 : Int32)))))) m) (fun x29 m30 => bif inb ((a3 + (1 : Int32))) nA then bif inb ((a3 + (2 : Int32))) nA then bif inb ((a3 + (3 : Int32))) nA then qbI (fX13_room ((fA (ix ((a3 + (1 : Int32)))))) ((fA (ix ((a3 + (2 : Int32)))))) ((fA (ix ((a3 + (3 : Int32)))))) m30) (fun x31 m32 => bif eqb x29 x31 then fL_law_1111 nA fA k10 a3 m32 else bif eqb ((0 : Int32)) (1 : Int32) then some ((), m32) else none) else none else none else none) else none else none else none
noncomputable def tL_law_181 (nA : Nat) (fA : Nat → Int32) (j1111 : qT (Unit × qM)) : qT (Unit × qM) :=
  oLa 1 (oLa 0 (oLi 3 (oC (.int (1 : Int32)) (o2 (· + ·) (oAx 10020 nA fA (oLa 0 (oLi 3 (oC (.int (2 : Int32)) (o2 (· + ·) (oAx 10020 nA fA (oLa 0 (oLi 3 (oC (.int (3 : Int32)) (o2 (· + ·) (oAx 10020 nA fA (oCi GX11_room 4 (oLa 2 (oLa 0 (oLi 3 (oC (.int (1 : Int32)) (o2 (· + ·) (oAx 10020 nA fA (oLa 0 (oLi 3 (oC (.int (2 : Int32)) (o2 (· + ·) (oAx 10020 nA fA (oLa 0 (oLi 3 (oC (.int (3 : Int32)) (o2 (· + ·) (oAx 10020 nA fA (oCi GX13_room 4 (oCEq (j1111) (oC (.int (0 : Int32)) (eLaw))))))))))))))))))))))))))))))))))))
noncomputable def wL_law_181 (k : Int32 → qM → Option (Unit × qM)) : qT (Unit × qM) := fun lo st m => match lo, st with
  | [some (.ref 10020), some (.ref 0), some (.ref 98), some (.int a3)], [] => k a3 m
  | _, _ => none
set_option maxRecDepth 20000 in
theorem sL_law_181 {C : qCx} {w : qWp} {Qf : Unit × qM → State → Prop} {nA : Nat} {fA : Nat → Int32} (h : qOk C w RL cL_law 4 16 0 155) (hm : qLe C w Qf) (hS : qSc C w nA fA) {j1111 : qT (Unit × qM)} (k1111 : qSnd C w 4 0 Qf qfin 155 1579 j1111) : qSnd C w 4 0 Qf qfin 155 413 (tL_law_181 nA fA j1111) :=
  cLa (pc := 413) h dL_law_413 rfl (cLa (pc := 414) h dL_law_414 rfl (cLi (pc := 415) h dL_law_415 rfl (cC (pc := 416) h dL_law_416 rfl (aAdd (pc := 417) h dL_law_417 (rAx (pc := 418) hS h dL_law_418 (cLa (pc := 419) h dL_law_419 rfl (cLi (pc := 420) h dL_law_420 rfl (cC (pc := 421) h dL_law_421 rfl (aAdd (pc := 422) h dL_law_422 (rAx (pc := 423) hS h dL_law_423 (cLa (pc := 424) h dL_law_424 rfl (cLi (pc := 425) h dL_law_425 rfl (cC (pc := 426) h dL_law_426 rfl (aAdd (pc := 427) h dL_law_427 (rAx (pc := 428) hS h dL_law_428 (kCi (pc := 429) h (kd_L_45 h dL_law_429) spX11_room (by decide) (by decide) (by decide) (by decide) (cLa (pc := 432) h dL_law_432 rfl (cLa (pc := 433) h dL_law_433 rfl (cLi (pc := 434) h dL_law_434 rfl (cC (pc := 435) h dL_law_435 rfl (aAdd (pc := 436) h dL_law_436 (rAx (pc := 437) hS h dL_law_437 (cLa (pc := 438) h dL_law_438 rfl (cLi (pc := 439) h dL_law_439 rfl (cC (pc := 440) h dL_law_440 rfl (aAdd (pc := 441) h dL_law_441 (rAx (pc := 442) hS h dL_law_442 (cLa (pc := 443) h dL_law_443 rfl (cLi (pc := 444) h dL_law_444 rfl (cC (pc := 445) h dL_law_445 rfl (aAdd (pc := 446) h dL_law_446 (rAx (pc := 447) hS h dL_law_447 (kCi (pc := 448) h (kd_L_49 h dL_law_448) spX13_room (by decide) (by decide) (by decide) (by decide) (jCEq (pc := 451) h dL_law_451 rfl (k1111) (cC (pc := 454) h dL_law_454 rfl (zLaw (pc := 455) hm dL_law_455))))))))))))))))))))))))))))))))))))
set_option maxRecDepth 20000 in
theorem lL_law_181 {nA : Nat} {fA : Nat → Int32} (k10 : Int32 → qM → Option (Unit × qM)) (a3 : Int32) (m : qM) : tL_law_181 nA fA (wL_law_1111 (fL_law_1111 nA fA k10)) [some (.ref 10020), some (.ref 0), some (.ref 98), some (.int a3)] [] m = fL_law_181 nA fA k10 a3 m := rfl
theorem bL_law_181 {C : qCx} {w : qWp} {Qf : Unit × qM → State → Prop} {nA : Nat} {fA : Nat → Int32} (h : qOk C w RL cL_law 4 16 0 155) (hm : qLe C w Qf) (hS : qSc C w nA fA) {k10 : Int32 → qM → Option (Unit × qM)} (h10 : qSnd C w 4 0 Qf qfin 155 18 (wL_law_10 k10)) : qSnd C w 4 0 Qf qfin 155 413 (wL_law_181 (fL_law_181 nA fA k10)) :=
  qSnd_of (fun lo st m x hr0 => by
    unfold wL_law_181 at hr0
    split at hr0
    · exact ⟨_, (qsub_e (qsub_e (qsub_e (qsub_e qsub_nil)))), (lL_law_181 _ _ _).trans hr0⟩
    · cases hr0) (sL_law_181 h hm hS (bL_law_1111 h hm hS h10))
noncomputable def fL_law_218 (nA : Nat) (fA : Nat → Int32) (k10 : Int32 → qM → Option (Unit × qM)) (a3 : Int32) (m : qM) : Option (Unit × qM) :=
  bif inb ((a3 + (1 : Int32))) nA then bif inb ((a3 + (2 : Int32))) nA then bif inb ((a3 + (3 : Int32))) nA then qbI (fX11_teacher ((fA (ix ((a3 + (1 : Int32)))))) ((fA (ix ((a3 + (2 : Int32)))))) ((fA (ix ((a3 + (3 : Int32)))))) m) (fun x33 m34 => bif inb ((a3 + (1 : Int32))) nA then bif inb ((a3 + (2 : Int32))) nA then bif inb ((a3 + (3 : Int32))) nA then qbI (fX13_teacher ((fA (ix ((a3 + (1 : Int32)))))) ((fA (ix ((a3 + (2 : Int32)))))) ((fA (ix ((a3 + (3 : Int32)))))) m34) (fun x35 m36 => bif eqb x33 x35 then fL_law_1111 nA fA k10 a3 m36 else bif eqb ((0 : Int32)) (1 : Int32) then some ((), m36) else none) else none else none else none) else none else none else none
noncomputable def tL_law_218 (nA : Nat) (fA : Nat → Int32) (j1111 : qT (Unit × qM)) : qT (Unit × qM) :=
  oLa 1 (oLa 0 (oLi 3 (oC (.int (1 : Int32)) (o2 (· + ·) (oAx 10020 nA fA (oLa 0 (oLi 3 (oC (.int (2 : Int32)) (o2 (· + ·) (oAx 10020 nA fA (oLa 0 (oLi 3 (oC (.int (3 : Int32)) (o2 (· + ·) (oAx 10020 nA fA (oCi GX11_teacher 4 (oLa 2 (oLa 0 (oLi 3 (oC (.int (1 : Int32)) (o2 (· + ·) (oAx 10020 nA fA (oLa 0 (oLi 3 (oC (.int (2 : Int32)) (o2 (· + ·) (oAx 10020 nA fA (oLa 0 (oLi 3 (oC (.int (3 : Int32)) (o2 (· + ·) (oAx 10020 nA fA (oCi GX13_teacher 4 (oCEq (j1111) (oC (.int (0 : Int32)) (eLaw))))))))))))))))))))))))))))))))))))
noncomputable def wL_law_218 (k : Int32 → qM → Option (Unit × qM)) : qT (Unit × qM) := fun lo st m => match lo, st with
  | [some (.ref 10020), some (.ref 0), some (.ref 98), some (.int a3)], [] => k a3 m
  | _, _ => none
set_option maxRecDepth 20000 in
theorem sL_law_218 {C : qCx} {w : qWp} {Qf : Unit × qM → State → Prop} {nA : Nat} {fA : Nat → Int32} (h : qOk C w RL cL_law 4 16 0 155) (hm : qLe C w Qf) (hS : qSc C w nA fA) {j1111 : qT (Unit × qM)} (k1111 : qSnd C w 4 0 Qf qfin 155 1579 j1111) : qSnd C w 4 0 Qf qfin 155 456 (tL_law_218 nA fA j1111) :=
  cLa (pc := 456) h dL_law_456 rfl (cLa (pc := 457) h dL_law_457 rfl (cLi (pc := 458) h dL_law_458 rfl (cC (pc := 459) h dL_law_459 rfl (aAdd (pc := 460) h dL_law_460 (rAx (pc := 461) hS h dL_law_461 (cLa (pc := 462) h dL_law_462 rfl (cLi (pc := 463) h dL_law_463 rfl (cC (pc := 464) h dL_law_464 rfl (aAdd (pc := 465) h dL_law_465 (rAx (pc := 466) hS h dL_law_466 (cLa (pc := 467) h dL_law_467 rfl (cLi (pc := 468) h dL_law_468 rfl (cC (pc := 469) h dL_law_469 rfl (aAdd (pc := 470) h dL_law_470 (rAx (pc := 471) hS h dL_law_471 (kCi (pc := 472) h (kd_L_50 h dL_law_472) spX11_teacher (by decide) (by decide) (by decide) (by decide) (cLa (pc := 475) h dL_law_475 rfl (cLa (pc := 476) h dL_law_476 rfl (cLi (pc := 477) h dL_law_477 rfl (cC (pc := 478) h dL_law_478 rfl (aAdd (pc := 479) h dL_law_479 (rAx (pc := 480) hS h dL_law_480 (cLa (pc := 481) h dL_law_481 rfl (cLi (pc := 482) h dL_law_482 rfl (cC (pc := 483) h dL_law_483 rfl (aAdd (pc := 484) h dL_law_484 (rAx (pc := 485) hS h dL_law_485 (cLa (pc := 486) h dL_law_486 rfl (cLi (pc := 487) h dL_law_487 rfl (cC (pc := 488) h dL_law_488 rfl (aAdd (pc := 489) h dL_law_489 (rAx (pc := 490) hS h dL_law_490 (kCi (pc := 491) h (kd_L_53 h dL_law_491) spX13_teacher (by decide) (by decide) (by decide) (by decide) (jCEq (pc := 494) h dL_law_494 rfl (k1111) (cC (pc := 497) h dL_law_497 rfl (zLaw (pc := 498) hm dL_law_498))))))))))))))))))))))))))))))))))))
set_option maxRecDepth 20000 in
theorem lL_law_218 {nA : Nat} {fA : Nat → Int32} (k10 : Int32 → qM → Option (Unit × qM)) (a3 : Int32) (m : qM) : tL_law_218 nA fA (wL_law_1111 (fL_law_1111 nA fA k10)) [some (.ref 10020), some (.ref 0), some (.ref 98), some (.int a3)] [] m = fL_law_218 nA fA k10 a3 m := rfl
theorem bL_law_218 {C : qCx} {w : qWp} {Qf : Unit × qM → State → Prop} {nA : Nat} {fA : Nat → Int32} (h : qOk C w RL cL_law 4 16 0 155) (hm : qLe C w Qf) (hS : qSc C w nA fA) {k10 : Int32 → qM → Option (Unit × qM)} (h10 : qSnd C w 4 0 Qf qfin 155 18 (wL_law_10 k10)) : qSnd C w 4 0 Qf qfin 155 456 (wL_law_218 (fL_law_218 nA fA k10)) :=
  qSnd_of (fun lo st m x hr0 => by
    unfold wL_law_218 at hr0
    split at hr0
    · exact ⟨_, (qsub_e (qsub_e (qsub_e (qsub_e qsub_nil)))), (lL_law_218 _ _ _).trans hr0⟩
    · cases hr0) (sL_law_218 h hm hS (bL_law_1111 h hm hS h10))
noncomputable def fL_law_255 (nA : Nat) (fA : Nat → Int32) (k10 : Int32 → qM → Option (Unit × qM)) (a3 : Int32) (m : qM) : Option (Unit × qM) :=
  bif inb ((a3 + (1 : Int32))) nA then bif inb ((a3 + (2 : Int32))) nA then bif inb ((a3 + (3 : Int32))) nA then bif inb ((a3 + (4 : Int32))) nA then qbI (fX11_family ((fA (ix ((a3 + (1 : Int32)))))) ((fA (ix ((a3 + (2 : Int32)))))) ((fA (ix ((a3 + (3 : Int32)))))) ((fA (ix ((a3 + (4 : Int32)))))) m) (fun x37 m38 => bif inb ((a3 + (1 : Int32))) nA then bif inb ((a3 + (2 : Int32))) nA then bif inb ((a3 + (3 : Int32))) nA then bif inb ((a3 + (4 : Int32))) nA then qbI (fX13_family ((fA (ix ((a3 + (1 : Int32)))))) ((fA (ix ((a3 + (2 : Int32)))))) ((fA (ix ((a3 + (3 : Int32)))))) ((fA (ix ((a3 + (4 : Int32)))))) m38) (fun x39 m40 => bif eqb x37 x39 then fL_law_1111 nA fA k10 a3 m40 else bif eqb ((0 : Int32)) (1 : Int32) then some ((), m40) else none) else none else none else none else none) else none else none else none else none
noncomputable def tL_law_255 (nA : Nat) (fA : Nat → Int32) (j1111 : qT (Unit × qM)) : qT (Unit × qM) :=
  oLa 1 (oLa 0 (oLi 3 (oC (.int (1 : Int32)) (o2 (· + ·) (oAx 10020 nA fA (oLa 0 (oLi 3 (oC (.int (2 : Int32)) (o2 (· + ·) (oAx 10020 nA fA (oLa 0 (oLi 3 (oC (.int (3 : Int32)) (o2 (· + ·) (oAx 10020 nA fA (oLa 0 (oLi 3 (oC (.int (4 : Int32)) (o2 (· + ·) (oAx 10020 nA fA (oCi GX11_family 5 (oLa 2 (oLa 0 (oLi 3 (oC (.int (1 : Int32)) (o2 (· + ·) (oAx 10020 nA fA (oLa 0 (oLi 3 (oC (.int (2 : Int32)) (o2 (· + ·) (oAx 10020 nA fA (oLa 0 (oLi 3 (oC (.int (3 : Int32)) (o2 (· + ·) (oAx 10020 nA fA (oLa 0 (oLi 3 (oC (.int (4 : Int32)) (o2 (· + ·) (oAx 10020 nA fA (oCi GX13_family 5 (oCEq (j1111) (oC (.int (0 : Int32)) (eLaw))))))))))))))))))))))))))))))))))))))))))))))
noncomputable def wL_law_255 (k : Int32 → qM → Option (Unit × qM)) : qT (Unit × qM) := fun lo st m => match lo, st with
  | [some (.ref 10020), some (.ref 0), some (.ref 98), some (.int a3)], [] => k a3 m
  | _, _ => none
set_option maxRecDepth 20000 in
theorem sL_law_255 {C : qCx} {w : qWp} {Qf : Unit × qM → State → Prop} {nA : Nat} {fA : Nat → Int32} (h : qOk C w RL cL_law 4 16 0 155) (hm : qLe C w Qf) (hS : qSc C w nA fA) {j1111 : qT (Unit × qM)} (k1111 : qSnd C w 4 0 Qf qfin 155 1579 j1111) : qSnd C w 4 0 Qf qfin 155 499 (tL_law_255 nA fA j1111) :=
  cLa (pc := 499) h dL_law_499 rfl (cLa (pc := 500) h dL_law_500 rfl (cLi (pc := 501) h dL_law_501 rfl (cC (pc := 502) h dL_law_502 rfl (aAdd (pc := 503) h dL_law_503 (rAx (pc := 504) hS h dL_law_504 (cLa (pc := 505) h dL_law_505 rfl (cLi (pc := 506) h dL_law_506 rfl (cC (pc := 507) h dL_law_507 rfl (aAdd (pc := 508) h dL_law_508 (rAx (pc := 509) hS h dL_law_509 (cLa (pc := 510) h dL_law_510 rfl (cLi (pc := 511) h dL_law_511 rfl (cC (pc := 512) h dL_law_512 rfl (aAdd (pc := 513) h dL_law_513 (rAx (pc := 514) hS h dL_law_514 (cLa (pc := 515) h dL_law_515 rfl (cLi (pc := 516) h dL_law_516 rfl (cC (pc := 517) h dL_law_517 rfl (aAdd (pc := 518) h dL_law_518 (rAx (pc := 519) hS h dL_law_519 (kCi (pc := 520) h (kd_L_54 h dL_law_520) spX11_family (by decide) (by decide) (by decide) (by decide) (cLa (pc := 523) h dL_law_523 rfl (cLa (pc := 524) h dL_law_524 rfl (cLi (pc := 525) h dL_law_525 rfl (cC (pc := 526) h dL_law_526 rfl (aAdd (pc := 527) h dL_law_527 (rAx (pc := 528) hS h dL_law_528 (cLa (pc := 529) h dL_law_529 rfl (cLi (pc := 530) h dL_law_530 rfl (cC (pc := 531) h dL_law_531 rfl (aAdd (pc := 532) h dL_law_532 (rAx (pc := 533) hS h dL_law_533 (cLa (pc := 534) h dL_law_534 rfl (cLi (pc := 535) h dL_law_535 rfl (cC (pc := 536) h dL_law_536 rfl (aAdd (pc := 537) h dL_law_537 (rAx (pc := 538) hS h dL_law_538 (cLa (pc := 539) h dL_law_539 rfl (cLi (pc := 540) h dL_law_540 rfl (cC (pc := 541) h dL_law_541 rfl (aAdd (pc := 542) h dL_law_542 (rAx (pc := 543) hS h dL_law_543 (kCi (pc := 544) h (kd_L_58 h dL_law_544) spX13_family (by decide) (by decide) (by decide) (by decide) (jCEq (pc := 547) h dL_law_547 rfl (k1111) (cC (pc := 550) h dL_law_550 rfl (zLaw (pc := 551) hm dL_law_551))))))))))))))))))))))))))))))))))))))))))))))
set_option maxRecDepth 20000 in
theorem lL_law_255 {nA : Nat} {fA : Nat → Int32} (k10 : Int32 → qM → Option (Unit × qM)) (a3 : Int32) (m : qM) : tL_law_255 nA fA (wL_law_1111 (fL_law_1111 nA fA k10)) [some (.ref 10020), some (.ref 0), some (.ref 98), some (.int a3)] [] m = fL_law_255 nA fA k10 a3 m := rfl
theorem bL_law_255 {C : qCx} {w : qWp} {Qf : Unit × qM → State → Prop} {nA : Nat} {fA : Nat → Int32} (h : qOk C w RL cL_law 4 16 0 155) (hm : qLe C w Qf) (hS : qSc C w nA fA) {k10 : Int32 → qM → Option (Unit × qM)} (h10 : qSnd C w 4 0 Qf qfin 155 18 (wL_law_10 k10)) : qSnd C w 4 0 Qf qfin 155 499 (wL_law_255 (fL_law_255 nA fA k10)) :=
  qSnd_of (fun lo st m x hr0 => by
    unfold wL_law_255 at hr0
    split at hr0
    · exact ⟨_, (qsub_e (qsub_e (qsub_e (qsub_e qsub_nil)))), (lL_law_255 _ _ _).trans hr0⟩
    · cases hr0) (sL_law_255 h hm hS (bL_law_1111 h hm hS h10))
noncomputable def fL_law_302 (nA : Nat) (fA : Nat → Int32) (k10 : Int32 → qM → Option (Unit × qM)) (a3 : Int32) (m : qM) : Option (Unit × qM) :=
  bif inb ((a3 + (1 : Int32))) nA then bif inb ((a3 + (2 : Int32))) nA then bif inb ((a3 + (3 : Int32))) nA then bif inb ((a3 + (4 : Int32))) nA then qbI (fX11_wish ((fA (ix ((a3 + (1 : Int32)))))) ((fA (ix ((a3 + (2 : Int32)))))) ((fA (ix ((a3 + (3 : Int32)))))) ((fA (ix ((a3 + (4 : Int32)))))) m) (fun x41 m42 => bif inb ((a3 + (1 : Int32))) nA then bif inb ((a3 + (2 : Int32))) nA then bif inb ((a3 + (3 : Int32))) nA then bif inb ((a3 + (4 : Int32))) nA then qbI (fX13_wish ((fA (ix ((a3 + (1 : Int32)))))) ((fA (ix ((a3 + (2 : Int32)))))) ((fA (ix ((a3 + (3 : Int32)))))) ((fA (ix ((a3 + (4 : Int32)))))) m42) (fun x43 m44 => bif eqb x41 x43 then fL_law_1111 nA fA k10 a3 m44 else bif eqb ((0 : Int32)) (1 : Int32) then some ((), m44) else none) else none else none else none else none) else none else none else none else none
noncomputable def tL_law_302 (nA : Nat) (fA : Nat → Int32) (j1111 : qT (Unit × qM)) : qT (Unit × qM) :=
  oLa 1 (oLa 0 (oLi 3 (oC (.int (1 : Int32)) (o2 (· + ·) (oAx 10020 nA fA (oLa 0 (oLi 3 (oC (.int (2 : Int32)) (o2 (· + ·) (oAx 10020 nA fA (oLa 0 (oLi 3 (oC (.int (3 : Int32)) (o2 (· + ·) (oAx 10020 nA fA (oLa 0 (oLi 3 (oC (.int (4 : Int32)) (o2 (· + ·) (oAx 10020 nA fA (oCi GX11_wish 5 (oLa 2 (oLa 0 (oLi 3 (oC (.int (1 : Int32)) (o2 (· + ·) (oAx 10020 nA fA (oLa 0 (oLi 3 (oC (.int (2 : Int32)) (o2 (· + ·) (oAx 10020 nA fA (oLa 0 (oLi 3 (oC (.int (3 : Int32)) (o2 (· + ·) (oAx 10020 nA fA (oLa 0 (oLi 3 (oC (.int (4 : Int32)) (o2 (· + ·) (oAx 10020 nA fA (oCi GX13_wish 5 (oCEq (j1111) (oC (.int (0 : Int32)) (eLaw))))))))))))))))))))))))))))))))))))))))))))))
noncomputable def wL_law_302 (k : Int32 → qM → Option (Unit × qM)) : qT (Unit × qM) := fun lo st m => match lo, st with
  | [some (.ref 10020), some (.ref 0), some (.ref 98), some (.int a3)], [] => k a3 m
  | _, _ => none
set_option maxRecDepth 20000 in
theorem sL_law_302 {C : qCx} {w : qWp} {Qf : Unit × qM → State → Prop} {nA : Nat} {fA : Nat → Int32} (h : qOk C w RL cL_law 4 16 0 155) (hm : qLe C w Qf) (hS : qSc C w nA fA) {j1111 : qT (Unit × qM)} (k1111 : qSnd C w 4 0 Qf qfin 155 1579 j1111) : qSnd C w 4 0 Qf qfin 155 552 (tL_law_302 nA fA j1111) :=
  cLa (pc := 552) h dL_law_552 rfl (cLa (pc := 553) h dL_law_553 rfl (cLi (pc := 554) h dL_law_554 rfl (cC (pc := 555) h dL_law_555 rfl (aAdd (pc := 556) h dL_law_556 (rAx (pc := 557) hS h dL_law_557 (cLa (pc := 558) h dL_law_558 rfl (cLi (pc := 559) h dL_law_559 rfl (cC (pc := 560) h dL_law_560 rfl (aAdd (pc := 561) h dL_law_561 (rAx (pc := 562) hS h dL_law_562 (cLa (pc := 563) h dL_law_563 rfl (cLi (pc := 564) h dL_law_564 rfl (cC (pc := 565) h dL_law_565 rfl (aAdd (pc := 566) h dL_law_566 (rAx (pc := 567) hS h dL_law_567 (cLa (pc := 568) h dL_law_568 rfl (cLi (pc := 569) h dL_law_569 rfl (cC (pc := 570) h dL_law_570 rfl (aAdd (pc := 571) h dL_law_571 (rAx (pc := 572) hS h dL_law_572 (kCi (pc := 573) h (kd_L_59 h dL_law_573) spX11_wish (by decide) (by decide) (by decide) (by decide) (cLa (pc := 576) h dL_law_576 rfl (cLa (pc := 577) h dL_law_577 rfl (cLi (pc := 578) h dL_law_578 rfl (cC (pc := 579) h dL_law_579 rfl (aAdd (pc := 580) h dL_law_580 (rAx (pc := 581) hS h dL_law_581 (cLa (pc := 582) h dL_law_582 rfl (cLi (pc := 583) h dL_law_583 rfl (cC (pc := 584) h dL_law_584 rfl (aAdd (pc := 585) h dL_law_585 (rAx (pc := 586) hS h dL_law_586 (cLa (pc := 587) h dL_law_587 rfl (cLi (pc := 588) h dL_law_588 rfl (cC (pc := 589) h dL_law_589 rfl (aAdd (pc := 590) h dL_law_590 (rAx (pc := 591) hS h dL_law_591 (cLa (pc := 592) h dL_law_592 rfl (cLi (pc := 593) h dL_law_593 rfl (cC (pc := 594) h dL_law_594 rfl (aAdd (pc := 595) h dL_law_595 (rAx (pc := 596) hS h dL_law_596 (kCi (pc := 597) h (kd_L_62 h dL_law_597) spX13_wish (by decide) (by decide) (by decide) (by decide) (jCEq (pc := 600) h dL_law_600 rfl (k1111) (cC (pc := 603) h dL_law_603 rfl (zLaw (pc := 604) hm dL_law_604))))))))))))))))))))))))))))))))))))))))))))))
set_option maxRecDepth 20000 in
theorem lL_law_302 {nA : Nat} {fA : Nat → Int32} (k10 : Int32 → qM → Option (Unit × qM)) (a3 : Int32) (m : qM) : tL_law_302 nA fA (wL_law_1111 (fL_law_1111 nA fA k10)) [some (.ref 10020), some (.ref 0), some (.ref 98), some (.int a3)] [] m = fL_law_302 nA fA k10 a3 m := rfl
theorem bL_law_302 {C : qCx} {w : qWp} {Qf : Unit × qM → State → Prop} {nA : Nat} {fA : Nat → Int32} (h : qOk C w RL cL_law 4 16 0 155) (hm : qLe C w Qf) (hS : qSc C w nA fA) {k10 : Int32 → qM → Option (Unit × qM)} (h10 : qSnd C w 4 0 Qf qfin 155 18 (wL_law_10 k10)) : qSnd C w 4 0 Qf qfin 155 552 (wL_law_302 (fL_law_302 nA fA k10)) :=
  qSnd_of (fun lo st m x hr0 => by
    unfold wL_law_302 at hr0
    split at hr0
    · exact ⟨_, (qsub_e (qsub_e (qsub_e (qsub_e qsub_nil)))), (lL_law_302 _ _ _).trans hr0⟩
    · cases hr0) (sL_law_302 h hm hS (bL_law_1111 h hm hS h10))
noncomputable def fL_law_390 (nA : Nat) (fA : Nat → Int32) (k10 : Int32 → qM → Option (Unit × qM)) (a3 : Int32) (s0 : Int32) (s1 : Int32) (s2 : Int32) (s4 : Int32) (m : qM) : Option (Unit × qM) :=
  qbI (fX13_apart s2 s1 s0 m) (fun x47 m48 => bif eqb s4 x47 then fL_law_1111 nA fA k10 a3 m48 else bif eqb ((0 : Int32)) (1 : Int32) then some ((), m48) else none)
noncomputable def tL_law_390 (nA : Nat) (fA : Nat → Int32) (j1111 : qT (Unit × qM)) : qT (Unit × qM) :=
  oCi GX13_apart 4 (oCEq (j1111) (oC (.int (0 : Int32)) (eLaw)))
noncomputable def wL_law_390 (k : Int32 → Int32 → Int32 → Int32 → Int32 → qM → Option (Unit × qM)) : qT (Unit × qM) := fun lo st m => match lo, st with
  | [some (.ref 10020), some (.ref 0), some (.ref 98), some (.int a3)], [.int s0, .int s1, .int s2, .ref 98, .int s4] => k a3 s0 s1 s2 s4 m
  | _, _ => none
set_option maxRecDepth 20000 in
theorem sL_law_390 {C : qCx} {w : qWp} {Qf : Unit × qM → State → Prop} {nA : Nat} {fA : Nat → Int32} (h : qOk C w RL cL_law 4 16 0 155) (hm : qLe C w Qf) (hS : qSc C w nA fA) {j1111 : qT (Unit × qM)} (k1111 : qSnd C w 4 0 Qf qfin 155 1579 j1111) : qSnd C w 4 0 Qf qfin 155 656 (tL_law_390 nA fA j1111) :=
  kCi (pc := 656) h (kd_L_67 h dL_law_656) spX13_apart (by decide) (by decide) (by decide) (by decide) (jCEq (pc := 659) h dL_law_659 rfl (k1111) (cC (pc := 662) h dL_law_662 rfl (zLaw (pc := 663) hm dL_law_663)))
set_option maxRecDepth 20000 in
theorem lL_law_390 {nA : Nat} {fA : Nat → Int32} (k10 : Int32 → qM → Option (Unit × qM)) (a3 : Int32) (s0 : Int32) (s1 : Int32) (s2 : Int32) (s4 : Int32) (m : qM) : tL_law_390 nA fA (wL_law_1111 (fL_law_1111 nA fA k10)) [some (.ref 10020), some (.ref 0), some (.ref 98), some (.int a3)] [(.int s0), (.int s1), (.int s2), (.ref 98), (.int s4)] m = fL_law_390 nA fA k10 a3 s0 s1 s2 s4 m := rfl
theorem bL_law_390 {C : qCx} {w : qWp} {Qf : Unit × qM → State → Prop} {nA : Nat} {fA : Nat → Int32} (h : qOk C w RL cL_law 4 16 0 155) (hm : qLe C w Qf) (hS : qSc C w nA fA) {k10 : Int32 → qM → Option (Unit × qM)} (h10 : qSnd C w 4 0 Qf qfin 155 18 (wL_law_10 k10)) : qSnd C w 4 0 Qf qfin 155 656 (wL_law_390 (fL_law_390 nA fA k10)) :=
  qSnd_of (fun lo st m x hr0 => by
    unfold wL_law_390 at hr0
    split at hr0
    · exact ⟨_, (qsub_e (qsub_e (qsub_e (qsub_e qsub_nil)))), (lL_law_390 _ _ _ _ _ _ _).trans hr0⟩
    · cases hr0) (sL_law_390 h hm hS (bL_law_1111 h hm hS h10))
noncomputable def fL_law_369 (nA : Nat) (fA : Nat → Int32) (k10 : Int32 → qM → Option (Unit × qM)) (a3 : Int32) (s0 : Int32) (s1 : Int32) (s2 : Int32) (m : qM) : Option (Unit × qM) :=
  qbI (fX11_apart s2 s1 s0 m) (fun x45 m46 => bif inb ((a3 + (1 : Int32))) nA then bif inb ((a3 + (2 : Int32))) nA then bif inb ((a3 + (3 : Int32))) nA then bif eqb ((fA (ix ((a3 + (3 : Int32)))))) ((0 : Int32)) then fL_law_390 nA fA k10 a3 ((0 : Int32)) ((fA (ix ((a3 + (2 : Int32)))))) ((fA (ix ((a3 + (1 : Int32)))))) x45 m46 else fL_law_390 nA fA k10 a3 ((1 : Int32)) ((fA (ix ((a3 + (2 : Int32)))))) ((fA (ix ((a3 + (1 : Int32)))))) x45 m46 else none else none else none)
noncomputable def tL_law_369 (nA : Nat) (fA : Nat → Int32) (j390 : qT (Unit × qM)) : qT (Unit × qM) :=
  oCi GX11_apart 4 (oLa 2 (oLa 0 (oLi 3 (oC (.int (1 : Int32)) (o2 (· + ·) (oAx 10020 nA fA (oLa 0 (oLi 3 (oC (.int (2 : Int32)) (o2 (· + ·) (oAx 10020 nA fA (oLa 0 (oLi 3 (oC (.int (3 : Int32)) (o2 (· + ·) (oAx 10020 nA fA (oEq (oC (.int (0 : Int32)) (j390)) (oC (.int (1 : Int32)) (j390)))))))))))))))))))
noncomputable def wL_law_369 (k : Int32 → Int32 → Int32 → Int32 → qM → Option (Unit × qM)) : qT (Unit × qM) := fun lo st m => match lo, st with
  | [some (.ref 10020), some (.ref 0), some (.ref 98), some (.int a3)], [.int s0, .int s1, .int s2, .ref 0] => k a3 s0 s1 s2 m
  | _, _ => none
set_option maxRecDepth 20000 in
theorem sL_law_369 {C : qCx} {w : qWp} {Qf : Unit × qM → State → Prop} {nA : Nat} {fA : Nat → Int32} (h : qOk C w RL cL_law 4 16 0 155) (hm : qLe C w Qf) (hS : qSc C w nA fA) {j390 : qT (Unit × qM)} (k390 : qSnd C w 4 0 Qf qfin 155 656 j390) : qSnd C w 4 0 Qf qfin 155 629 (tL_law_369 nA fA j390) :=
  kCi (pc := 629) h (kd_L_63 h dL_law_629) spX11_apart (by decide) (by decide) (by decide) (by decide) (cLa (pc := 632) h dL_law_632 rfl (cLa (pc := 633) h dL_law_633 rfl (cLi (pc := 634) h dL_law_634 rfl (cC (pc := 635) h dL_law_635 rfl (aAdd (pc := 636) h dL_law_636 (rAx (pc := 637) hS h dL_law_637 (cLa (pc := 638) h dL_law_638 rfl (cLi (pc := 639) h dL_law_639 rfl (cC (pc := 640) h dL_law_640 rfl (aAdd (pc := 641) h dL_law_641 (rAx (pc := 642) hS h dL_law_642 (cLa (pc := 643) h dL_law_643 rfl (cLi (pc := 644) h dL_law_644 rfl (cC (pc := 645) h dL_law_645 rfl (aAdd (pc := 646) h dL_law_646 (rAx (pc := 647) hS h dL_law_647 (jEq (pc := 648) h dL_law_648 rfl (cC (pc := 655) h dL_law_655 rfl (k390)) (cC (pc := 651) h dL_law_651 rfl (jGo (pc := 652) h dL_law_652 rfl (k390))))))))))))))))))))
set_option maxRecDepth 20000 in
theorem lL_law_369 {nA : Nat} {fA : Nat → Int32} (k10 : Int32 → qM → Option (Unit × qM)) (a3 : Int32) (s0 : Int32) (s1 : Int32) (s2 : Int32) (m : qM) : tL_law_369 nA fA (wL_law_390 (fL_law_390 nA fA k10)) [some (.ref 10020), some (.ref 0), some (.ref 98), some (.int a3)] [(.int s0), (.int s1), (.int s2), (.ref 0)] m = fL_law_369 nA fA k10 a3 s0 s1 s2 m := rfl
theorem bL_law_369 {C : qCx} {w : qWp} {Qf : Unit × qM → State → Prop} {nA : Nat} {fA : Nat → Int32} (h : qOk C w RL cL_law 4 16 0 155) (hm : qLe C w Qf) (hS : qSc C w nA fA) {k10 : Int32 → qM → Option (Unit × qM)} (h10 : qSnd C w 4 0 Qf qfin 155 18 (wL_law_10 k10)) : qSnd C w 4 0 Qf qfin 155 629 (wL_law_369 (fL_law_369 nA fA k10)) :=
  qSnd_of (fun lo st m x hr0 => by
    unfold wL_law_369 at hr0
    split at hr0
    · exact ⟨_, (qsub_e (qsub_e (qsub_e (qsub_e qsub_nil)))), (lL_law_369 _ _ _ _ _ _).trans hr0⟩
    · cases hr0) (sL_law_369 h hm hS (bL_law_390 h hm hS h10))
noncomputable def fL_law_349 (nA : Nat) (fA : Nat → Int32) (k10 : Int32 → qM → Option (Unit × qM)) (a3 : Int32) (m : qM) : Option (Unit × qM) :=
  bif inb ((a3 + (1 : Int32))) nA then bif inb ((a3 + (2 : Int32))) nA then bif inb ((a3 + (3 : Int32))) nA then bif eqb ((fA (ix ((a3 + (3 : Int32)))))) ((0 : Int32)) then fL_law_369 nA fA k10 a3 ((0 : Int32)) ((fA (ix ((a3 + (2 : Int32)))))) ((fA (ix ((a3 + (1 : Int32)))))) m else fL_law_369 nA fA k10 a3 ((1 : Int32)) ((fA (ix ((a3 + (2 : Int32)))))) ((fA (ix ((a3 + (1 : Int32)))))) m else none else none else none
noncomputable def tL_law_349 (nA : Nat) (fA : Nat → Int32) (j369 : qT (Unit × qM)) : qT (Unit × qM) :=
  oLa 1 (oLa 0 (oLi 3 (oC (.int (1 : Int32)) (o2 (· + ·) (oAx 10020 nA fA (oLa 0 (oLi 3 (oC (.int (2 : Int32)) (o2 (· + ·) (oAx 10020 nA fA (oLa 0 (oLi 3 (oC (.int (3 : Int32)) (o2 (· + ·) (oAx 10020 nA fA (oEq (oC (.int (0 : Int32)) (j369)) (oC (.int (1 : Int32)) (j369))))))))))))))))))
noncomputable def wL_law_349 (k : Int32 → qM → Option (Unit × qM)) : qT (Unit × qM) := fun lo st m => match lo, st with
  | [some (.ref 10020), some (.ref 0), some (.ref 98), some (.int a3)], [] => k a3 m
  | _, _ => none
set_option maxRecDepth 20000 in
theorem sL_law_349 {C : qCx} {w : qWp} {Qf : Unit × qM → State → Prop} {nA : Nat} {fA : Nat → Int32} (h : qOk C w RL cL_law 4 16 0 155) (hm : qLe C w Qf) (hS : qSc C w nA fA) {j369 : qT (Unit × qM)} (k369 : qSnd C w 4 0 Qf qfin 155 629 j369) : qSnd C w 4 0 Qf qfin 155 605 (tL_law_349 nA fA j369) :=
  cLa (pc := 605) h dL_law_605 rfl (cLa (pc := 606) h dL_law_606 rfl (cLi (pc := 607) h dL_law_607 rfl (cC (pc := 608) h dL_law_608 rfl (aAdd (pc := 609) h dL_law_609 (rAx (pc := 610) hS h dL_law_610 (cLa (pc := 611) h dL_law_611 rfl (cLi (pc := 612) h dL_law_612 rfl (cC (pc := 613) h dL_law_613 rfl (aAdd (pc := 614) h dL_law_614 (rAx (pc := 615) hS h dL_law_615 (cLa (pc := 616) h dL_law_616 rfl (cLi (pc := 617) h dL_law_617 rfl (cC (pc := 618) h dL_law_618 rfl (aAdd (pc := 619) h dL_law_619 (rAx (pc := 620) hS h dL_law_620 (jEq (pc := 621) h dL_law_621 rfl (cC (pc := 628) h dL_law_628 rfl (k369)) (cC (pc := 624) h dL_law_624 rfl (jGo (pc := 625) h dL_law_625 rfl (k369)))))))))))))))))))
set_option maxRecDepth 20000 in
theorem lL_law_349 {nA : Nat} {fA : Nat → Int32} (k10 : Int32 → qM → Option (Unit × qM)) (a3 : Int32) (m : qM) : tL_law_349 nA fA (wL_law_369 (fL_law_369 nA fA k10)) [some (.ref 10020), some (.ref 0), some (.ref 98), some (.int a3)] [] m = fL_law_349 nA fA k10 a3 m := rfl
theorem bL_law_349 {C : qCx} {w : qWp} {Qf : Unit × qM → State → Prop} {nA : Nat} {fA : Nat → Int32} (h : qOk C w RL cL_law 4 16 0 155) (hm : qLe C w Qf) (hS : qSc C w nA fA) {k10 : Int32 → qM → Option (Unit × qM)} (h10 : qSnd C w 4 0 Qf qfin 155 18 (wL_law_10 k10)) : qSnd C w 4 0 Qf qfin 155 605 (wL_law_349 (fL_law_349 nA fA k10)) :=
  qSnd_of (fun lo st m x hr0 => by
    unfold wL_law_349 at hr0
    split at hr0
    · exact ⟨_, (qsub_e (qsub_e (qsub_e (qsub_e qsub_nil)))), (lL_law_349 _ _ _).trans hr0⟩
    · cases hr0) (sL_law_349 h hm hS (bL_law_369 h hm hS h10))
noncomputable def fL_law_394 (nA : Nat) (fA : Nat → Int32) (k10 : Int32 → qM → Option (Unit × qM)) (a3 : Int32) (m : qM) : Option (Unit × qM) :=
  bif inb ((a3 + (1 : Int32))) nA then bif inb ((a3 + (2 : Int32))) nA then qbI (fX11_walk ((fA (ix ((a3 + (1 : Int32)))))) ((fA (ix ((a3 + (2 : Int32)))))) m) (fun x49 m50 => bif inb ((a3 + (1 : Int32))) nA then bif inb ((a3 + (2 : Int32))) nA then qbI (fX13_walk ((fA (ix ((a3 + (1 : Int32)))))) ((fA (ix ((a3 + (2 : Int32)))))) m50) (fun x51 m52 => bif eqb x49 x51 then fL_law_1111 nA fA k10 a3 m52 else bif eqb ((0 : Int32)) (1 : Int32) then some ((), m52) else none) else none else none) else none else none
noncomputable def tL_law_394 (nA : Nat) (fA : Nat → Int32) (j1111 : qT (Unit × qM)) : qT (Unit × qM) :=
  oLa 1 (oLa 0 (oLi 3 (oC (.int (1 : Int32)) (o2 (· + ·) (oAx 10020 nA fA (oLa 0 (oLi 3 (oC (.int (2 : Int32)) (o2 (· + ·) (oAx 10020 nA fA (oCi GX11_walk 3 (oLa 2 (oLa 0 (oLi 3 (oC (.int (1 : Int32)) (o2 (· + ·) (oAx 10020 nA fA (oLa 0 (oLi 3 (oC (.int (2 : Int32)) (o2 (· + ·) (oAx 10020 nA fA (oCi GX13_walk 3 (oCEq (j1111) (oC (.int (0 : Int32)) (eLaw))))))))))))))))))))))))))
noncomputable def wL_law_394 (k : Int32 → qM → Option (Unit × qM)) : qT (Unit × qM) := fun lo st m => match lo, st with
  | [some (.ref 10020), some (.ref 0), some (.ref 98), some (.int a3)], [] => k a3 m
  | _, _ => none
set_option maxRecDepth 20000 in
theorem sL_law_394 {C : qCx} {w : qWp} {Qf : Unit × qM → State → Prop} {nA : Nat} {fA : Nat → Int32} (h : qOk C w RL cL_law 4 16 0 155) (hm : qLe C w Qf) (hS : qSc C w nA fA) {j1111 : qT (Unit × qM)} (k1111 : qSnd C w 4 0 Qf qfin 155 1579 j1111) : qSnd C w 4 0 Qf qfin 155 664 (tL_law_394 nA fA j1111) :=
  cLa (pc := 664) h dL_law_664 rfl (cLa (pc := 665) h dL_law_665 rfl (cLi (pc := 666) h dL_law_666 rfl (cC (pc := 667) h dL_law_667 rfl (aAdd (pc := 668) h dL_law_668 (rAx (pc := 669) hS h dL_law_669 (cLa (pc := 670) h dL_law_670 rfl (cLi (pc := 671) h dL_law_671 rfl (cC (pc := 672) h dL_law_672 rfl (aAdd (pc := 673) h dL_law_673 (rAx (pc := 674) hS h dL_law_674 (kCi (pc := 675) h (kd_L_68 h dL_law_675) spX11_walk (by decide) (by decide) (by decide) (by decide) (cLa (pc := 678) h dL_law_678 rfl (cLa (pc := 679) h dL_law_679 rfl (cLi (pc := 680) h dL_law_680 rfl (cC (pc := 681) h dL_law_681 rfl (aAdd (pc := 682) h dL_law_682 (rAx (pc := 683) hS h dL_law_683 (cLa (pc := 684) h dL_law_684 rfl (cLi (pc := 685) h dL_law_685 rfl (cC (pc := 686) h dL_law_686 rfl (aAdd (pc := 687) h dL_law_687 (rAx (pc := 688) hS h dL_law_688 (kCi (pc := 689) h (kd_L_71 h dL_law_689) spX13_walk (by decide) (by decide) (by decide) (by decide) (jCEq (pc := 692) h dL_law_692 rfl (k1111) (cC (pc := 695) h dL_law_695 rfl (zLaw (pc := 696) hm dL_law_696))))))))))))))))))))))))))
set_option maxRecDepth 20000 in
theorem lL_law_394 {nA : Nat} {fA : Nat → Int32} (k10 : Int32 → qM → Option (Unit × qM)) (a3 : Int32) (m : qM) : tL_law_394 nA fA (wL_law_1111 (fL_law_1111 nA fA k10)) [some (.ref 10020), some (.ref 0), some (.ref 98), some (.int a3)] [] m = fL_law_394 nA fA k10 a3 m := rfl
theorem bL_law_394 {C : qCx} {w : qWp} {Qf : Unit × qM → State → Prop} {nA : Nat} {fA : Nat → Int32} (h : qOk C w RL cL_law 4 16 0 155) (hm : qLe C w Qf) (hS : qSc C w nA fA) {k10 : Int32 → qM → Option (Unit × qM)} (h10 : qSnd C w 4 0 Qf qfin 155 18 (wL_law_10 k10)) : qSnd C w 4 0 Qf qfin 155 664 (wL_law_394 (fL_law_394 nA fA k10)) :=
  qSnd_of (fun lo st m x hr0 => by
    unfold wL_law_394 at hr0
    split at hr0
    · exact ⟨_, (qsub_e (qsub_e (qsub_e (qsub_e qsub_nil)))), (lL_law_394 _ _ _).trans hr0⟩
    · cases hr0) (sL_law_394 h hm hS (bL_law_1111 h hm hS h10))
noncomputable def fL_law_462 (nA : Nat) (fA : Nat → Int32) (k10 : Int32 → qM → Option (Unit × qM)) (a3 : Int32) (s0 : Int32) (s1 : Int32) (s2 : Int32) (s4 : Int32) (m : qM) : Option (Unit × qM) :=
  qbI (fX13_ask s2 s1 s0 m) (fun x55 m56 => bif eqb s4 x55 then fL_law_1111 nA fA k10 a3 m56 else bif eqb ((0 : Int32)) (1 : Int32) then some ((), m56) else none)
noncomputable def tL_law_462 (nA : Nat) (fA : Nat → Int32) (j1111 : qT (Unit × qM)) : qT (Unit × qM) :=
  oCi GX13_ask 4 (oCEq (j1111) (oC (.int (0 : Int32)) (eLaw)))
noncomputable def wL_law_462 (k : Int32 → Int32 → Int32 → Int32 → Int32 → qM → Option (Unit × qM)) : qT (Unit × qM) := fun lo st m => match lo, st with
  | [some (.ref 10020), some (.ref 0), some (.ref 98), some (.int a3)], [.int s0, .int s1, .int s2, .ref 98, .int s4] => k a3 s0 s1 s2 s4 m
  | _, _ => none
set_option maxRecDepth 20000 in
theorem sL_law_462 {C : qCx} {w : qWp} {Qf : Unit × qM → State → Prop} {nA : Nat} {fA : Nat → Int32} (h : qOk C w RL cL_law 4 16 0 155) (hm : qLe C w Qf) (hS : qSc C w nA fA) {j1111 : qT (Unit × qM)} (k1111 : qSnd C w 4 0 Qf qfin 155 1579 j1111) : qSnd C w 4 0 Qf qfin 155 748 (tL_law_462 nA fA j1111) :=
  kCi (pc := 748) h (kd_L_75 h dL_law_748) spX13_ask (by decide) (by decide) (by decide) (by decide) (jCEq (pc := 751) h dL_law_751 rfl (k1111) (cC (pc := 754) h dL_law_754 rfl (zLaw (pc := 755) hm dL_law_755)))
set_option maxRecDepth 20000 in
theorem lL_law_462 {nA : Nat} {fA : Nat → Int32} (k10 : Int32 → qM → Option (Unit × qM)) (a3 : Int32) (s0 : Int32) (s1 : Int32) (s2 : Int32) (s4 : Int32) (m : qM) : tL_law_462 nA fA (wL_law_1111 (fL_law_1111 nA fA k10)) [some (.ref 10020), some (.ref 0), some (.ref 98), some (.int a3)] [(.int s0), (.int s1), (.int s2), (.ref 98), (.int s4)] m = fL_law_462 nA fA k10 a3 s0 s1 s2 s4 m := rfl
theorem bL_law_462 {C : qCx} {w : qWp} {Qf : Unit × qM → State → Prop} {nA : Nat} {fA : Nat → Int32} (h : qOk C w RL cL_law 4 16 0 155) (hm : qLe C w Qf) (hS : qSc C w nA fA) {k10 : Int32 → qM → Option (Unit × qM)} (h10 : qSnd C w 4 0 Qf qfin 155 18 (wL_law_10 k10)) : qSnd C w 4 0 Qf qfin 155 748 (wL_law_462 (fL_law_462 nA fA k10)) :=
  qSnd_of (fun lo st m x hr0 => by
    unfold wL_law_462 at hr0
    split at hr0
    · exact ⟨_, (qsub_e (qsub_e (qsub_e (qsub_e qsub_nil)))), (lL_law_462 _ _ _ _ _ _ _).trans hr0⟩
    · cases hr0) (sL_law_462 h hm hS (bL_law_1111 h hm hS h10))
