/-! the law, more (by program) -/
noncomputable def fL_law_441 (nA : Nat) (fA : Nat → Int32) (k10 : Int32 → qM → Option (Unit × qM)) (a3 : Int32) (s0 : Int32) (s1 : Int32) (s2 : Int32) (m : qM) : Option (Unit × qM) :=
  qbI (fX11_ask s2 s1 s0 m) (fun x53 m54 => bif inb ((a3 + (1 : Int32))) nA then bif inb ((a3 + (2 : Int32))) nA then bif inb ((a3 + (3 : Int32))) nA then bif eqb ((fA (ix ((a3 + (3 : Int32)))))) ((0 : Int32)) then fL_law_462 nA fA k10 a3 ((0 : Int32)) ((fA (ix ((a3 + (2 : Int32)))))) ((fA (ix ((a3 + (1 : Int32)))))) x53 m54 else fL_law_462 nA fA k10 a3 ((1 : Int32)) ((fA (ix ((a3 + (2 : Int32)))))) ((fA (ix ((a3 + (1 : Int32)))))) x53 m54 else none else none else none)
noncomputable def tL_law_441 (nA : Nat) (fA : Nat → Int32) (j462 : qT (Unit × qM)) : qT (Unit × qM) :=
  oCi GX11_ask 4 (oLa 2 (oLa 0 (oLi 3 (oC (.int (1 : Int32)) (o2 (· + ·) (oAx 10020 nA fA (oLa 0 (oLi 3 (oC (.int (2 : Int32)) (o2 (· + ·) (oAx 10020 nA fA (oLa 0 (oLi 3 (oC (.int (3 : Int32)) (o2 (· + ·) (oAx 10020 nA fA (oEq (oC (.int (0 : Int32)) (j462)) (oC (.int (1 : Int32)) (j462)))))))))))))))))))
noncomputable def wL_law_441 (k : Int32 → Int32 → Int32 → Int32 → qM → Option (Unit × qM)) : qT (Unit × qM) := fun lo st m => match lo, st with
  | [some (.ref 10020), some (.ref 0), some (.ref 98), some (.int a3)], [.int s0, .int s1, .int s2, .ref 0] => k a3 s0 s1 s2 m
  | _, _ => none
set_option maxRecDepth 20000 in
theorem sL_law_441 {C : qCx} {w : qWp} {Qf : Unit × qM → State → Prop} {nA : Nat} {fA : Nat → Int32} (h : qOk C w RL cL_law 4 16 0 155) (hm : qLe C w Qf) (hS : qSc C w nA fA) {j462 : qT (Unit × qM)} (k462 : qSnd C w 4 0 Qf qfin 155 748 j462) : qSnd C w 4 0 Qf qfin 155 721 (tL_law_441 nA fA j462) :=
  kCi (pc := 721) h (kd_L_72 h dL_law_721) spX11_ask (by decide) (by decide) (by decide) (by decide) (cLa (pc := 724) h dL_law_724 rfl (cLa (pc := 725) h dL_law_725 rfl (cLi (pc := 726) h dL_law_726 rfl (cC (pc := 727) h dL_law_727 rfl (aAdd (pc := 728) h dL_law_728 (rAx (pc := 729) hS h dL_law_729 (cLa (pc := 730) h dL_law_730 rfl (cLi (pc := 731) h dL_law_731 rfl (cC (pc := 732) h dL_law_732 rfl (aAdd (pc := 733) h dL_law_733 (rAx (pc := 734) hS h dL_law_734 (cLa (pc := 735) h dL_law_735 rfl (cLi (pc := 736) h dL_law_736 rfl (cC (pc := 737) h dL_law_737 rfl (aAdd (pc := 738) h dL_law_738 (rAx (pc := 739) hS h dL_law_739 (jEq (pc := 740) h dL_law_740 rfl (cC (pc := 747) h dL_law_747 rfl (k462)) (cC (pc := 743) h dL_law_743 rfl (jGo (pc := 744) h dL_law_744 rfl (k462))))))))))))))))))))
set_option maxRecDepth 20000 in
theorem lL_law_441 {nA : Nat} {fA : Nat → Int32} (k10 : Int32 → qM → Option (Unit × qM)) (a3 : Int32) (s0 : Int32) (s1 : Int32) (s2 : Int32) (m : qM) : tL_law_441 nA fA (wL_law_462 (fL_law_462 nA fA k10)) [some (.ref 10020), some (.ref 0), some (.ref 98), some (.int a3)] [(.int s0), (.int s1), (.int s2), (.ref 0)] m = fL_law_441 nA fA k10 a3 s0 s1 s2 m := rfl
theorem bL_law_441 {C : qCx} {w : qWp} {Qf : Unit × qM → State → Prop} {nA : Nat} {fA : Nat → Int32} (h : qOk C w RL cL_law 4 16 0 155) (hm : qLe C w Qf) (hS : qSc C w nA fA) {k10 : Int32 → qM → Option (Unit × qM)} (h10 : qSnd C w 4 0 Qf qfin 155 18 (wL_law_10 k10)) : qSnd C w 4 0 Qf qfin 155 721 (wL_law_441 (fL_law_441 nA fA k10)) :=
  qSnd_of (fun lo st m x hr0 => by
    unfold wL_law_441 at hr0
    split at hr0
    · exact ⟨_, (qsub_e (qsub_e (qsub_e (qsub_e qsub_nil)))), (lL_law_441 _ _ _ _ _ _).trans hr0⟩
    · cases hr0) (sL_law_441 h hm hS (bL_law_462 h hm hS h10))
noncomputable def fL_law_421 (nA : Nat) (fA : Nat → Int32) (k10 : Int32 → qM → Option (Unit × qM)) (a3 : Int32) (m : qM) : Option (Unit × qM) :=
  bif inb ((a3 + (1 : Int32))) nA then bif inb ((a3 + (2 : Int32))) nA then bif inb ((a3 + (3 : Int32))) nA then bif eqb ((fA (ix ((a3 + (3 : Int32)))))) ((0 : Int32)) then fL_law_441 nA fA k10 a3 ((0 : Int32)) ((fA (ix ((a3 + (2 : Int32)))))) ((fA (ix ((a3 + (1 : Int32)))))) m else fL_law_441 nA fA k10 a3 ((1 : Int32)) ((fA (ix ((a3 + (2 : Int32)))))) ((fA (ix ((a3 + (1 : Int32)))))) m else none else none else none
noncomputable def tL_law_421 (nA : Nat) (fA : Nat → Int32) (j441 : qT (Unit × qM)) : qT (Unit × qM) :=
  oLa 1 (oLa 0 (oLi 3 (oC (.int (1 : Int32)) (o2 (· + ·) (oAx 10020 nA fA (oLa 0 (oLi 3 (oC (.int (2 : Int32)) (o2 (· + ·) (oAx 10020 nA fA (oLa 0 (oLi 3 (oC (.int (3 : Int32)) (o2 (· + ·) (oAx 10020 nA fA (oEq (oC (.int (0 : Int32)) (j441)) (oC (.int (1 : Int32)) (j441))))))))))))))))))
noncomputable def wL_law_421 (k : Int32 → qM → Option (Unit × qM)) : qT (Unit × qM) := fun lo st m => match lo, st with
  | [some (.ref 10020), some (.ref 0), some (.ref 98), some (.int a3)], [] => k a3 m
  | _, _ => none
set_option maxRecDepth 20000 in
theorem sL_law_421 {C : qCx} {w : qWp} {Qf : Unit × qM → State → Prop} {nA : Nat} {fA : Nat → Int32} (h : qOk C w RL cL_law 4 16 0 155) (hm : qLe C w Qf) (hS : qSc C w nA fA) {j441 : qT (Unit × qM)} (k441 : qSnd C w 4 0 Qf qfin 155 721 j441) : qSnd C w 4 0 Qf qfin 155 697 (tL_law_421 nA fA j441) :=
  cLa (pc := 697) h dL_law_697 rfl (cLa (pc := 698) h dL_law_698 rfl (cLi (pc := 699) h dL_law_699 rfl (cC (pc := 700) h dL_law_700 rfl (aAdd (pc := 701) h dL_law_701 (rAx (pc := 702) hS h dL_law_702 (cLa (pc := 703) h dL_law_703 rfl (cLi (pc := 704) h dL_law_704 rfl (cC (pc := 705) h dL_law_705 rfl (aAdd (pc := 706) h dL_law_706 (rAx (pc := 707) hS h dL_law_707 (cLa (pc := 708) h dL_law_708 rfl (cLi (pc := 709) h dL_law_709 rfl (cC (pc := 710) h dL_law_710 rfl (aAdd (pc := 711) h dL_law_711 (rAx (pc := 712) hS h dL_law_712 (jEq (pc := 713) h dL_law_713 rfl (cC (pc := 720) h dL_law_720 rfl (k441)) (cC (pc := 716) h dL_law_716 rfl (jGo (pc := 717) h dL_law_717 rfl (k441)))))))))))))))))))
set_option maxRecDepth 20000 in
theorem lL_law_421 {nA : Nat} {fA : Nat → Int32} (k10 : Int32 → qM → Option (Unit × qM)) (a3 : Int32) (m : qM) : tL_law_421 nA fA (wL_law_441 (fL_law_441 nA fA k10)) [some (.ref 10020), some (.ref 0), some (.ref 98), some (.int a3)] [] m = fL_law_421 nA fA k10 a3 m := rfl
theorem bL_law_421 {C : qCx} {w : qWp} {Qf : Unit × qM → State → Prop} {nA : Nat} {fA : Nat → Int32} (h : qOk C w RL cL_law 4 16 0 155) (hm : qLe C w Qf) (hS : qSc C w nA fA) {k10 : Int32 → qM → Option (Unit × qM)} (h10 : qSnd C w 4 0 Qf qfin 155 18 (wL_law_10 k10)) : qSnd C w 4 0 Qf qfin 155 697 (wL_law_421 (fL_law_421 nA fA k10)) :=
  qSnd_of (fun lo st m x hr0 => by
    unfold wL_law_421 at hr0
    split at hr0
    · exact ⟨_, (qsub_e (qsub_e (qsub_e (qsub_e qsub_nil)))), (lL_law_421 _ _ _).trans hr0⟩
    · cases hr0) (sL_law_421 h hm hS (bL_law_441 h hm hS h10))
noncomputable def fL_law_466 (nA : Nat) (fA : Nat → Int32) (k10 : Int32 → qM → Option (Unit × qM)) (a3 : Int32) (m : qM) : Option (Unit × qM) :=
  bif inb ((a3 + (1 : Int32))) nA then bif inb ((a3 + (2 : Int32))) nA then qbI (fX11_may ((fA (ix ((a3 + (1 : Int32)))))) ((fA (ix ((a3 + (2 : Int32)))))) m) (fun x57 m58 => bif inb ((a3 + (1 : Int32))) nA then bif inb ((a3 + (2 : Int32))) nA then qbI (fX13_may ((fA (ix ((a3 + (1 : Int32)))))) ((fA (ix ((a3 + (2 : Int32)))))) m58) (fun x59 m60 => bif eqb x57 x59 then fL_law_1111 nA fA k10 a3 m60 else bif eqb ((0 : Int32)) (1 : Int32) then some ((), m60) else none) else none else none) else none else none
noncomputable def tL_law_466 (nA : Nat) (fA : Nat → Int32) (j1111 : qT (Unit × qM)) : qT (Unit × qM) :=
  oLa 1 (oLa 0 (oLi 3 (oC (.int (1 : Int32)) (o2 (· + ·) (oAx 10020 nA fA (oLa 0 (oLi 3 (oC (.int (2 : Int32)) (o2 (· + ·) (oAx 10020 nA fA (oCi GX11_may 3 (oLa 2 (oLa 0 (oLi 3 (oC (.int (1 : Int32)) (o2 (· + ·) (oAx 10020 nA fA (oLa 0 (oLi 3 (oC (.int (2 : Int32)) (o2 (· + ·) (oAx 10020 nA fA (oCi GX13_may 3 (oCEq (j1111) (oC (.int (0 : Int32)) (eLaw))))))))))))))))))))))))))
noncomputable def wL_law_466 (k : Int32 → qM → Option (Unit × qM)) : qT (Unit × qM) := fun lo st m => match lo, st with
  | [some (.ref 10020), some (.ref 0), some (.ref 98), some (.int a3)], [] => k a3 m
  | _, _ => none
set_option maxRecDepth 20000 in
theorem sL_law_466 {C : qCx} {w : qWp} {Qf : Unit × qM → State → Prop} {nA : Nat} {fA : Nat → Int32} (h : qOk C w RL cL_law 4 16 0 155) (hm : qLe C w Qf) (hS : qSc C w nA fA) {j1111 : qT (Unit × qM)} (k1111 : qSnd C w 4 0 Qf qfin 155 1579 j1111) : qSnd C w 4 0 Qf qfin 155 756 (tL_law_466 nA fA j1111) :=
  cLa (pc := 756) h dL_law_756 rfl (cLa (pc := 757) h dL_law_757 rfl (cLi (pc := 758) h dL_law_758 rfl (cC (pc := 759) h dL_law_759 rfl (aAdd (pc := 760) h dL_law_760 (rAx (pc := 761) hS h dL_law_761 (cLa (pc := 762) h dL_law_762 rfl (cLi (pc := 763) h dL_law_763 rfl (cC (pc := 764) h dL_law_764 rfl (aAdd (pc := 765) h dL_law_765 (rAx (pc := 766) hS h dL_law_766 (kCi (pc := 767) h (kd_L_76 h dL_law_767) spX11_may (by decide) (by decide) (by decide) (by decide) (cLa (pc := 770) h dL_law_770 rfl (cLa (pc := 771) h dL_law_771 rfl (cLi (pc := 772) h dL_law_772 rfl (cC (pc := 773) h dL_law_773 rfl (aAdd (pc := 774) h dL_law_774 (rAx (pc := 775) hS h dL_law_775 (cLa (pc := 776) h dL_law_776 rfl (cLi (pc := 777) h dL_law_777 rfl (cC (pc := 778) h dL_law_778 rfl (aAdd (pc := 779) h dL_law_779 (rAx (pc := 780) hS h dL_law_780 (kCi (pc := 781) h (kd_L_79 h dL_law_781) spX13_may (by decide) (by decide) (by decide) (by decide) (jCEq (pc := 784) h dL_law_784 rfl (k1111) (cC (pc := 787) h dL_law_787 rfl (zLaw (pc := 788) hm dL_law_788))))))))))))))))))))))))))
set_option maxRecDepth 20000 in
theorem lL_law_466 {nA : Nat} {fA : Nat → Int32} (k10 : Int32 → qM → Option (Unit × qM)) (a3 : Int32) (m : qM) : tL_law_466 nA fA (wL_law_1111 (fL_law_1111 nA fA k10)) [some (.ref 10020), some (.ref 0), some (.ref 98), some (.int a3)] [] m = fL_law_466 nA fA k10 a3 m := rfl
theorem bL_law_466 {C : qCx} {w : qWp} {Qf : Unit × qM → State → Prop} {nA : Nat} {fA : Nat → Int32} (h : qOk C w RL cL_law 4 16 0 155) (hm : qLe C w Qf) (hS : qSc C w nA fA) {k10 : Int32 → qM → Option (Unit × qM)} (h10 : qSnd C w 4 0 Qf qfin 155 18 (wL_law_10 k10)) : qSnd C w 4 0 Qf qfin 155 756 (wL_law_466 (fL_law_466 nA fA k10)) :=
  qSnd_of (fun lo st m x hr0 => by
    unfold wL_law_466 at hr0
    split at hr0
    · exact ⟨_, (qsub_e (qsub_e (qsub_e (qsub_e qsub_nil)))), (lL_law_466 _ _ _).trans hr0⟩
    · cases hr0) (sL_law_466 h hm hS (bL_law_1111 h hm hS h10))
noncomputable def fL_law_493 (nA : Nat) (fA : Nat → Int32) (k10 : Int32 → qM → Option (Unit × qM)) (a3 : Int32) (m : qM) : Option (Unit × qM) :=
  bif inb ((a3 + (1 : Int32))) nA then bif inb ((a3 + (2 : Int32))) nA then qbI (fX11_lay ((fA (ix ((a3 + (1 : Int32)))))) ((fA (ix ((a3 + (2 : Int32)))))) m) (fun x61 m62 => bif inb ((a3 + (1 : Int32))) nA then bif inb ((a3 + (2 : Int32))) nA then qbI (fX13_lay_ ((fA (ix ((a3 + (1 : Int32)))))) ((fA (ix ((a3 + (2 : Int32)))))) m62) (fun x63 m64 => bif eqb x61 x63 then fL_law_1111 nA fA k10 a3 m64 else bif eqb ((0 : Int32)) (1 : Int32) then some ((), m64) else none) else none else none) else none else none
noncomputable def tL_law_493 (nA : Nat) (fA : Nat → Int32) (j1111 : qT (Unit × qM)) : qT (Unit × qM) :=
  oLa 1 (oLa 0 (oLi 3 (oC (.int (1 : Int32)) (o2 (· + ·) (oAx 10020 nA fA (oLa 0 (oLi 3 (oC (.int (2 : Int32)) (o2 (· + ·) (oAx 10020 nA fA (oCi GX11_lay 3 (oLa 2 (oLa 0 (oLi 3 (oC (.int (1 : Int32)) (o2 (· + ·) (oAx 10020 nA fA (oLa 0 (oLi 3 (oC (.int (2 : Int32)) (o2 (· + ·) (oAx 10020 nA fA (oCi GX13_lay_ 3 (oCEq (j1111) (oC (.int (0 : Int32)) (eLaw))))))))))))))))))))))))))
noncomputable def wL_law_493 (k : Int32 → qM → Option (Unit × qM)) : qT (Unit × qM) := fun lo st m => match lo, st with
  | [some (.ref 10020), some (.ref 0), some (.ref 98), some (.int a3)], [] => k a3 m
  | _, _ => none
set_option maxRecDepth 20000 in
theorem sL_law_493 {C : qCx} {w : qWp} {Qf : Unit × qM → State → Prop} {nA : Nat} {fA : Nat → Int32} (h : qOk C w RL cL_law 4 16 0 155) (hm : qLe C w Qf) (hS : qSc C w nA fA) {j1111 : qT (Unit × qM)} (k1111 : qSnd C w 4 0 Qf qfin 155 1579 j1111) : qSnd C w 4 0 Qf qfin 155 789 (tL_law_493 nA fA j1111) :=
  cLa (pc := 789) h dL_law_789 rfl (cLa (pc := 790) h dL_law_790 rfl (cLi (pc := 791) h dL_law_791 rfl (cC (pc := 792) h dL_law_792 rfl (aAdd (pc := 793) h dL_law_793 (rAx (pc := 794) hS h dL_law_794 (cLa (pc := 795) h dL_law_795 rfl (cLi (pc := 796) h dL_law_796 rfl (cC (pc := 797) h dL_law_797 rfl (aAdd (pc := 798) h dL_law_798 (rAx (pc := 799) hS h dL_law_799 (kCi (pc := 800) h (kd_L_80 h dL_law_800) spX11_lay (by decide) (by decide) (by decide) (by decide) (cLa (pc := 803) h dL_law_803 rfl (cLa (pc := 804) h dL_law_804 rfl (cLi (pc := 805) h dL_law_805 rfl (cC (pc := 806) h dL_law_806 rfl (aAdd (pc := 807) h dL_law_807 (rAx (pc := 808) hS h dL_law_808 (cLa (pc := 809) h dL_law_809 rfl (cLi (pc := 810) h dL_law_810 rfl (cC (pc := 811) h dL_law_811 rfl (aAdd (pc := 812) h dL_law_812 (rAx (pc := 813) hS h dL_law_813 (kCi (pc := 814) h (kd_L_83 h dL_law_814) spX13_lay_ (by decide) (by decide) (by decide) (by decide) (jCEq (pc := 817) h dL_law_817 rfl (k1111) (cC (pc := 820) h dL_law_820 rfl (zLaw (pc := 821) hm dL_law_821))))))))))))))))))))))))))
set_option maxRecDepth 20000 in
theorem lL_law_493 {nA : Nat} {fA : Nat → Int32} (k10 : Int32 → qM → Option (Unit × qM)) (a3 : Int32) (m : qM) : tL_law_493 nA fA (wL_law_1111 (fL_law_1111 nA fA k10)) [some (.ref 10020), some (.ref 0), some (.ref 98), some (.int a3)] [] m = fL_law_493 nA fA k10 a3 m := rfl
theorem bL_law_493 {C : qCx} {w : qWp} {Qf : Unit × qM → State → Prop} {nA : Nat} {fA : Nat → Int32} (h : qOk C w RL cL_law 4 16 0 155) (hm : qLe C w Qf) (hS : qSc C w nA fA) {k10 : Int32 → qM → Option (Unit × qM)} (h10 : qSnd C w 4 0 Qf qfin 155 18 (wL_law_10 k10)) : qSnd C w 4 0 Qf qfin 155 789 (wL_law_493 (fL_law_493 nA fA k10)) :=
  qSnd_of (fun lo st m x hr0 => by
    unfold wL_law_493 at hr0
    split at hr0
    · exact ⟨_, (qsub_e (qsub_e (qsub_e (qsub_e qsub_nil)))), (lL_law_493 _ _ _).trans hr0⟩
    · cases hr0) (sL_law_493 h hm hS (bL_law_1111 h hm hS h10))
noncomputable def fL_law_520 (nA : Nat) (fA : Nat → Int32) (k10 : Int32 → qM → Option (Unit × qM)) (a3 : Int32) (m : qM) : Option (Unit × qM) :=
  bif inb ((a3 + (1 : Int32))) nA then qbI (fX11_lift ((fA (ix ((a3 + (1 : Int32)))))) m) (fun x65 m66 => bif inb ((a3 + (1 : Int32))) nA then qbI (fX13_lift ((fA (ix ((a3 + (1 : Int32)))))) m66) (fun x67 m68 => bif eqb x65 x67 then fL_law_1111 nA fA k10 a3 m68 else bif eqb ((0 : Int32)) (1 : Int32) then some ((), m68) else none) else none) else none
noncomputable def tL_law_520 (nA : Nat) (fA : Nat → Int32) (j1111 : qT (Unit × qM)) : qT (Unit × qM) :=
  oLa 1 (oLa 0 (oLi 3 (oC (.int (1 : Int32)) (o2 (· + ·) (oAx 10020 nA fA (oCi GX11_lift 2 (oLa 2 (oLa 0 (oLi 3 (oC (.int (1 : Int32)) (o2 (· + ·) (oAx 10020 nA fA (oCi GX13_lift 2 (oCEq (j1111) (oC (.int (0 : Int32)) (eLaw))))))))))))))))
noncomputable def wL_law_520 (k : Int32 → qM → Option (Unit × qM)) : qT (Unit × qM) := fun lo st m => match lo, st with
  | [some (.ref 10020), some (.ref 0), some (.ref 98), some (.int a3)], [] => k a3 m
  | _, _ => none
set_option maxRecDepth 20000 in
theorem sL_law_520 {C : qCx} {w : qWp} {Qf : Unit × qM → State → Prop} {nA : Nat} {fA : Nat → Int32} (h : qOk C w RL cL_law 4 16 0 155) (hm : qLe C w Qf) (hS : qSc C w nA fA) {j1111 : qT (Unit × qM)} (k1111 : qSnd C w 4 0 Qf qfin 155 1579 j1111) : qSnd C w 4 0 Qf qfin 155 822 (tL_law_520 nA fA j1111) :=
  cLa (pc := 822) h dL_law_822 rfl (cLa (pc := 823) h dL_law_823 rfl (cLi (pc := 824) h dL_law_824 rfl (cC (pc := 825) h dL_law_825 rfl (aAdd (pc := 826) h dL_law_826 (rAx (pc := 827) hS h dL_law_827 (kCi (pc := 828) h (kd_L_84 h dL_law_828) spX11_lift (by decide) (by decide) (by decide) (by decide) (cLa (pc := 831) h dL_law_831 rfl (cLa (pc := 832) h dL_law_832 rfl (cLi (pc := 833) h dL_law_833 rfl (cC (pc := 834) h dL_law_834 rfl (aAdd (pc := 835) h dL_law_835 (rAx (pc := 836) hS h dL_law_836 (kCi (pc := 837) h (kd_L_87 h dL_law_837) spX13_lift (by decide) (by decide) (by decide) (by decide) (jCEq (pc := 840) h dL_law_840 rfl (k1111) (cC (pc := 843) h dL_law_843 rfl (zLaw (pc := 844) hm dL_law_844))))))))))))))))
set_option maxRecDepth 20000 in
theorem lL_law_520 {nA : Nat} {fA : Nat → Int32} (k10 : Int32 → qM → Option (Unit × qM)) (a3 : Int32) (m : qM) : tL_law_520 nA fA (wL_law_1111 (fL_law_1111 nA fA k10)) [some (.ref 10020), some (.ref 0), some (.ref 98), some (.int a3)] [] m = fL_law_520 nA fA k10 a3 m := rfl
theorem bL_law_520 {C : qCx} {w : qWp} {Qf : Unit × qM → State → Prop} {nA : Nat} {fA : Nat → Int32} (h : qOk C w RL cL_law 4 16 0 155) (hm : qLe C w Qf) (hS : qSc C w nA fA) {k10 : Int32 → qM → Option (Unit × qM)} (h10 : qSnd C w 4 0 Qf qfin 155 18 (wL_law_10 k10)) : qSnd C w 4 0 Qf qfin 155 822 (wL_law_520 (fL_law_520 nA fA k10)) :=
  qSnd_of (fun lo st m x hr0 => by
    unfold wL_law_520 at hr0
    split at hr0
    · exact ⟨_, (qsub_e (qsub_e (qsub_e (qsub_e qsub_nil)))), (lL_law_520 _ _ _).trans hr0⟩
    · cases hr0) (sL_law_520 h hm hS (bL_law_1111 h hm hS h10))
noncomputable def fL_law_537 (nA : Nat) (fA : Nat → Int32) (k10 : Int32 → qM → Option (Unit × qM)) (a3 : Int32) (m : qM) : Option (Unit × qM) :=
  qbI (fX11_layAll m) (fun x69 m70 => qbI (fX13_layAll m70) (fun x71 m72 => bif eqb x69 x71 then fL_law_1111 nA fA k10 a3 m72 else bif eqb ((0 : Int32)) (1 : Int32) then some ((), m72) else none))
noncomputable def tL_law_537 (nA : Nat) (fA : Nat → Int32) (j1111 : qT (Unit × qM)) : qT (Unit × qM) :=
  oLa 1 (oCi GX11_layAll 1 (oLa 2 (oCi GX13_layAll 1 (oCEq (j1111) (oC (.int (0 : Int32)) (eLaw))))))
noncomputable def wL_law_537 (k : Int32 → qM → Option (Unit × qM)) : qT (Unit × qM) := fun lo st m => match lo, st with
  | [some (.ref 10020), some (.ref 0), some (.ref 98), some (.int a3)], [] => k a3 m
  | _, _ => none
set_option maxRecDepth 20000 in
theorem sL_law_537 {C : qCx} {w : qWp} {Qf : Unit × qM → State → Prop} {nA : Nat} {fA : Nat → Int32} (h : qOk C w RL cL_law 4 16 0 155) (hm : qLe C w Qf) (hS : qSc C w nA fA) {j1111 : qT (Unit × qM)} (k1111 : qSnd C w 4 0 Qf qfin 155 1579 j1111) : qSnd C w 4 0 Qf qfin 155 845 (tL_law_537 nA fA j1111) :=
  cLa (pc := 845) h dL_law_845 rfl (kCi (pc := 846) h (kd_L_88 h dL_law_846) spX11_layAll (by decide) (by decide) (by decide) (by decide) (cLa (pc := 849) h dL_law_849 rfl (kCi (pc := 850) h (kd_L_91 h dL_law_850) spX13_layAll (by decide) (by decide) (by decide) (by decide) (jCEq (pc := 853) h dL_law_853 rfl (k1111) (cC (pc := 856) h dL_law_856 rfl (zLaw (pc := 857) hm dL_law_857))))))
set_option maxRecDepth 20000 in
theorem lL_law_537 {nA : Nat} {fA : Nat → Int32} (k10 : Int32 → qM → Option (Unit × qM)) (a3 : Int32) (m : qM) : tL_law_537 nA fA (wL_law_1111 (fL_law_1111 nA fA k10)) [some (.ref 10020), some (.ref 0), some (.ref 98), some (.int a3)] [] m = fL_law_537 nA fA k10 a3 m := rfl
theorem bL_law_537 {C : qCx} {w : qWp} {Qf : Unit × qM → State → Prop} {nA : Nat} {fA : Nat → Int32} (h : qOk C w RL cL_law 4 16 0 155) (hm : qLe C w Qf) (hS : qSc C w nA fA) {k10 : Int32 → qM → Option (Unit × qM)} (h10 : qSnd C w 4 0 Qf qfin 155 18 (wL_law_10 k10)) : qSnd C w 4 0 Qf qfin 155 845 (wL_law_537 (fL_law_537 nA fA k10)) :=
  qSnd_of (fun lo st m x hr0 => by
    unfold wL_law_537 at hr0
    split at hr0
    · exact ⟨_, (qsub_e (qsub_e (qsub_e (qsub_e qsub_nil)))), (lL_law_537 _ _ _).trans hr0⟩
    · cases hr0) (sL_law_537 h hm hS (bL_law_1111 h hm hS h10))
noncomputable def fL_law_544 (nA : Nat) (fA : Nat → Int32) (k10 : Int32 → qM → Option (Unit × qM)) (a3 : Int32) (m : qM) : Option (Unit × qM) :=
  bif inb ((a3 + (1 : Int32))) nA then qbI (fX11_best ((fA (ix ((a3 + (1 : Int32)))))) m) (fun x73 m74 => bif inb ((a3 + (1 : Int32))) nA then qbI (fX13_best ((fA (ix ((a3 + (1 : Int32)))))) m74) (fun x75 m76 => bif eqb x73 x75 then fL_law_1111 nA fA k10 a3 m76 else bif eqb ((0 : Int32)) (1 : Int32) then some ((), m76) else none) else none) else none
noncomputable def tL_law_544 (nA : Nat) (fA : Nat → Int32) (j1111 : qT (Unit × qM)) : qT (Unit × qM) :=
  oLa 1 (oLa 0 (oLi 3 (oC (.int (1 : Int32)) (o2 (· + ·) (oAx 10020 nA fA (oCi GX11_best 2 (oLa 2 (oLa 0 (oLi 3 (oC (.int (1 : Int32)) (o2 (· + ·) (oAx 10020 nA fA (oCi GX13_best 2 (oCEq (j1111) (oC (.int (0 : Int32)) (eLaw))))))))))))))))
noncomputable def wL_law_544 (k : Int32 → qM → Option (Unit × qM)) : qT (Unit × qM) := fun lo st m => match lo, st with
  | [some (.ref 10020), some (.ref 0), some (.ref 98), some (.int a3)], [] => k a3 m
  | _, _ => none
set_option maxRecDepth 20000 in
theorem sL_law_544 {C : qCx} {w : qWp} {Qf : Unit × qM → State → Prop} {nA : Nat} {fA : Nat → Int32} (h : qOk C w RL cL_law 4 16 0 155) (hm : qLe C w Qf) (hS : qSc C w nA fA) {j1111 : qT (Unit × qM)} (k1111 : qSnd C w 4 0 Qf qfin 155 1579 j1111) : qSnd C w 4 0 Qf qfin 155 858 (tL_law_544 nA fA j1111) :=
  cLa (pc := 858) h dL_law_858 rfl (cLa (pc := 859) h dL_law_859 rfl (cLi (pc := 860) h dL_law_860 rfl (cC (pc := 861) h dL_law_861 rfl (aAdd (pc := 862) h dL_law_862 (rAx (pc := 863) hS h dL_law_863 (kCi (pc := 864) h (kd_L_92 h dL_law_864) spX11_best (by decide) (by decide) (by decide) (by decide) (cLa (pc := 867) h dL_law_867 rfl (cLa (pc := 868) h dL_law_868 rfl (cLi (pc := 869) h dL_law_869 rfl (cC (pc := 870) h dL_law_870 rfl (aAdd (pc := 871) h dL_law_871 (rAx (pc := 872) hS h dL_law_872 (kCi (pc := 873) h (kd_L_95 h dL_law_873) spX13_best (by decide) (by decide) (by decide) (by decide) (jCEq (pc := 876) h dL_law_876 rfl (k1111) (cC (pc := 879) h dL_law_879 rfl (zLaw (pc := 880) hm dL_law_880))))))))))))))))
set_option maxRecDepth 20000 in
theorem lL_law_544 {nA : Nat} {fA : Nat → Int32} (k10 : Int32 → qM → Option (Unit × qM)) (a3 : Int32) (m : qM) : tL_law_544 nA fA (wL_law_1111 (fL_law_1111 nA fA k10)) [some (.ref 10020), some (.ref 0), some (.ref 98), some (.int a3)] [] m = fL_law_544 nA fA k10 a3 m := rfl
theorem bL_law_544 {C : qCx} {w : qWp} {Qf : Unit × qM → State → Prop} {nA : Nat} {fA : Nat → Int32} (h : qOk C w RL cL_law 4 16 0 155) (hm : qLe C w Qf) (hS : qSc C w nA fA) {k10 : Int32 → qM → Option (Unit × qM)} (h10 : qSnd C w 4 0 Qf qfin 155 18 (wL_law_10 k10)) : qSnd C w 4 0 Qf qfin 155 858 (wL_law_544 (fL_law_544 nA fA k10)) :=
  qSnd_of (fun lo st m x hr0 => by
    unfold wL_law_544 at hr0
    split at hr0
    · exact ⟨_, (qsub_e (qsub_e (qsub_e (qsub_e qsub_nil)))), (lL_law_544 _ _ _).trans hr0⟩
    · cases hr0) (sL_law_544 h hm hS (bL_law_1111 h hm hS h10))
noncomputable def fL_law_561 (nA : Nat) (fA : Nat → Int32) (k10 : Int32 → qM → Option (Unit × qM)) (a3 : Int32) (m : qM) : Option (Unit × qM) :=
  qbI (fX11_settle m) (fun x77 m78 => qbI (fX13_settle m78) (fun x79 m80 => bif eqb x77 x79 then fL_law_1111 nA fA k10 a3 m80 else bif eqb ((0 : Int32)) (1 : Int32) then some ((), m80) else none))
noncomputable def tL_law_561 (nA : Nat) (fA : Nat → Int32) (j1111 : qT (Unit × qM)) : qT (Unit × qM) :=
  oLa 1 (oCi GX11_settle 1 (oLa 2 (oCi GX13_settle 1 (oCEq (j1111) (oC (.int (0 : Int32)) (eLaw))))))
noncomputable def wL_law_561 (k : Int32 → qM → Option (Unit × qM)) : qT (Unit × qM) := fun lo st m => match lo, st with
  | [some (.ref 10020), some (.ref 0), some (.ref 98), some (.int a3)], [] => k a3 m
  | _, _ => none
set_option maxRecDepth 20000 in
theorem sL_law_561 {C : qCx} {w : qWp} {Qf : Unit × qM → State → Prop} {nA : Nat} {fA : Nat → Int32} (h : qOk C w RL cL_law 4 16 0 155) (hm : qLe C w Qf) (hS : qSc C w nA fA) {j1111 : qT (Unit × qM)} (k1111 : qSnd C w 4 0 Qf qfin 155 1579 j1111) : qSnd C w 4 0 Qf qfin 155 881 (tL_law_561 nA fA j1111) :=
  cLa (pc := 881) h dL_law_881 rfl (kCi (pc := 882) h (kd_L_96 h dL_law_882) spX11_settle (by decide) (by decide) (by decide) (by decide) (cLa (pc := 885) h dL_law_885 rfl (kCi (pc := 886) h (kd_L_99 h dL_law_886) spX13_settle (by decide) (by decide) (by decide) (by decide) (jCEq (pc := 889) h dL_law_889 rfl (k1111) (cC (pc := 892) h dL_law_892 rfl (zLaw (pc := 893) hm dL_law_893))))))
set_option maxRecDepth 20000 in
theorem lL_law_561 {nA : Nat} {fA : Nat → Int32} (k10 : Int32 → qM → Option (Unit × qM)) (a3 : Int32) (m : qM) : tL_law_561 nA fA (wL_law_1111 (fL_law_1111 nA fA k10)) [some (.ref 10020), some (.ref 0), some (.ref 98), some (.int a3)] [] m = fL_law_561 nA fA k10 a3 m := rfl
theorem bL_law_561 {C : qCx} {w : qWp} {Qf : Unit × qM → State → Prop} {nA : Nat} {fA : Nat → Int32} (h : qOk C w RL cL_law 4 16 0 155) (hm : qLe C w Qf) (hS : qSc C w nA fA) {k10 : Int32 → qM → Option (Unit × qM)} (h10 : qSnd C w 4 0 Qf qfin 155 18 (wL_law_10 k10)) : qSnd C w 4 0 Qf qfin 155 881 (wL_law_561 (fL_law_561 nA fA k10)) :=
  qSnd_of (fun lo st m x hr0 => by
    unfold wL_law_561 at hr0
    split at hr0
    · exact ⟨_, (qsub_e (qsub_e (qsub_e (qsub_e qsub_nil)))), (lL_law_561 _ _ _).trans hr0⟩
    · cases hr0) (sL_law_561 h hm hS (bL_law_1111 h hm hS h10))
noncomputable def fL_law_568 (nA : Nat) (fA : Nat → Int32) (k10 : Int32 → qM → Option (Unit × qM)) (a3 : Int32) (m : qM) : Option (Unit × qM) :=
  bif inb ((a3 + (1 : Int32))) nA then bif inb ((a3 + (2 : Int32))) nA then qbI (fX11_about ((fA (ix ((a3 + (1 : Int32)))))) ((fA (ix ((a3 + (2 : Int32)))))) m) (fun x81 m82 => bif inb ((a3 + (1 : Int32))) nA then bif inb ((a3 + (2 : Int32))) nA then qbI (fX13_about ((fA (ix ((a3 + (1 : Int32)))))) ((fA (ix ((a3 + (2 : Int32)))))) m82) (fun x83 m84 => bif eqb x81 x83 then fL_law_1111 nA fA k10 a3 m84 else bif eqb ((0 : Int32)) (1 : Int32) then some ((), m84) else none) else none else none) else none else none
noncomputable def tL_law_568 (nA : Nat) (fA : Nat → Int32) (j1111 : qT (Unit × qM)) : qT (Unit × qM) :=
  oLa 1 (oLa 0 (oLi 3 (oC (.int (1 : Int32)) (o2 (· + ·) (oAx 10020 nA fA (oLa 0 (oLi 3 (oC (.int (2 : Int32)) (o2 (· + ·) (oAx 10020 nA fA (oCi GX11_about 3 (oLa 2 (oLa 0 (oLi 3 (oC (.int (1 : Int32)) (o2 (· + ·) (oAx 10020 nA fA (oLa 0 (oLi 3 (oC (.int (2 : Int32)) (o2 (· + ·) (oAx 10020 nA fA (oCi GX13_about 3 (oCEq (j1111) (oC (.int (0 : Int32)) (eLaw))))))))))))))))))))))))))
noncomputable def wL_law_568 (k : Int32 → qM → Option (Unit × qM)) : qT (Unit × qM) := fun lo st m => match lo, st with
  | [some (.ref 10020), some (.ref 0), some (.ref 98), some (.int a3)], [] => k a3 m
  | _, _ => none
set_option maxRecDepth 20000 in
theorem sL_law_568 {C : qCx} {w : qWp} {Qf : Unit × qM → State → Prop} {nA : Nat} {fA : Nat → Int32} (h : qOk C w RL cL_law 4 16 0 155) (hm : qLe C w Qf) (hS : qSc C w nA fA) {j1111 : qT (Unit × qM)} (k1111 : qSnd C w 4 0 Qf qfin 155 1579 j1111) : qSnd C w 4 0 Qf qfin 155 894 (tL_law_568 nA fA j1111) :=
  cLa (pc := 894) h dL_law_894 rfl (cLa (pc := 895) h dL_law_895 rfl (cLi (pc := 896) h dL_law_896 rfl (cC (pc := 897) h dL_law_897 rfl (aAdd (pc := 898) h dL_law_898 (rAx (pc := 899) hS h dL_law_899 (cLa (pc := 900) h dL_law_900 rfl (cLi (pc := 901) h dL_law_901 rfl (cC (pc := 902) h dL_law_902 rfl (aAdd (pc := 903) h dL_law_903 (rAx (pc := 904) hS h dL_law_904 (kCi (pc := 905) h (kd_L_100 h dL_law_905) spX11_about (by decide) (by decide) (by decide) (by decide) (cLa (pc := 908) h dL_law_908 rfl (cLa (pc := 909) h dL_law_909 rfl (cLi (pc := 910) h dL_law_910 rfl (cC (pc := 911) h dL_law_911 rfl (aAdd (pc := 912) h dL_law_912 (rAx (pc := 913) hS h dL_law_913 (cLa (pc := 914) h dL_law_914 rfl (cLi (pc := 915) h dL_law_915 rfl (cC (pc := 916) h dL_law_916 rfl (aAdd (pc := 917) h dL_law_917 (rAx (pc := 918) hS h dL_law_918 (kCi (pc := 919) h (kd_L_103 h dL_law_919) spX13_about (by decide) (by decide) (by decide) (by decide) (jCEq (pc := 922) h dL_law_922 rfl (k1111) (cC (pc := 925) h dL_law_925 rfl (zLaw (pc := 926) hm dL_law_926))))))))))))))))))))))))))
set_option maxRecDepth 20000 in
theorem lL_law_568 {nA : Nat} {fA : Nat → Int32} (k10 : Int32 → qM → Option (Unit × qM)) (a3 : Int32) (m : qM) : tL_law_568 nA fA (wL_law_1111 (fL_law_1111 nA fA k10)) [some (.ref 10020), some (.ref 0), some (.ref 98), some (.int a3)] [] m = fL_law_568 nA fA k10 a3 m := rfl
theorem bL_law_568 {C : qCx} {w : qWp} {Qf : Unit × qM → State → Prop} {nA : Nat} {fA : Nat → Int32} (h : qOk C w RL cL_law 4 16 0 155) (hm : qLe C w Qf) (hS : qSc C w nA fA) {k10 : Int32 → qM → Option (Unit × qM)} (h10 : qSnd C w 4 0 Qf qfin 155 18 (wL_law_10 k10)) : qSnd C w 4 0 Qf qfin 155 894 (wL_law_568 (fL_law_568 nA fA k10)) :=
  qSnd_of (fun lo st m x hr0 => by
    unfold wL_law_568 at hr0
    split at hr0
    · exact ⟨_, (qsub_e (qsub_e (qsub_e (qsub_e qsub_nil)))), (lL_law_568 _ _ _).trans hr0⟩
    · cases hr0) (sL_law_568 h hm hS (bL_law_1111 h hm hS h10))
noncomputable def fL_law_595 (nA : Nat) (fA : Nat → Int32) (k10 : Int32 → qM → Option (Unit × qM)) (a3 : Int32) (m : qM) : Option (Unit × qM) :=
  bif inb ((a3 + (1 : Int32))) nA then qbI (fX11_waits ((fA (ix ((a3 + (1 : Int32)))))) m) (fun x85 m86 => bif inb ((a3 + (1 : Int32))) nA then qbI (fX13_waits ((fA (ix ((a3 + (1 : Int32)))))) m86) (fun x87 m88 => bif eqb x85 x87 then fL_law_1111 nA fA k10 a3 m88 else bif eqb ((0 : Int32)) (1 : Int32) then some ((), m88) else none) else none) else none
noncomputable def tL_law_595 (nA : Nat) (fA : Nat → Int32) (j1111 : qT (Unit × qM)) : qT (Unit × qM) :=
  oLa 1 (oLa 0 (oLi 3 (oC (.int (1 : Int32)) (o2 (· + ·) (oAx 10020 nA fA (oCi GX11_waits 2 (oLa 2 (oLa 0 (oLi 3 (oC (.int (1 : Int32)) (o2 (· + ·) (oAx 10020 nA fA (oCi GX13_waits 2 (oCEq (j1111) (oC (.int (0 : Int32)) (eLaw))))))))))))))))
noncomputable def wL_law_595 (k : Int32 → qM → Option (Unit × qM)) : qT (Unit × qM) := fun lo st m => match lo, st with
  | [some (.ref 10020), some (.ref 0), some (.ref 98), some (.int a3)], [] => k a3 m
  | _, _ => none
set_option maxRecDepth 20000 in
theorem sL_law_595 {C : qCx} {w : qWp} {Qf : Unit × qM → State → Prop} {nA : Nat} {fA : Nat → Int32} (h : qOk C w RL cL_law 4 16 0 155) (hm : qLe C w Qf) (hS : qSc C w nA fA) {j1111 : qT (Unit × qM)} (k1111 : qSnd C w 4 0 Qf qfin 155 1579 j1111) : qSnd C w 4 0 Qf qfin 155 927 (tL_law_595 nA fA j1111) :=
  cLa (pc := 927) h dL_law_927 rfl (cLa (pc := 928) h dL_law_928 rfl (cLi (pc := 929) h dL_law_929 rfl (cC (pc := 930) h dL_law_930 rfl (aAdd (pc := 931) h dL_law_931 (rAx (pc := 932) hS h dL_law_932 (kCi (pc := 933) h (kd_L_104 h dL_law_933) spX11_waits (by decide) (by decide) (by decide) (by decide) (cLa (pc := 936) h dL_law_936 rfl (cLa (pc := 937) h dL_law_937 rfl (cLi (pc := 938) h dL_law_938 rfl (cC (pc := 939) h dL_law_939 rfl (aAdd (pc := 940) h dL_law_940 (rAx (pc := 941) hS h dL_law_941 (kCi (pc := 942) h (kd_L_107 h dL_law_942) spX13_waits (by decide) (by decide) (by decide) (by decide) (jCEq (pc := 945) h dL_law_945 rfl (k1111) (cC (pc := 948) h dL_law_948 rfl (zLaw (pc := 949) hm dL_law_949))))))))))))))))
set_option maxRecDepth 20000 in
theorem lL_law_595 {nA : Nat} {fA : Nat → Int32} (k10 : Int32 → qM → Option (Unit × qM)) (a3 : Int32) (m : qM) : tL_law_595 nA fA (wL_law_1111 (fL_law_1111 nA fA k10)) [some (.ref 10020), some (.ref 0), some (.ref 98), some (.int a3)] [] m = fL_law_595 nA fA k10 a3 m := rfl
theorem bL_law_595 {C : qCx} {w : qWp} {Qf : Unit × qM → State → Prop} {nA : Nat} {fA : Nat → Int32} (h : qOk C w RL cL_law 4 16 0 155) (hm : qLe C w Qf) (hS : qSc C w nA fA) {k10 : Int32 → qM → Option (Unit × qM)} (h10 : qSnd C w 4 0 Qf qfin 155 18 (wL_law_10 k10)) : qSnd C w 4 0 Qf qfin 155 927 (wL_law_595 (fL_law_595 nA fA k10)) :=
  qSnd_of (fun lo st m x hr0 => by
    unfold wL_law_595 at hr0
    split at hr0
    · exact ⟨_, (qsub_e (qsub_e (qsub_e (qsub_e qsub_nil)))), (lL_law_595 _ _ _).trans hr0⟩
    · cases hr0) (sL_law_595 h hm hS (bL_law_1111 h hm hS h10))
noncomputable def fL_law_612 (nA : Nat) (fA : Nat → Int32) (k10 : Int32 → qM → Option (Unit × qM)) (a3 : Int32) (m : qM) : Option (Unit × qM) :=
  bif inb ((a3 + (1 : Int32))) nA then qbI (fX11_value ((fA (ix ((a3 + (1 : Int32)))))) m) (fun x89 m90 => bif inb ((a3 + (1 : Int32))) nA then qbI (fX13_value ((fA (ix ((a3 + (1 : Int32)))))) m90) (fun x91 m92 => bif eqb x89 x91 then fL_law_1111 nA fA k10 a3 m92 else bif eqb ((0 : Int32)) (1 : Int32) then some ((), m92) else none) else none) else none
noncomputable def tL_law_612 (nA : Nat) (fA : Nat → Int32) (j1111 : qT (Unit × qM)) : qT (Unit × qM) :=
  oLa 1 (oLa 0 (oLi 3 (oC (.int (1 : Int32)) (o2 (· + ·) (oAx 10020 nA fA (oCi GX11_value 2 (oLa 2 (oLa 0 (oLi 3 (oC (.int (1 : Int32)) (o2 (· + ·) (oAx 10020 nA fA (oCi GX13_value 2 (oCEq (j1111) (oC (.int (0 : Int32)) (eLaw))))))))))))))))
noncomputable def wL_law_612 (k : Int32 → qM → Option (Unit × qM)) : qT (Unit × qM) := fun lo st m => match lo, st with
  | [some (.ref 10020), some (.ref 0), some (.ref 98), some (.int a3)], [] => k a3 m
  | _, _ => none
set_option maxRecDepth 20000 in
theorem sL_law_612 {C : qCx} {w : qWp} {Qf : Unit × qM → State → Prop} {nA : Nat} {fA : Nat → Int32} (h : qOk C w RL cL_law 4 16 0 155) (hm : qLe C w Qf) (hS : qSc C w nA fA) {j1111 : qT (Unit × qM)} (k1111 : qSnd C w 4 0 Qf qfin 155 1579 j1111) : qSnd C w 4 0 Qf qfin 155 950 (tL_law_612 nA fA j1111) :=
  cLa (pc := 950) h dL_law_950 rfl (cLa (pc := 951) h dL_law_951 rfl (cLi (pc := 952) h dL_law_952 rfl (cC (pc := 953) h dL_law_953 rfl (aAdd (pc := 954) h dL_law_954 (rAx (pc := 955) hS h dL_law_955 (kCi (pc := 956) h (kd_L_108 h dL_law_956) spX11_value (by decide) (by decide) (by decide) (by decide) (cLa (pc := 959) h dL_law_959 rfl (cLa (pc := 960) h dL_law_960 rfl (cLi (pc := 961) h dL_law_961 rfl (cC (pc := 962) h dL_law_962 rfl (aAdd (pc := 963) h dL_law_963 (rAx (pc := 964) hS h dL_law_964 (kCi (pc := 965) h (kd_L_111 h dL_law_965) spX13_value (by decide) (by decide) (by decide) (by decide) (jCEq (pc := 968) h dL_law_968 rfl (k1111) (cC (pc := 971) h dL_law_971 rfl (zLaw (pc := 972) hm dL_law_972))))))))))))))))
set_option maxRecDepth 20000 in
theorem lL_law_612 {nA : Nat} {fA : Nat → Int32} (k10 : Int32 → qM → Option (Unit × qM)) (a3 : Int32) (m : qM) : tL_law_612 nA fA (wL_law_1111 (fL_law_1111 nA fA k10)) [some (.ref 10020), some (.ref 0), some (.ref 98), some (.int a3)] [] m = fL_law_612 nA fA k10 a3 m := rfl
theorem bL_law_612 {C : qCx} {w : qWp} {Qf : Unit × qM → State → Prop} {nA : Nat} {fA : Nat → Int32} (h : qOk C w RL cL_law 4 16 0 155) (hm : qLe C w Qf) (hS : qSc C w nA fA) {k10 : Int32 → qM → Option (Unit × qM)} (h10 : qSnd C w 4 0 Qf qfin 155 18 (wL_law_10 k10)) : qSnd C w 4 0 Qf qfin 155 950 (wL_law_612 (fL_law_612 nA fA k10)) :=
  qSnd_of (fun lo st m x hr0 => by
    unfold wL_law_612 at hr0
    split at hr0
    · exact ⟨_, (qsub_e (qsub_e (qsub_e (qsub_e qsub_nil)))), (lL_law_612 _ _ _).trans hr0⟩
    · cases hr0) (sL_law_612 h hm hS (bL_law_1111 h hm hS h10))
noncomputable def fL_law_629 (nA : Nat) (fA : Nat → Int32) (k10 : Int32 → qM → Option (Unit × qM)) (a3 : Int32) (m : qM) : Option (Unit × qM) :=
  bif inb ((a3 + (1 : Int32))) nA then bif inb ((a3 + (2 : Int32))) nA then qbI (fX11_habit ((fA (ix ((a3 + (1 : Int32)))))) ((fA (ix ((a3 + (2 : Int32)))))) m) (fun x93 m94 => bif inb ((a3 + (1 : Int32))) nA then bif inb ((a3 + (2 : Int32))) nA then qbI (fX13_habit ((fA (ix ((a3 + (1 : Int32)))))) ((fA (ix ((a3 + (2 : Int32)))))) m94) (fun x95 m96 => bif eqb x93 x95 then fL_law_1111 nA fA k10 a3 m96 else bif eqb ((0 : Int32)) (1 : Int32) then some ((), m96) else none) else none else none) else none else none
noncomputable def tL_law_629 (nA : Nat) (fA : Nat → Int32) (j1111 : qT (Unit × qM)) : qT (Unit × qM) :=
  oLa 1 (oLa 0 (oLi 3 (oC (.int (1 : Int32)) (o2 (· + ·) (oAx 10020 nA fA (oLa 0 (oLi 3 (oC (.int (2 : Int32)) (o2 (· + ·) (oAx 10020 nA fA (oCi GX11_habit 3 (oLa 2 (oLa 0 (oLi 3 (oC (.int (1 : Int32)) (o2 (· + ·) (oAx 10020 nA fA (oLa 0 (oLi 3 (oC (.int (2 : Int32)) (o2 (· + ·) (oAx 10020 nA fA (oCi GX13_habit 3 (oCEq (j1111) (oC (.int (0 : Int32)) (eLaw))))))))))))))))))))))))))
noncomputable def wL_law_629 (k : Int32 → qM → Option (Unit × qM)) : qT (Unit × qM) := fun lo st m => match lo, st with
  | [some (.ref 10020), some (.ref 0), some (.ref 98), some (.int a3)], [] => k a3 m
  | _, _ => none
set_option maxRecDepth 20000 in
theorem sL_law_629 {C : qCx} {w : qWp} {Qf : Unit × qM → State → Prop} {nA : Nat} {fA : Nat → Int32} (h : qOk C w RL cL_law 4 16 0 155) (hm : qLe C w Qf) (hS : qSc C w nA fA) {j1111 : qT (Unit × qM)} (k1111 : qSnd C w 4 0 Qf qfin 155 1579 j1111) : qSnd C w 4 0 Qf qfin 155 973 (tL_law_629 nA fA j1111) :=
  cLa (pc := 973) h dL_law_973 rfl (cLa (pc := 974) h dL_law_974 rfl (cLi (pc := 975) h dL_law_975 rfl (cC (pc := 976) h dL_law_976 rfl (aAdd (pc := 977) h dL_law_977 (rAx (pc := 978) hS h dL_law_978 (cLa (pc := 979) h dL_law_979 rfl (cLi (pc := 980) h dL_law_980 rfl (cC (pc := 981) h dL_law_981 rfl (aAdd (pc := 982) h dL_law_982 (rAx (pc := 983) hS h dL_law_983 (kCi (pc := 984) h (kd_L_112 h dL_law_984) spX11_habit (by decide) (by decide) (by decide) (by decide) (cLa (pc := 987) h dL_law_987 rfl (cLa (pc := 988) h dL_law_988 rfl (cLi (pc := 989) h dL_law_989 rfl (cC (pc := 990) h dL_law_990 rfl (aAdd (pc := 991) h dL_law_991 (rAx (pc := 992) hS h dL_law_992 (cLa (pc := 993) h dL_law_993 rfl (cLi (pc := 994) h dL_law_994 rfl (cC (pc := 995) h dL_law_995 rfl (aAdd (pc := 996) h dL_law_996 (rAx (pc := 997) hS h dL_law_997 (kCi (pc := 998) h (kd_L_115 h dL_law_998) spX13_habit (by decide) (by decide) (by decide) (by decide) (jCEq (pc := 1001) h dL_law_1001 rfl (k1111) (cC (pc := 1004) h dL_law_1004 rfl (zLaw (pc := 1005) hm dL_law_1005))))))))))))))))))))))))))
set_option maxRecDepth 20000 in
theorem lL_law_629 {nA : Nat} {fA : Nat → Int32} (k10 : Int32 → qM → Option (Unit × qM)) (a3 : Int32) (m : qM) : tL_law_629 nA fA (wL_law_1111 (fL_law_1111 nA fA k10)) [some (.ref 10020), some (.ref 0), some (.ref 98), some (.int a3)] [] m = fL_law_629 nA fA k10 a3 m := rfl
theorem bL_law_629 {C : qCx} {w : qWp} {Qf : Unit × qM → State → Prop} {nA : Nat} {fA : Nat → Int32} (h : qOk C w RL cL_law 4 16 0 155) (hm : qLe C w Qf) (hS : qSc C w nA fA) {k10 : Int32 → qM → Option (Unit × qM)} (h10 : qSnd C w 4 0 Qf qfin 155 18 (wL_law_10 k10)) : qSnd C w 4 0 Qf qfin 155 973 (wL_law_629 (fL_law_629 nA fA k10)) :=
  qSnd_of (fun lo st m x hr0 => by
    unfold wL_law_629 at hr0
    split at hr0
    · exact ⟨_, (qsub_e (qsub_e (qsub_e (qsub_e qsub_nil)))), (lL_law_629 _ _ _).trans hr0⟩
    · cases hr0) (sL_law_629 h hm hS (bL_law_1111 h hm hS h10))
noncomputable def fL_law_656 (nA : Nat) (fA : Nat → Int32) (k10 : Int32 → qM → Option (Unit × qM)) (a3 : Int32) (m : qM) : Option (Unit × qM) :=
  bif inb ((a3 + (1 : Int32))) nA then qbI (fX11_foretold ((fA (ix ((a3 + (1 : Int32)))))) m) (fun x97 m98 => bif inb ((a3 + (1 : Int32))) nA then qbI (fX13_foretold ((fA (ix ((a3 + (1 : Int32)))))) m98) (fun x99 m100 => bif eqb x97 x99 then fL_law_1111 nA fA k10 a3 m100 else bif eqb ((0 : Int32)) (1 : Int32) then some ((), m100) else none) else none) else none
noncomputable def tL_law_656 (nA : Nat) (fA : Nat → Int32) (j1111 : qT (Unit × qM)) : qT (Unit × qM) :=
  oLa 1 (oLa 0 (oLi 3 (oC (.int (1 : Int32)) (o2 (· + ·) (oAx 10020 nA fA (oCi GX11_foretold 2 (oLa 2 (oLa 0 (oLi 3 (oC (.int (1 : Int32)) (o2 (· + ·) (oAx 10020 nA fA (oCi GX13_foretold 2 (oCEq (j1111) (oC (.int (0 : Int32)) (eLaw))))))))))))))))
noncomputable def wL_law_656 (k : Int32 → qM → Option (Unit × qM)) : qT (Unit × qM) := fun lo st m => match lo, st with
  | [some (.ref 10020), some (.ref 0), some (.ref 98), some (.int a3)], [] => k a3 m
  | _, _ => none
set_option maxRecDepth 20000 in
theorem sL_law_656 {C : qCx} {w : qWp} {Qf : Unit × qM → State → Prop} {nA : Nat} {fA : Nat → Int32} (h : qOk C w RL cL_law 4 16 0 155) (hm : qLe C w Qf) (hS : qSc C w nA fA) {j1111 : qT (Unit × qM)} (k1111 : qSnd C w 4 0 Qf qfin 155 1579 j1111) : qSnd C w 4 0 Qf qfin 155 1006 (tL_law_656 nA fA j1111) :=
  cLa (pc := 1006) h dL_law_1006 rfl (cLa (pc := 1007) h dL_law_1007 rfl (cLi (pc := 1008) h dL_law_1008 rfl (cC (pc := 1009) h dL_law_1009 rfl (aAdd (pc := 1010) h dL_law_1010 (rAx (pc := 1011) hS h dL_law_1011 (kCi (pc := 1012) h (kd_L_116 h dL_law_1012) spX11_foretold (by decide) (by decide) (by decide) (by decide) (cLa (pc := 1015) h dL_law_1015 rfl (cLa (pc := 1016) h dL_law_1016 rfl (cLi (pc := 1017) h dL_law_1017 rfl (cC (pc := 1018) h dL_law_1018 rfl (aAdd (pc := 1019) h dL_law_1019 (rAx (pc := 1020) hS h dL_law_1020 (kCi (pc := 1021) h (kd_L_119 h dL_law_1021) spX13_foretold (by decide) (by decide) (by decide) (by decide) (jCEq (pc := 1024) h dL_law_1024 rfl (k1111) (cC (pc := 1027) h dL_law_1027 rfl (zLaw (pc := 1028) hm dL_law_1028))))))))))))))))
set_option maxRecDepth 20000 in
theorem lL_law_656 {nA : Nat} {fA : Nat → Int32} (k10 : Int32 → qM → Option (Unit × qM)) (a3 : Int32) (m : qM) : tL_law_656 nA fA (wL_law_1111 (fL_law_1111 nA fA k10)) [some (.ref 10020), some (.ref 0), some (.ref 98), some (.int a3)] [] m = fL_law_656 nA fA k10 a3 m := rfl
theorem bL_law_656 {C : qCx} {w : qWp} {Qf : Unit × qM → State → Prop} {nA : Nat} {fA : Nat → Int32} (h : qOk C w RL cL_law 4 16 0 155) (hm : qLe C w Qf) (hS : qSc C w nA fA) {k10 : Int32 → qM → Option (Unit × qM)} (h10 : qSnd C w 4 0 Qf qfin 155 18 (wL_law_10 k10)) : qSnd C w 4 0 Qf qfin 155 1006 (wL_law_656 (fL_law_656 nA fA k10)) :=
  qSnd_of (fun lo st m x hr0 => by
    unfold wL_law_656 at hr0
    split at hr0
    · exact ⟨_, (qsub_e (qsub_e (qsub_e (qsub_e qsub_nil)))), (lL_law_656 _ _ _).trans hr0⟩
    · cases hr0) (sL_law_656 h hm hS (bL_law_1111 h hm hS h10))
noncomputable def fL_law_673 (nA : Nat) (fA : Nat → Int32) (k10 : Int32 → qM → Option (Unit × qM)) (a3 : Int32) (m : qM) : Option (Unit × qM) :=
  qbI (fX11_begin m) (fun x101 m102 => qbI (fX13_begin m102) (fun x103 m104 => bif eqb x101 x103 then fL_law_1111 nA fA k10 a3 m104 else bif eqb ((0 : Int32)) (1 : Int32) then some ((), m104) else none))
noncomputable def tL_law_673 (nA : Nat) (fA : Nat → Int32) (j1111 : qT (Unit × qM)) : qT (Unit × qM) :=
  oLa 1 (oCi GX11_begin 1 (oLa 2 (oCi GX13_begin 1 (oCEq (j1111) (oC (.int (0 : Int32)) (eLaw))))))
noncomputable def wL_law_673 (k : Int32 → qM → Option (Unit × qM)) : qT (Unit × qM) := fun lo st m => match lo, st with
  | [some (.ref 10020), some (.ref 0), some (.ref 98), some (.int a3)], [] => k a3 m
  | _, _ => none
set_option maxRecDepth 20000 in
theorem sL_law_673 {C : qCx} {w : qWp} {Qf : Unit × qM → State → Prop} {nA : Nat} {fA : Nat → Int32} (h : qOk C w RL cL_law 4 16 0 155) (hm : qLe C w Qf) (hS : qSc C w nA fA) {j1111 : qT (Unit × qM)} (k1111 : qSnd C w 4 0 Qf qfin 155 1579 j1111) : qSnd C w 4 0 Qf qfin 155 1029 (tL_law_673 nA fA j1111) :=
  cLa (pc := 1029) h dL_law_1029 rfl (kCi (pc := 1030) h (kd_L_120 h dL_law_1030) spX11_begin (by decide) (by decide) (by decide) (by decide) (cLa (pc := 1033) h dL_law_1033 rfl (kCi (pc := 1034) h (kd_L_123 h dL_law_1034) spX13_begin (by decide) (by decide) (by decide) (by decide) (jCEq (pc := 1037) h dL_law_1037 rfl (k1111) (cC (pc := 1040) h dL_law_1040 rfl (zLaw (pc := 1041) hm dL_law_1041))))))
set_option maxRecDepth 20000 in
theorem lL_law_673 {nA : Nat} {fA : Nat → Int32} (k10 : Int32 → qM → Option (Unit × qM)) (a3 : Int32) (m : qM) : tL_law_673 nA fA (wL_law_1111 (fL_law_1111 nA fA k10)) [some (.ref 10020), some (.ref 0), some (.ref 98), some (.int a3)] [] m = fL_law_673 nA fA k10 a3 m := rfl
theorem bL_law_673 {C : qCx} {w : qWp} {Qf : Unit × qM → State → Prop} {nA : Nat} {fA : Nat → Int32} (h : qOk C w RL cL_law 4 16 0 155) (hm : qLe C w Qf) (hS : qSc C w nA fA) {k10 : Int32 → qM → Option (Unit × qM)} (h10 : qSnd C w 4 0 Qf qfin 155 18 (wL_law_10 k10)) : qSnd C w 4 0 Qf qfin 155 1029 (wL_law_673 (fL_law_673 nA fA k10)) :=
  qSnd_of (fun lo st m x hr0 => by
    unfold wL_law_673 at hr0
    split at hr0
    · exact ⟨_, (qsub_e (qsub_e (qsub_e (qsub_e qsub_nil)))), (lL_law_673 _ _ _).trans hr0⟩
    · cases hr0) (sL_law_673 h hm hS (bL_law_1111 h hm hS h10))
noncomputable def fL_law_680 (nA : Nat) (fA : Nat → Int32) (k10 : Int32 → qM → Option (Unit × qM)) (a3 : Int32) (m : qM) : Option (Unit × qM) :=
  bif inb ((a3 + (1 : Int32))) nA then bif inb ((a3 + (2 : Int32))) nA then bif inb ((a3 + (3 : Int32))) nA then qbI (fX11_over ((fA (ix ((a3 + (1 : Int32)))))) ((fA (ix ((a3 + (2 : Int32)))))) ((fA (ix ((a3 + (3 : Int32)))))) m) (fun x105 m106 => bif inb ((a3 + (1 : Int32))) nA then bif inb ((a3 + (2 : Int32))) nA then bif inb ((a3 + (3 : Int32))) nA then qbI (fX13_over ((fA (ix ((a3 + (1 : Int32)))))) ((fA (ix ((a3 + (2 : Int32)))))) ((fA (ix ((a3 + (3 : Int32)))))) m106) (fun x107 m108 => bif eqb x105 x107 then fL_law_1111 nA fA k10 a3 m108 else bif eqb ((0 : Int32)) (1 : Int32) then some ((), m108) else none) else none else none else none) else none else none else none
noncomputable def tL_law_680 (nA : Nat) (fA : Nat → Int32) (j1111 : qT (Unit × qM)) : qT (Unit × qM) :=
  oLa 1 (oLa 0 (oLi 3 (oC (.int (1 : Int32)) (o2 (· + ·) (oAx 10020 nA fA (oLa 0 (oLi 3 (oC (.int (2 : Int32)) (o2 (· + ·) (oAx 10020 nA fA (oLa 0 (oLi 3 (oC (.int (3 : Int32)) (o2 (· + ·) (oAx 10020 nA fA (oCi GX11_over 4 (oLa 2 (oLa 0 (oLi 3 (oC (.int (1 : Int32)) (o2 (· + ·) (oAx 10020 nA fA (oLa 0 (oLi 3 (oC (.int (2 : Int32)) (o2 (· + ·) (oAx 10020 nA fA (oLa 0 (oLi 3 (oC (.int (3 : Int32)) (o2 (· + ·) (oAx 10020 nA fA (oCi GX13_over 4 (oCEq (j1111) (oC (.int (0 : Int32)) (eLaw))))))))))))))))))))))))))))))))))))
noncomputable def wL_law_680 (k : Int32 → qM → Option (Unit × qM)) : qT (Unit × qM) := fun lo st m => match lo, st with
  | [some (.ref 10020), some (.ref 0), some (.ref 98), some (.int a3)], [] => k a3 m
  | _, _ => none
set_option maxRecDepth 20000 in
theorem sL_law_680 {C : qCx} {w : qWp} {Qf : Unit × qM → State → Prop} {nA : Nat} {fA : Nat → Int32} (h : qOk C w RL cL_law 4 16 0 155) (hm : qLe C w Qf) (hS : qSc C w nA fA) {j1111 : qT (Unit × qM)} (k1111 : qSnd C w 4 0 Qf qfin 155 1579 j1111) : qSnd C w 4 0 Qf qfin 155 1042 (tL_law_680 nA fA j1111) :=
  cLa (pc := 1042) h dL_law_1042 rfl (cLa (pc := 1043) h dL_law_1043 rfl (cLi (pc := 1044) h dL_law_1044 rfl (cC (pc := 1045) h dL_law_1045 rfl (aAdd (pc := 1046) h dL_law_1046 (rAx (pc := 1047) hS h dL_law_1047 (cLa (pc := 1048) h dL_law_1048 rfl (cLi (pc := 1049) h dL_law_1049 rfl (cC (pc := 1050) h dL_law_1050 rfl (aAdd (pc := 1051) h dL_law_1051 (rAx (pc := 1052) hS h dL_law_1052 (cLa (pc := 1053) h dL_law_1053 rfl (cLi (pc := 1054) h dL_law_1054 rfl (cC (pc := 1055) h dL_law_1055 rfl (aAdd (pc := 1056) h dL_law_1056 (rAx (pc := 1057) hS h dL_law_1057 (kCi (pc := 1058) h (kd_L_124 h dL_law_1058) spX11_over (by decide) (by decide) (by decide) (by decide) (cLa (pc := 1061) h dL_law_1061 rfl (cLa (pc := 1062) h dL_law_1062 rfl (cLi (pc := 1063) h dL_law_1063 rfl (cC (pc := 1064) h dL_law_1064 rfl (aAdd (pc := 1065) h dL_law_1065 (rAx (pc := 1066) hS h dL_law_1066 (cLa (pc := 1067) h dL_law_1067 rfl (cLi (pc := 1068) h dL_law_1068 rfl (cC (pc := 1069) h dL_law_1069 rfl (aAdd (pc := 1070) h dL_law_1070 (rAx (pc := 1071) hS h dL_law_1071 (cLa (pc := 1072) h dL_law_1072 rfl (cLi (pc := 1073) h dL_law_1073 rfl (cC (pc := 1074) h dL_law_1074 rfl (aAdd (pc := 1075) h dL_law_1075 (rAx (pc := 1076) hS h dL_law_1076 (kCi (pc := 1077) h (kd_L_127 h dL_law_1077) spX13_over (by decide) (by decide) (by decide) (by decide) (jCEq (pc := 1080) h dL_law_1080 rfl (k1111) (cC (pc := 1083) h dL_law_1083 rfl (zLaw (pc := 1084) hm dL_law_1084))))))))))))))))))))))))))))))))))))
set_option maxRecDepth 20000 in
theorem lL_law_680 {nA : Nat} {fA : Nat → Int32} (k10 : Int32 → qM → Option (Unit × qM)) (a3 : Int32) (m : qM) : tL_law_680 nA fA (wL_law_1111 (fL_law_1111 nA fA k10)) [some (.ref 10020), some (.ref 0), some (.ref 98), some (.int a3)] [] m = fL_law_680 nA fA k10 a3 m := rfl
theorem bL_law_680 {C : qCx} {w : qWp} {Qf : Unit × qM → State → Prop} {nA : Nat} {fA : Nat → Int32} (h : qOk C w RL cL_law 4 16 0 155) (hm : qLe C w Qf) (hS : qSc C w nA fA) {k10 : Int32 → qM → Option (Unit × qM)} (h10 : qSnd C w 4 0 Qf qfin 155 18 (wL_law_10 k10)) : qSnd C w 4 0 Qf qfin 155 1042 (wL_law_680 (fL_law_680 nA fA k10)) :=
  qSnd_of (fun lo st m x hr0 => by
    unfold wL_law_680 at hr0
    split at hr0
    · exact ⟨_, (qsub_e (qsub_e (qsub_e (qsub_e qsub_nil)))), (lL_law_680 _ _ _).trans hr0⟩
    · cases hr0) (sL_law_680 h hm hS (bL_law_1111 h hm hS h10))
noncomputable def fL_law_758 (nA : Nat) (fA : Nat → Int32) (k10 : Int32 → qM → Option (Unit × qM)) (a3 : Int32) (s0 : Int32) (s1 : Int32) (s2 : Int32) (s4 : Int32) (m : qM) : Option (Unit × qM) :=
  qbI (fX13_absent s2 s1 s0 m) (fun x111 m112 => bif eqb s4 x111 then fL_law_1111 nA fA k10 a3 m112 else bif eqb ((0 : Int32)) (1 : Int32) then some ((), m112) else none)
noncomputable def tL_law_758 (nA : Nat) (fA : Nat → Int32) (j1111 : qT (Unit × qM)) : qT (Unit × qM) :=
  oCi GX13_absent 4 (oCEq (j1111) (oC (.int (0 : Int32)) (eLaw)))
noncomputable def wL_law_758 (k : Int32 → Int32 → Int32 → Int32 → Int32 → qM → Option (Unit × qM)) : qT (Unit × qM) := fun lo st m => match lo, st with
  | [some (.ref 10020), some (.ref 0), some (.ref 98), some (.int a3)], [.int s0, .int s1, .int s2, .ref 98, .int s4] => k a3 s0 s1 s2 s4 m
  | _, _ => none
set_option maxRecDepth 20000 in
theorem sL_law_758 {C : qCx} {w : qWp} {Qf : Unit × qM → State → Prop} {nA : Nat} {fA : Nat → Int32} (h : qOk C w RL cL_law 4 16 0 155) (hm : qLe C w Qf) (hS : qSc C w nA fA) {j1111 : qT (Unit × qM)} (k1111 : qSnd C w 4 0 Qf qfin 155 1579 j1111) : qSnd C w 4 0 Qf qfin 155 1136 (tL_law_758 nA fA j1111) :=
  kCi (pc := 1136) h (kd_L_131 h dL_law_1136) spX13_absent (by decide) (by decide) (by decide) (by decide) (jCEq (pc := 1139) h dL_law_1139 rfl (k1111) (cC (pc := 1142) h dL_law_1142 rfl (zLaw (pc := 1143) hm dL_law_1143)))
set_option maxRecDepth 20000 in
theorem lL_law_758 {nA : Nat} {fA : Nat → Int32} (k10 : Int32 → qM → Option (Unit × qM)) (a3 : Int32) (s0 : Int32) (s1 : Int32) (s2 : Int32) (s4 : Int32) (m : qM) : tL_law_758 nA fA (wL_law_1111 (fL_law_1111 nA fA k10)) [some (.ref 10020), some (.ref 0), some (.ref 98), some (.int a3)] [(.int s0), (.int s1), (.int s2), (.ref 98), (.int s4)] m = fL_law_758 nA fA k10 a3 s0 s1 s2 s4 m := rfl
theorem bL_law_758 {C : qCx} {w : qWp} {Qf : Unit × qM → State → Prop} {nA : Nat} {fA : Nat → Int32} (h : qOk C w RL cL_law 4 16 0 155) (hm : qLe C w Qf) (hS : qSc C w nA fA) {k10 : Int32 → qM → Option (Unit × qM)} (h10 : qSnd C w 4 0 Qf qfin 155 18 (wL_law_10 k10)) : qSnd C w 4 0 Qf qfin 155 1136 (wL_law_758 (fL_law_758 nA fA k10)) :=
  qSnd_of (fun lo st m x hr0 => by
    unfold wL_law_758 at hr0
    split at hr0
    · exact ⟨_, (qsub_e (qsub_e (qsub_e (qsub_e qsub_nil)))), (lL_law_758 _ _ _ _ _ _ _).trans hr0⟩
    · cases hr0) (sL_law_758 h hm hS (bL_law_1111 h hm hS h10))
noncomputable def fL_law_737 (nA : Nat) (fA : Nat → Int32) (k10 : Int32 → qM → Option (Unit × qM)) (a3 : Int32) (s0 : Int32) (s1 : Int32) (s2 : Int32) (m : qM) : Option (Unit × qM) :=
  qbI (fX11_absent s2 s1 s0 m) (fun x109 m110 => bif inb ((a3 + (1 : Int32))) nA then bif inb ((a3 + (2 : Int32))) nA then bif inb ((a3 + (3 : Int32))) nA then bif eqb ((fA (ix ((a3 + (3 : Int32)))))) ((0 : Int32)) then fL_law_758 nA fA k10 a3 ((0 : Int32)) ((fA (ix ((a3 + (2 : Int32)))))) ((fA (ix ((a3 + (1 : Int32)))))) x109 m110 else fL_law_758 nA fA k10 a3 ((1 : Int32)) ((fA (ix ((a3 + (2 : Int32)))))) ((fA (ix ((a3 + (1 : Int32)))))) x109 m110 else none else none else none)
noncomputable def tL_law_737 (nA : Nat) (fA : Nat → Int32) (j758 : qT (Unit × qM)) : qT (Unit × qM) :=
  oCi GX11_absent 4 (oLa 2 (oLa 0 (oLi 3 (oC (.int (1 : Int32)) (o2 (· + ·) (oAx 10020 nA fA (oLa 0 (oLi 3 (oC (.int (2 : Int32)) (o2 (· + ·) (oAx 10020 nA fA (oLa 0 (oLi 3 (oC (.int (3 : Int32)) (o2 (· + ·) (oAx 10020 nA fA (oEq (oC (.int (0 : Int32)) (j758)) (oC (.int (1 : Int32)) (j758)))))))))))))))))))
noncomputable def wL_law_737 (k : Int32 → Int32 → Int32 → Int32 → qM → Option (Unit × qM)) : qT (Unit × qM) := fun lo st m => match lo, st with
  | [some (.ref 10020), some (.ref 0), some (.ref 98), some (.int a3)], [.int s0, .int s1, .int s2, .ref 0] => k a3 s0 s1 s2 m
  | _, _ => none
set_option maxRecDepth 20000 in
theorem sL_law_737 {C : qCx} {w : qWp} {Qf : Unit × qM → State → Prop} {nA : Nat} {fA : Nat → Int32} (h : qOk C w RL cL_law 4 16 0 155) (hm : qLe C w Qf) (hS : qSc C w nA fA) {j758 : qT (Unit × qM)} (k758 : qSnd C w 4 0 Qf qfin 155 1136 j758) : qSnd C w 4 0 Qf qfin 155 1109 (tL_law_737 nA fA j758) :=
  kCi (pc := 1109) h (kd_L_128 h dL_law_1109) spX11_absent (by decide) (by decide) (by decide) (by decide) (cLa (pc := 1112) h dL_law_1112 rfl (cLa (pc := 1113) h dL_law_1113 rfl (cLi (pc := 1114) h dL_law_1114 rfl (cC (pc := 1115) h dL_law_1115 rfl (aAdd (pc := 1116) h dL_law_1116 (rAx (pc := 1117) hS h dL_law_1117 (cLa (pc := 1118) h dL_law_1118 rfl (cLi (pc := 1119) h dL_law_1119 rfl (cC (pc := 1120) h dL_law_1120 rfl (aAdd (pc := 1121) h dL_law_1121 (rAx (pc := 1122) hS h dL_law_1122 (cLa (pc := 1123) h dL_law_1123 rfl (cLi (pc := 1124) h dL_law_1124 rfl (cC (pc := 1125) h dL_law_1125 rfl (aAdd (pc := 1126) h dL_law_1126 (rAx (pc := 1127) hS h dL_law_1127 (jEq (pc := 1128) h dL_law_1128 rfl (cC (pc := 1135) h dL_law_1135 rfl (k758)) (cC (pc := 1131) h dL_law_1131 rfl (jGo (pc := 1132) h dL_law_1132 rfl (k758))))))))))))))))))))
set_option maxRecDepth 20000 in
theorem lL_law_737 {nA : Nat} {fA : Nat → Int32} (k10 : Int32 → qM → Option (Unit × qM)) (a3 : Int32) (s0 : Int32) (s1 : Int32) (s2 : Int32) (m : qM) : tL_law_737 nA fA (wL_law_758 (fL_law_758 nA fA k10)) [some (.ref 10020), some (.ref 0), some (.ref 98), some (.int a3)] [(.int s0), (.int s1), (.int s2), (.ref 0)] m = fL_law_737 nA fA k10 a3 s0 s1 s2 m := rfl
theorem bL_law_737 {C : qCx} {w : qWp} {Qf : Unit × qM → State → Prop} {nA : Nat} {fA : Nat → Int32} (h : qOk C w RL cL_law 4 16 0 155) (hm : qLe C w Qf) (hS : qSc C w nA fA) {k10 : Int32 → qM → Option (Unit × qM)} (h10 : qSnd C w 4 0 Qf qfin 155 18 (wL_law_10 k10)) : qSnd C w 4 0 Qf qfin 155 1109 (wL_law_737 (fL_law_737 nA fA k10)) :=
  qSnd_of (fun lo st m x hr0 => by
    unfold wL_law_737 at hr0
    split at hr0
    · exact ⟨_, (qsub_e (qsub_e (qsub_e (qsub_e qsub_nil)))), (lL_law_737 _ _ _ _ _ _).trans hr0⟩
    · cases hr0) (sL_law_737 h hm hS (bL_law_758 h hm hS h10))
