/-! the law, more (by program) -/
noncomputable def fL_law_717 (nA : Nat) (fA : Nat → Int32) (k10 : Int32 → qM → Option (Unit × qM)) (a3 : Int32) (m : qM) : Option (Unit × qM) :=
  bif inb ((a3 + (1 : Int32))) nA then bif inb ((a3 + (2 : Int32))) nA then bif inb ((a3 + (3 : Int32))) nA then bif eqb ((fA (ix ((a3 + (3 : Int32)))))) ((0 : Int32)) then fL_law_737 nA fA k10 a3 ((0 : Int32)) ((fA (ix ((a3 + (2 : Int32)))))) ((fA (ix ((a3 + (1 : Int32)))))) m else fL_law_737 nA fA k10 a3 ((1 : Int32)) ((fA (ix ((a3 + (2 : Int32)))))) ((fA (ix ((a3 + (1 : Int32)))))) m else none else none else none
noncomputable def tL_law_717 (nA : Nat) (fA : Nat → Int32) (j737 : qT (Unit × qM)) : qT (Unit × qM) :=
  oLa 1 (oLa 0 (oLi 3 (oC (.int (1 : Int32)) (o2 (· + ·) (oAx 10020 nA fA (oLa 0 (oLi 3 (oC (.int (2 : Int32)) (o2 (· + ·) (oAx 10020 nA fA (oLa 0 (oLi 3 (oC (.int (3 : Int32)) (o2 (· + ·) (oAx 10020 nA fA (oEq (oC (.int (0 : Int32)) (j737)) (oC (.int (1 : Int32)) (j737))))))))))))))))))
noncomputable def wL_law_717 (k : Int32 → qM → Option (Unit × qM)) : qT (Unit × qM) := fun lo st m => match lo, st with
  | [some (.ref 10020), some (.ref 0), some (.ref 98), some (.int a3)], [] => k a3 m
  | _, _ => none
set_option maxRecDepth 20000 in
theorem sL_law_717 {C : qCx} {w : qWp} {Qf : Unit × qM → State → Prop} {nA : Nat} {fA : Nat → Int32} (h : qOk C w RL cL_law 4 16 0 155) (hm : qLe C w Qf) (hS : qSc C w nA fA) {j737 : qT (Unit × qM)} (k737 : qSnd C w 4 0 Qf qfin 155 1109 j737) : qSnd C w 4 0 Qf qfin 155 1085 (tL_law_717 nA fA j737) :=
  cLa (pc := 1085) h dL_law_1085 rfl (cLa (pc := 1086) h dL_law_1086 rfl (cLi (pc := 1087) h dL_law_1087 rfl (cC (pc := 1088) h dL_law_1088 rfl (aAdd (pc := 1089) h dL_law_1089 (rAx (pc := 1090) hS h dL_law_1090 (cLa (pc := 1091) h dL_law_1091 rfl (cLi (pc := 1092) h dL_law_1092 rfl (cC (pc := 1093) h dL_law_1093 rfl (aAdd (pc := 1094) h dL_law_1094 (rAx (pc := 1095) hS h dL_law_1095 (cLa (pc := 1096) h dL_law_1096 rfl (cLi (pc := 1097) h dL_law_1097 rfl (cC (pc := 1098) h dL_law_1098 rfl (aAdd (pc := 1099) h dL_law_1099 (rAx (pc := 1100) hS h dL_law_1100 (jEq (pc := 1101) h dL_law_1101 rfl (cC (pc := 1108) h dL_law_1108 rfl (k737)) (cC (pc := 1104) h dL_law_1104 rfl (jGo (pc := 1105) h dL_law_1105 rfl (k737)))))))))))))))))))
set_option maxRecDepth 20000 in
theorem lL_law_717 {nA : Nat} {fA : Nat → Int32} (k10 : Int32 → qM → Option (Unit × qM)) (a3 : Int32) (m : qM) : tL_law_717 nA fA (wL_law_737 (fL_law_737 nA fA k10)) [some (.ref 10020), some (.ref 0), some (.ref 98), some (.int a3)] [] m = fL_law_717 nA fA k10 a3 m := rfl
theorem bL_law_717 {C : qCx} {w : qWp} {Qf : Unit × qM → State → Prop} {nA : Nat} {fA : Nat → Int32} (h : qOk C w RL cL_law 4 16 0 155) (hm : qLe C w Qf) (hS : qSc C w nA fA) {k10 : Int32 → qM → Option (Unit × qM)} (h10 : qSnd C w 4 0 Qf qfin 155 18 (wL_law_10 k10)) : qSnd C w 4 0 Qf qfin 155 1085 (wL_law_717 (fL_law_717 nA fA k10)) :=
  qSnd_of (fun lo st m x hr0 => by
    unfold wL_law_717 at hr0
    split at hr0
    · exact ⟨_, (qsub_e (qsub_e (qsub_e (qsub_e qsub_nil)))), (lL_law_717 _ _ _).trans hr0⟩
    · cases hr0) (sL_law_717 h hm hS (bL_law_737 h hm hS h10))
noncomputable def fL_law_762 (nA : Nat) (fA : Nat → Int32) (k10 : Int32 → qM → Option (Unit × qM)) (a3 : Int32) (m : qM) : Option (Unit × qM) :=
  bif inb ((a3 + (1 : Int32))) nA then bif inb ((a3 + (2 : Int32))) nA then bif inb ((a3 + (3 : Int32))) nA then qbI (fX11_comes ((fA (ix ((a3 + (1 : Int32)))))) ((fA (ix ((a3 + (2 : Int32)))))) ((fA (ix ((a3 + (3 : Int32)))))) m) (fun x113 m114 => bif inb ((a3 + (1 : Int32))) nA then bif inb ((a3 + (2 : Int32))) nA then bif inb ((a3 + (3 : Int32))) nA then qbI (fX13_comes ((fA (ix ((a3 + (1 : Int32)))))) ((fA (ix ((a3 + (2 : Int32)))))) ((fA (ix ((a3 + (3 : Int32)))))) m114) (fun x115 m116 => bif eqb x113 x115 then fL_law_1111 nA fA k10 a3 m116 else bif eqb ((0 : Int32)) (1 : Int32) then some ((), m116) else none) else none else none else none) else none else none else none
noncomputable def tL_law_762 (nA : Nat) (fA : Nat → Int32) (j1111 : qT (Unit × qM)) : qT (Unit × qM) :=
  oLa 1 (oLa 0 (oLi 3 (oC (.int (1 : Int32)) (o2 (· + ·) (oAx 10020 nA fA (oLa 0 (oLi 3 (oC (.int (2 : Int32)) (o2 (· + ·) (oAx 10020 nA fA (oLa 0 (oLi 3 (oC (.int (3 : Int32)) (o2 (· + ·) (oAx 10020 nA fA (oCi GX11_comes 4 (oLa 2 (oLa 0 (oLi 3 (oC (.int (1 : Int32)) (o2 (· + ·) (oAx 10020 nA fA (oLa 0 (oLi 3 (oC (.int (2 : Int32)) (o2 (· + ·) (oAx 10020 nA fA (oLa 0 (oLi 3 (oC (.int (3 : Int32)) (o2 (· + ·) (oAx 10020 nA fA (oCi GX13_comes 4 (oCEq (j1111) (oC (.int (0 : Int32)) (eLaw))))))))))))))))))))))))))))))))))))
noncomputable def wL_law_762 (k : Int32 → qM → Option (Unit × qM)) : qT (Unit × qM) := fun lo st m => match lo, st with
  | [some (.ref 10020), some (.ref 0), some (.ref 98), some (.int a3)], [] => k a3 m
  | _, _ => none
set_option maxRecDepth 20000 in
theorem sL_law_762 {C : qCx} {w : qWp} {Qf : Unit × qM → State → Prop} {nA : Nat} {fA : Nat → Int32} (h : qOk C w RL cL_law 4 16 0 155) (hm : qLe C w Qf) (hS : qSc C w nA fA) {j1111 : qT (Unit × qM)} (k1111 : qSnd C w 4 0 Qf qfin 155 1579 j1111) : qSnd C w 4 0 Qf qfin 155 1144 (tL_law_762 nA fA j1111) :=
  cLa (pc := 1144) h dL_law_1144 rfl (cLa (pc := 1145) h dL_law_1145 rfl (cLi (pc := 1146) h dL_law_1146 rfl (cC (pc := 1147) h dL_law_1147 rfl (aAdd (pc := 1148) h dL_law_1148 (rAx (pc := 1149) hS h dL_law_1149 (cLa (pc := 1150) h dL_law_1150 rfl (cLi (pc := 1151) h dL_law_1151 rfl (cC (pc := 1152) h dL_law_1152 rfl (aAdd (pc := 1153) h dL_law_1153 (rAx (pc := 1154) hS h dL_law_1154 (cLa (pc := 1155) h dL_law_1155 rfl (cLi (pc := 1156) h dL_law_1156 rfl (cC (pc := 1157) h dL_law_1157 rfl (aAdd (pc := 1158) h dL_law_1158 (rAx (pc := 1159) hS h dL_law_1159 (kCi (pc := 1160) h (kd_L_132 h dL_law_1160) spX11_comes (by decide) (by decide) (by decide) (by decide) (cLa (pc := 1163) h dL_law_1163 rfl (cLa (pc := 1164) h dL_law_1164 rfl (cLi (pc := 1165) h dL_law_1165 rfl (cC (pc := 1166) h dL_law_1166 rfl (aAdd (pc := 1167) h dL_law_1167 (rAx (pc := 1168) hS h dL_law_1168 (cLa (pc := 1169) h dL_law_1169 rfl (cLi (pc := 1170) h dL_law_1170 rfl (cC (pc := 1171) h dL_law_1171 rfl (aAdd (pc := 1172) h dL_law_1172 (rAx (pc := 1173) hS h dL_law_1173 (cLa (pc := 1174) h dL_law_1174 rfl (cLi (pc := 1175) h dL_law_1175 rfl (cC (pc := 1176) h dL_law_1176 rfl (aAdd (pc := 1177) h dL_law_1177 (rAx (pc := 1178) hS h dL_law_1178 (kCi (pc := 1179) h (kd_L_135 h dL_law_1179) spX13_comes (by decide) (by decide) (by decide) (by decide) (jCEq (pc := 1182) h dL_law_1182 rfl (k1111) (cC (pc := 1185) h dL_law_1185 rfl (zLaw (pc := 1186) hm dL_law_1186))))))))))))))))))))))))))))))))))))
set_option maxRecDepth 20000 in
theorem lL_law_762 {nA : Nat} {fA : Nat → Int32} (k10 : Int32 → qM → Option (Unit × qM)) (a3 : Int32) (m : qM) : tL_law_762 nA fA (wL_law_1111 (fL_law_1111 nA fA k10)) [some (.ref 10020), some (.ref 0), some (.ref 98), some (.int a3)] [] m = fL_law_762 nA fA k10 a3 m := rfl
theorem bL_law_762 {C : qCx} {w : qWp} {Qf : Unit × qM → State → Prop} {nA : Nat} {fA : Nat → Int32} (h : qOk C w RL cL_law 4 16 0 155) (hm : qLe C w Qf) (hS : qSc C w nA fA) {k10 : Int32 → qM → Option (Unit × qM)} (h10 : qSnd C w 4 0 Qf qfin 155 18 (wL_law_10 k10)) : qSnd C w 4 0 Qf qfin 155 1144 (wL_law_762 (fL_law_762 nA fA k10)) :=
  qSnd_of (fun lo st m x hr0 => by
    unfold wL_law_762 at hr0
    split at hr0
    · exact ⟨_, (qsub_e (qsub_e (qsub_e (qsub_e qsub_nil)))), (lL_law_762 _ _ _).trans hr0⟩
    · cases hr0) (sL_law_762 h hm hS (bL_law_1111 h hm hS h10))
noncomputable def fL_law_799 (nA : Nat) (fA : Nat → Int32) (k10 : Int32 → qM → Option (Unit × qM)) (a3 : Int32) (m : qM) : Option (Unit × qM) :=
  bif inb ((a3 + (1 : Int32))) nA then bif inb ((a3 + (2 : Int32))) nA then bif inb ((a3 + (3 : Int32))) nA then bif inb ((a3 + (4 : Int32))) nA then qbI (fX11_away ((fA (ix ((a3 + (1 : Int32)))))) ((fA (ix ((a3 + (2 : Int32)))))) ((fA (ix ((a3 + (3 : Int32)))))) ((fA (ix ((a3 + (4 : Int32)))))) m) (fun x117 m118 => bif inb ((a3 + (1 : Int32))) nA then bif inb ((a3 + (2 : Int32))) nA then bif inb ((a3 + (3 : Int32))) nA then bif inb ((a3 + (4 : Int32))) nA then qbI (fX13_away ((fA (ix ((a3 + (1 : Int32)))))) ((fA (ix ((a3 + (2 : Int32)))))) ((fA (ix ((a3 + (3 : Int32)))))) ((fA (ix ((a3 + (4 : Int32)))))) m118) (fun x119 m120 => bif eqb x117 x119 then fL_law_1111 nA fA k10 a3 m120 else bif eqb ((0 : Int32)) (1 : Int32) then some ((), m120) else none) else none else none else none else none) else none else none else none else none
noncomputable def tL_law_799 (nA : Nat) (fA : Nat → Int32) (j1111 : qT (Unit × qM)) : qT (Unit × qM) :=
  oLa 1 (oLa 0 (oLi 3 (oC (.int (1 : Int32)) (o2 (· + ·) (oAx 10020 nA fA (oLa 0 (oLi 3 (oC (.int (2 : Int32)) (o2 (· + ·) (oAx 10020 nA fA (oLa 0 (oLi 3 (oC (.int (3 : Int32)) (o2 (· + ·) (oAx 10020 nA fA (oLa 0 (oLi 3 (oC (.int (4 : Int32)) (o2 (· + ·) (oAx 10020 nA fA (oCi GX11_away 5 (oLa 2 (oLa 0 (oLi 3 (oC (.int (1 : Int32)) (o2 (· + ·) (oAx 10020 nA fA (oLa 0 (oLi 3 (oC (.int (2 : Int32)) (o2 (· + ·) (oAx 10020 nA fA (oLa 0 (oLi 3 (oC (.int (3 : Int32)) (o2 (· + ·) (oAx 10020 nA fA (oLa 0 (oLi 3 (oC (.int (4 : Int32)) (o2 (· + ·) (oAx 10020 nA fA (oCi GX13_away 5 (oCEq (j1111) (oC (.int (0 : Int32)) (eLaw))))))))))))))))))))))))))))))))))))))))))))))
noncomputable def wL_law_799 (k : Int32 → qM → Option (Unit × qM)) : qT (Unit × qM) := fun lo st m => match lo, st with
  | [some (.ref 10020), some (.ref 0), some (.ref 98), some (.int a3)], [] => k a3 m
  | _, _ => none
set_option maxRecDepth 20000 in
theorem sL_law_799 {C : qCx} {w : qWp} {Qf : Unit × qM → State → Prop} {nA : Nat} {fA : Nat → Int32} (h : qOk C w RL cL_law 4 16 0 155) (hm : qLe C w Qf) (hS : qSc C w nA fA) {j1111 : qT (Unit × qM)} (k1111 : qSnd C w 4 0 Qf qfin 155 1579 j1111) : qSnd C w 4 0 Qf qfin 155 1187 (tL_law_799 nA fA j1111) :=
  cLa (pc := 1187) h dL_law_1187 rfl (cLa (pc := 1188) h dL_law_1188 rfl (cLi (pc := 1189) h dL_law_1189 rfl (cC (pc := 1190) h dL_law_1190 rfl (aAdd (pc := 1191) h dL_law_1191 (rAx (pc := 1192) hS h dL_law_1192 (cLa (pc := 1193) h dL_law_1193 rfl (cLi (pc := 1194) h dL_law_1194 rfl (cC (pc := 1195) h dL_law_1195 rfl (aAdd (pc := 1196) h dL_law_1196 (rAx (pc := 1197) hS h dL_law_1197 (cLa (pc := 1198) h dL_law_1198 rfl (cLi (pc := 1199) h dL_law_1199 rfl (cC (pc := 1200) h dL_law_1200 rfl (aAdd (pc := 1201) h dL_law_1201 (rAx (pc := 1202) hS h dL_law_1202 (cLa (pc := 1203) h dL_law_1203 rfl (cLi (pc := 1204) h dL_law_1204 rfl (cC (pc := 1205) h dL_law_1205 rfl (aAdd (pc := 1206) h dL_law_1206 (rAx (pc := 1207) hS h dL_law_1207 (kCi (pc := 1208) h (kd_L_136 h dL_law_1208) spX11_away (by decide) (by decide) (by decide) (by decide) (cLa (pc := 1211) h dL_law_1211 rfl (cLa (pc := 1212) h dL_law_1212 rfl (cLi (pc := 1213) h dL_law_1213 rfl (cC (pc := 1214) h dL_law_1214 rfl (aAdd (pc := 1215) h dL_law_1215 (rAx (pc := 1216) hS h dL_law_1216 (cLa (pc := 1217) h dL_law_1217 rfl (cLi (pc := 1218) h dL_law_1218 rfl (cC (pc := 1219) h dL_law_1219 rfl (aAdd (pc := 1220) h dL_law_1220 (rAx (pc := 1221) hS h dL_law_1221 (cLa (pc := 1222) h dL_law_1222 rfl (cLi (pc := 1223) h dL_law_1223 rfl (cC (pc := 1224) h dL_law_1224 rfl (aAdd (pc := 1225) h dL_law_1225 (rAx (pc := 1226) hS h dL_law_1226 (cLa (pc := 1227) h dL_law_1227 rfl (cLi (pc := 1228) h dL_law_1228 rfl (cC (pc := 1229) h dL_law_1229 rfl (aAdd (pc := 1230) h dL_law_1230 (rAx (pc := 1231) hS h dL_law_1231 (kCi (pc := 1232) h (kd_L_139 h dL_law_1232) spX13_away (by decide) (by decide) (by decide) (by decide) (jCEq (pc := 1235) h dL_law_1235 rfl (k1111) (cC (pc := 1238) h dL_law_1238 rfl (zLaw (pc := 1239) hm dL_law_1239))))))))))))))))))))))))))))))))))))))))))))))
set_option maxRecDepth 20000 in
theorem lL_law_799 {nA : Nat} {fA : Nat → Int32} (k10 : Int32 → qM → Option (Unit × qM)) (a3 : Int32) (m : qM) : tL_law_799 nA fA (wL_law_1111 (fL_law_1111 nA fA k10)) [some (.ref 10020), some (.ref 0), some (.ref 98), some (.int a3)] [] m = fL_law_799 nA fA k10 a3 m := rfl
theorem bL_law_799 {C : qCx} {w : qWp} {Qf : Unit × qM → State → Prop} {nA : Nat} {fA : Nat → Int32} (h : qOk C w RL cL_law 4 16 0 155) (hm : qLe C w Qf) (hS : qSc C w nA fA) {k10 : Int32 → qM → Option (Unit × qM)} (h10 : qSnd C w 4 0 Qf qfin 155 18 (wL_law_10 k10)) : qSnd C w 4 0 Qf qfin 155 1187 (wL_law_799 (fL_law_799 nA fA k10)) :=
  qSnd_of (fun lo st m x hr0 => by
    unfold wL_law_799 at hr0
    split at hr0
    · exact ⟨_, (qsub_e (qsub_e (qsub_e (qsub_e qsub_nil)))), (lL_law_799 _ _ _).trans hr0⟩
    · cases hr0) (sL_law_799 h hm hS (bL_law_1111 h hm hS h10))
noncomputable def fL_law_846 (nA : Nat) (fA : Nat → Int32) (k10 : Int32 → qM → Option (Unit × qM)) (a3 : Int32) (m : qM) : Option (Unit × qM) :=
  bif inb ((a3 + (1 : Int32))) nA then bif inb ((a3 + (2 : Int32))) nA then bif inb ((a3 + (3 : Int32))) nA then qbI (fX11_meeting ((fA (ix ((a3 + (1 : Int32)))))) ((fA (ix ((a3 + (2 : Int32)))))) ((fA (ix ((a3 + (3 : Int32)))))) m) (fun x121 m122 => bif inb ((a3 + (1 : Int32))) nA then bif inb ((a3 + (2 : Int32))) nA then bif inb ((a3 + (3 : Int32))) nA then qbI (fX13_meeting ((fA (ix ((a3 + (1 : Int32)))))) ((fA (ix ((a3 + (2 : Int32)))))) ((fA (ix ((a3 + (3 : Int32)))))) m122) (fun x123 m124 => bif eqb x121 x123 then fL_law_1111 nA fA k10 a3 m124 else bif eqb ((0 : Int32)) (1 : Int32) then some ((), m124) else none) else none else none else none) else none else none else none
noncomputable def tL_law_846 (nA : Nat) (fA : Nat → Int32) (j1111 : qT (Unit × qM)) : qT (Unit × qM) :=
  oLa 1 (oLa 0 (oLi 3 (oC (.int (1 : Int32)) (o2 (· + ·) (oAx 10020 nA fA (oLa 0 (oLi 3 (oC (.int (2 : Int32)) (o2 (· + ·) (oAx 10020 nA fA (oLa 0 (oLi 3 (oC (.int (3 : Int32)) (o2 (· + ·) (oAx 10020 nA fA (oCi GX11_meeting 4 (oLa 2 (oLa 0 (oLi 3 (oC (.int (1 : Int32)) (o2 (· + ·) (oAx 10020 nA fA (oLa 0 (oLi 3 (oC (.int (2 : Int32)) (o2 (· + ·) (oAx 10020 nA fA (oLa 0 (oLi 3 (oC (.int (3 : Int32)) (o2 (· + ·) (oAx 10020 nA fA (oCi GX13_meeting 4 (oCEq (j1111) (oC (.int (0 : Int32)) (eLaw))))))))))))))))))))))))))))))))))))
noncomputable def wL_law_846 (k : Int32 → qM → Option (Unit × qM)) : qT (Unit × qM) := fun lo st m => match lo, st with
  | [some (.ref 10020), some (.ref 0), some (.ref 98), some (.int a3)], [] => k a3 m
  | _, _ => none
set_option maxRecDepth 20000 in
theorem sL_law_846 {C : qCx} {w : qWp} {Qf : Unit × qM → State → Prop} {nA : Nat} {fA : Nat → Int32} (h : qOk C w RL cL_law 4 16 0 155) (hm : qLe C w Qf) (hS : qSc C w nA fA) {j1111 : qT (Unit × qM)} (k1111 : qSnd C w 4 0 Qf qfin 155 1579 j1111) : qSnd C w 4 0 Qf qfin 155 1240 (tL_law_846 nA fA j1111) :=
  cLa (pc := 1240) h dL_law_1240 rfl (cLa (pc := 1241) h dL_law_1241 rfl (cLi (pc := 1242) h dL_law_1242 rfl (cC (pc := 1243) h dL_law_1243 rfl (aAdd (pc := 1244) h dL_law_1244 (rAx (pc := 1245) hS h dL_law_1245 (cLa (pc := 1246) h dL_law_1246 rfl (cLi (pc := 1247) h dL_law_1247 rfl (cC (pc := 1248) h dL_law_1248 rfl (aAdd (pc := 1249) h dL_law_1249 (rAx (pc := 1250) hS h dL_law_1250 (cLa (pc := 1251) h dL_law_1251 rfl (cLi (pc := 1252) h dL_law_1252 rfl (cC (pc := 1253) h dL_law_1253 rfl (aAdd (pc := 1254) h dL_law_1254 (rAx (pc := 1255) hS h dL_law_1255 (kCi (pc := 1256) h (kd_L_140 h dL_law_1256) spX11_meeting (by decide) (by decide) (by decide) (by decide) (cLa (pc := 1259) h dL_law_1259 rfl (cLa (pc := 1260) h dL_law_1260 rfl (cLi (pc := 1261) h dL_law_1261 rfl (cC (pc := 1262) h dL_law_1262 rfl (aAdd (pc := 1263) h dL_law_1263 (rAx (pc := 1264) hS h dL_law_1264 (cLa (pc := 1265) h dL_law_1265 rfl (cLi (pc := 1266) h dL_law_1266 rfl (cC (pc := 1267) h dL_law_1267 rfl (aAdd (pc := 1268) h dL_law_1268 (rAx (pc := 1269) hS h dL_law_1269 (cLa (pc := 1270) h dL_law_1270 rfl (cLi (pc := 1271) h dL_law_1271 rfl (cC (pc := 1272) h dL_law_1272 rfl (aAdd (pc := 1273) h dL_law_1273 (rAx (pc := 1274) hS h dL_law_1274 (kCi (pc := 1275) h (kd_L_143 h dL_law_1275) spX13_meeting (by decide) (by decide) (by decide) (by decide) (jCEq (pc := 1278) h dL_law_1278 rfl (k1111) (cC (pc := 1281) h dL_law_1281 rfl (zLaw (pc := 1282) hm dL_law_1282))))))))))))))))))))))))))))))))))))
set_option maxRecDepth 20000 in
theorem lL_law_846 {nA : Nat} {fA : Nat → Int32} (k10 : Int32 → qM → Option (Unit × qM)) (a3 : Int32) (m : qM) : tL_law_846 nA fA (wL_law_1111 (fL_law_1111 nA fA k10)) [some (.ref 10020), some (.ref 0), some (.ref 98), some (.int a3)] [] m = fL_law_846 nA fA k10 a3 m := rfl
theorem bL_law_846 {C : qCx} {w : qWp} {Qf : Unit × qM → State → Prop} {nA : Nat} {fA : Nat → Int32} (h : qOk C w RL cL_law 4 16 0 155) (hm : qLe C w Qf) (hS : qSc C w nA fA) {k10 : Int32 → qM → Option (Unit × qM)} (h10 : qSnd C w 4 0 Qf qfin 155 18 (wL_law_10 k10)) : qSnd C w 4 0 Qf qfin 155 1240 (wL_law_846 (fL_law_846 nA fA k10)) :=
  qSnd_of (fun lo st m x hr0 => by
    unfold wL_law_846 at hr0
    split at hr0
    · exact ⟨_, (qsub_e (qsub_e (qsub_e (qsub_e qsub_nil)))), (lL_law_846 _ _ _).trans hr0⟩
    · cases hr0) (sL_law_846 h hm hS (bL_law_1111 h hm hS h10))
noncomputable def fL_law_883 (nA : Nat) (fA : Nat → Int32) (k10 : Int32 → qM → Option (Unit × qM)) (a3 : Int32) (m : qM) : Option (Unit × qM) :=
  bif inb ((a3 + (1 : Int32))) nA then qbI (fX11_off ((fA (ix ((a3 + (1 : Int32)))))) m) (fun x125 m126 => bif inb ((a3 + (1 : Int32))) nA then qbI (fX13_off ((fA (ix ((a3 + (1 : Int32)))))) m126) (fun x127 m128 => bif eqb x125 x127 then fL_law_1111 nA fA k10 a3 m128 else bif eqb ((0 : Int32)) (1 : Int32) then some ((), m128) else none) else none) else none
noncomputable def tL_law_883 (nA : Nat) (fA : Nat → Int32) (j1111 : qT (Unit × qM)) : qT (Unit × qM) :=
  oLa 1 (oLa 0 (oLi 3 (oC (.int (1 : Int32)) (o2 (· + ·) (oAx 10020 nA fA (oCi GX11_off 2 (oLa 2 (oLa 0 (oLi 3 (oC (.int (1 : Int32)) (o2 (· + ·) (oAx 10020 nA fA (oCi GX13_off 2 (oCEq (j1111) (oC (.int (0 : Int32)) (eLaw))))))))))))))))
noncomputable def wL_law_883 (k : Int32 → qM → Option (Unit × qM)) : qT (Unit × qM) := fun lo st m => match lo, st with
  | [some (.ref 10020), some (.ref 0), some (.ref 98), some (.int a3)], [] => k a3 m
  | _, _ => none
set_option maxRecDepth 20000 in
theorem sL_law_883 {C : qCx} {w : qWp} {Qf : Unit × qM → State → Prop} {nA : Nat} {fA : Nat → Int32} (h : qOk C w RL cL_law 4 16 0 155) (hm : qLe C w Qf) (hS : qSc C w nA fA) {j1111 : qT (Unit × qM)} (k1111 : qSnd C w 4 0 Qf qfin 155 1579 j1111) : qSnd C w 4 0 Qf qfin 155 1283 (tL_law_883 nA fA j1111) :=
  cLa (pc := 1283) h dL_law_1283 rfl (cLa (pc := 1284) h dL_law_1284 rfl (cLi (pc := 1285) h dL_law_1285 rfl (cC (pc := 1286) h dL_law_1286 rfl (aAdd (pc := 1287) h dL_law_1287 (rAx (pc := 1288) hS h dL_law_1288 (kCi (pc := 1289) h (kd_L_144 h dL_law_1289) spX11_off (by decide) (by decide) (by decide) (by decide) (cLa (pc := 1292) h dL_law_1292 rfl (cLa (pc := 1293) h dL_law_1293 rfl (cLi (pc := 1294) h dL_law_1294 rfl (cC (pc := 1295) h dL_law_1295 rfl (aAdd (pc := 1296) h dL_law_1296 (rAx (pc := 1297) hS h dL_law_1297 (kCi (pc := 1298) h (kd_L_147 h dL_law_1298) spX13_off (by decide) (by decide) (by decide) (by decide) (jCEq (pc := 1301) h dL_law_1301 rfl (k1111) (cC (pc := 1304) h dL_law_1304 rfl (zLaw (pc := 1305) hm dL_law_1305))))))))))))))))
set_option maxRecDepth 20000 in
theorem lL_law_883 {nA : Nat} {fA : Nat → Int32} (k10 : Int32 → qM → Option (Unit × qM)) (a3 : Int32) (m : qM) : tL_law_883 nA fA (wL_law_1111 (fL_law_1111 nA fA k10)) [some (.ref 10020), some (.ref 0), some (.ref 98), some (.int a3)] [] m = fL_law_883 nA fA k10 a3 m := rfl
theorem bL_law_883 {C : qCx} {w : qWp} {Qf : Unit × qM → State → Prop} {nA : Nat} {fA : Nat → Int32} (h : qOk C w RL cL_law 4 16 0 155) (hm : qLe C w Qf) (hS : qSc C w nA fA) {k10 : Int32 → qM → Option (Unit × qM)} (h10 : qSnd C w 4 0 Qf qfin 155 18 (wL_law_10 k10)) : qSnd C w 4 0 Qf qfin 155 1283 (wL_law_883 (fL_law_883 nA fA k10)) :=
  qSnd_of (fun lo st m x hr0 => by
    unfold wL_law_883 at hr0
    split at hr0
    · exact ⟨_, (qsub_e (qsub_e (qsub_e (qsub_e qsub_nil)))), (lL_law_883 _ _ _).trans hr0⟩
    · cases hr0) (sL_law_883 h hm hS (bL_law_1111 h hm hS h10))
noncomputable def fL_law_900 (nA : Nat) (fA : Nat → Int32) (k10 : Int32 → qM → Option (Unit × qM)) (a3 : Int32) (m : qM) : Option (Unit × qM) :=
  bif inb ((a3 + (1 : Int32))) nA then bif inb ((a3 + (2 : Int32))) nA then qbI (fX11_next ((fA (ix ((a3 + (1 : Int32)))))) ((fA (ix ((a3 + (2 : Int32)))))) m) (fun x129 m130 => bif inb ((a3 + (1 : Int32))) nA then bif inb ((a3 + (2 : Int32))) nA then qbI (fX13_next ((fA (ix ((a3 + (1 : Int32)))))) ((fA (ix ((a3 + (2 : Int32)))))) m130) (fun x131 m132 => bif eqb x129 x131 then fL_law_1111 nA fA k10 a3 m132 else bif eqb ((0 : Int32)) (1 : Int32) then some ((), m132) else none) else none else none) else none else none
noncomputable def tL_law_900 (nA : Nat) (fA : Nat → Int32) (j1111 : qT (Unit × qM)) : qT (Unit × qM) :=
  oLa 1 (oLa 0 (oLi 3 (oC (.int (1 : Int32)) (o2 (· + ·) (oAx 10020 nA fA (oLa 0 (oLi 3 (oC (.int (2 : Int32)) (o2 (· + ·) (oAx 10020 nA fA (oCi GX11_next 3 (oLa 2 (oLa 0 (oLi 3 (oC (.int (1 : Int32)) (o2 (· + ·) (oAx 10020 nA fA (oLa 0 (oLi 3 (oC (.int (2 : Int32)) (o2 (· + ·) (oAx 10020 nA fA (oCi GX13_next 3 (oCEq (j1111) (oC (.int (0 : Int32)) (eLaw))))))))))))))))))))))))))
noncomputable def wL_law_900 (k : Int32 → qM → Option (Unit × qM)) : qT (Unit × qM) := fun lo st m => match lo, st with
  | [some (.ref 10020), some (.ref 0), some (.ref 98), some (.int a3)], [] => k a3 m
  | _, _ => none
set_option maxRecDepth 20000 in
theorem sL_law_900 {C : qCx} {w : qWp} {Qf : Unit × qM → State → Prop} {nA : Nat} {fA : Nat → Int32} (h : qOk C w RL cL_law 4 16 0 155) (hm : qLe C w Qf) (hS : qSc C w nA fA) {j1111 : qT (Unit × qM)} (k1111 : qSnd C w 4 0 Qf qfin 155 1579 j1111) : qSnd C w 4 0 Qf qfin 155 1306 (tL_law_900 nA fA j1111) :=
  cLa (pc := 1306) h dL_law_1306 rfl (cLa (pc := 1307) h dL_law_1307 rfl (cLi (pc := 1308) h dL_law_1308 rfl (cC (pc := 1309) h dL_law_1309 rfl (aAdd (pc := 1310) h dL_law_1310 (rAx (pc := 1311) hS h dL_law_1311 (cLa (pc := 1312) h dL_law_1312 rfl (cLi (pc := 1313) h dL_law_1313 rfl (cC (pc := 1314) h dL_law_1314 rfl (aAdd (pc := 1315) h dL_law_1315 (rAx (pc := 1316) hS h dL_law_1316 (kCi (pc := 1317) h (kd_L_148 h dL_law_1317) spX11_next (by decide) (by decide) (by decide) (by decide) (cLa (pc := 1320) h dL_law_1320 rfl (cLa (pc := 1321) h dL_law_1321 rfl (cLi (pc := 1322) h dL_law_1322 rfl (cC (pc := 1323) h dL_law_1323 rfl (aAdd (pc := 1324) h dL_law_1324 (rAx (pc := 1325) hS h dL_law_1325 (cLa (pc := 1326) h dL_law_1326 rfl (cLi (pc := 1327) h dL_law_1327 rfl (cC (pc := 1328) h dL_law_1328 rfl (aAdd (pc := 1329) h dL_law_1329 (rAx (pc := 1330) hS h dL_law_1330 (kCi (pc := 1331) h (kd_L_151 h dL_law_1331) spX13_next (by decide) (by decide) (by decide) (by decide) (jCEq (pc := 1334) h dL_law_1334 rfl (k1111) (cC (pc := 1337) h dL_law_1337 rfl (zLaw (pc := 1338) hm dL_law_1338))))))))))))))))))))))))))
set_option maxRecDepth 20000 in
theorem lL_law_900 {nA : Nat} {fA : Nat → Int32} (k10 : Int32 → qM → Option (Unit × qM)) (a3 : Int32) (m : qM) : tL_law_900 nA fA (wL_law_1111 (fL_law_1111 nA fA k10)) [some (.ref 10020), some (.ref 0), some (.ref 98), some (.int a3)] [] m = fL_law_900 nA fA k10 a3 m := rfl
theorem bL_law_900 {C : qCx} {w : qWp} {Qf : Unit × qM → State → Prop} {nA : Nat} {fA : Nat → Int32} (h : qOk C w RL cL_law 4 16 0 155) (hm : qLe C w Qf) (hS : qSc C w nA fA) {k10 : Int32 → qM → Option (Unit × qM)} (h10 : qSnd C w 4 0 Qf qfin 155 18 (wL_law_10 k10)) : qSnd C w 4 0 Qf qfin 155 1306 (wL_law_900 (fL_law_900 nA fA k10)) :=
  qSnd_of (fun lo st m x hr0 => by
    unfold wL_law_900 at hr0
    split at hr0
    · exact ⟨_, (qsub_e (qsub_e (qsub_e (qsub_e qsub_nil)))), (lL_law_900 _ _ _).trans hr0⟩
    · cases hr0) (sL_law_900 h hm hS (bL_law_1111 h hm hS h10))
noncomputable def fL_law_927 (nA : Nat) (fA : Nat → Int32) (k10 : Int32 → qM → Option (Unit × qM)) (a3 : Int32) (m : qM) : Option (Unit × qM) :=
  bif inb ((a3 + (1 : Int32))) nA then qbI (fX11_messages ((fA (ix ((a3 + (1 : Int32)))))) m) (fun x133 m134 => bif inb ((a3 + (1 : Int32))) nA then qbI (fX13_messages ((fA (ix ((a3 + (1 : Int32)))))) m134) (fun x135 m136 => bif eqb x133 x135 then fL_law_1111 nA fA k10 a3 m136 else bif eqb ((0 : Int32)) (1 : Int32) then some ((), m136) else none) else none) else none
noncomputable def tL_law_927 (nA : Nat) (fA : Nat → Int32) (j1111 : qT (Unit × qM)) : qT (Unit × qM) :=
  oLa 1 (oLa 0 (oLi 3 (oC (.int (1 : Int32)) (o2 (· + ·) (oAx 10020 nA fA (oCi GX11_messages 2 (oLa 2 (oLa 0 (oLi 3 (oC (.int (1 : Int32)) (o2 (· + ·) (oAx 10020 nA fA (oCi GX13_messages 2 (oCEq (j1111) (oC (.int (0 : Int32)) (eLaw))))))))))))))))
noncomputable def wL_law_927 (k : Int32 → qM → Option (Unit × qM)) : qT (Unit × qM) := fun lo st m => match lo, st with
  | [some (.ref 10020), some (.ref 0), some (.ref 98), some (.int a3)], [] => k a3 m
  | _, _ => none
set_option maxRecDepth 20000 in
theorem sL_law_927 {C : qCx} {w : qWp} {Qf : Unit × qM → State → Prop} {nA : Nat} {fA : Nat → Int32} (h : qOk C w RL cL_law 4 16 0 155) (hm : qLe C w Qf) (hS : qSc C w nA fA) {j1111 : qT (Unit × qM)} (k1111 : qSnd C w 4 0 Qf qfin 155 1579 j1111) : qSnd C w 4 0 Qf qfin 155 1339 (tL_law_927 nA fA j1111) :=
  cLa (pc := 1339) h dL_law_1339 rfl (cLa (pc := 1340) h dL_law_1340 rfl (cLi (pc := 1341) h dL_law_1341 rfl (cC (pc := 1342) h dL_law_1342 rfl (aAdd (pc := 1343) h dL_law_1343 (rAx (pc := 1344) hS h dL_law_1344 (kCi (pc := 1345) h (kd_L_152 h dL_law_1345) spX11_messages (by decide) (by decide) (by decide) (by decide) (cLa (pc := 1348) h dL_law_1348 rfl (cLa (pc := 1349) h dL_law_1349 rfl (cLi (pc := 1350) h dL_law_1350 rfl (cC (pc := 1351) h dL_law_1351 rfl (aAdd (pc := 1352) h dL_law_1352 (rAx (pc := 1353) hS h dL_law_1353 (kCi (pc := 1354) h (kd_L_155 h dL_law_1354) spX13_messages (by decide) (by decide) (by decide) (by decide) (jCEq (pc := 1357) h dL_law_1357 rfl (k1111) (cC (pc := 1360) h dL_law_1360 rfl (zLaw (pc := 1361) hm dL_law_1361))))))))))))))))
set_option maxRecDepth 20000 in
theorem lL_law_927 {nA : Nat} {fA : Nat → Int32} (k10 : Int32 → qM → Option (Unit × qM)) (a3 : Int32) (m : qM) : tL_law_927 nA fA (wL_law_1111 (fL_law_1111 nA fA k10)) [some (.ref 10020), some (.ref 0), some (.ref 98), some (.int a3)] [] m = fL_law_927 nA fA k10 a3 m := rfl
theorem bL_law_927 {C : qCx} {w : qWp} {Qf : Unit × qM → State → Prop} {nA : Nat} {fA : Nat → Int32} (h : qOk C w RL cL_law 4 16 0 155) (hm : qLe C w Qf) (hS : qSc C w nA fA) {k10 : Int32 → qM → Option (Unit × qM)} (h10 : qSnd C w 4 0 Qf qfin 155 18 (wL_law_10 k10)) : qSnd C w 4 0 Qf qfin 155 1339 (wL_law_927 (fL_law_927 nA fA k10)) :=
  qSnd_of (fun lo st m x hr0 => by
    unfold wL_law_927 at hr0
    split at hr0
    · exact ⟨_, (qsub_e (qsub_e (qsub_e (qsub_e qsub_nil)))), (lL_law_927 _ _ _).trans hr0⟩
    · cases hr0) (sL_law_927 h hm hS (bL_law_1111 h hm hS h10))
noncomputable def fL_law_944 (nA : Nat) (fA : Nat → Int32) (k10 : Int32 → qM → Option (Unit × qM)) (a3 : Int32) (m : qM) : Option (Unit × qM) :=
  bif inb ((a3 + (1 : Int32))) nA then qbI (fX11_mend ((fA (ix ((a3 + (1 : Int32)))))) m) (fun x137 m138 => bif inb ((a3 + (1 : Int32))) nA then qbI (fX13_mend ((fA (ix ((a3 + (1 : Int32)))))) m138) (fun x139 m140 => bif eqb x137 x139 then fL_law_1111 nA fA k10 a3 m140 else bif eqb ((0 : Int32)) (1 : Int32) then some ((), m140) else none) else none) else none
noncomputable def tL_law_944 (nA : Nat) (fA : Nat → Int32) (j1111 : qT (Unit × qM)) : qT (Unit × qM) :=
  oLa 1 (oLa 0 (oLi 3 (oC (.int (1 : Int32)) (o2 (· + ·) (oAx 10020 nA fA (oCi GX11_mend 2 (oLa 2 (oLa 0 (oLi 3 (oC (.int (1 : Int32)) (o2 (· + ·) (oAx 10020 nA fA (oCi GX13_mend 2 (oCEq (j1111) (oC (.int (0 : Int32)) (eLaw))))))))))))))))
noncomputable def wL_law_944 (k : Int32 → qM → Option (Unit × qM)) : qT (Unit × qM) := fun lo st m => match lo, st with
  | [some (.ref 10020), some (.ref 0), some (.ref 98), some (.int a3)], [] => k a3 m
  | _, _ => none
set_option maxRecDepth 20000 in
theorem sL_law_944 {C : qCx} {w : qWp} {Qf : Unit × qM → State → Prop} {nA : Nat} {fA : Nat → Int32} (h : qOk C w RL cL_law 4 16 0 155) (hm : qLe C w Qf) (hS : qSc C w nA fA) {j1111 : qT (Unit × qM)} (k1111 : qSnd C w 4 0 Qf qfin 155 1579 j1111) : qSnd C w 4 0 Qf qfin 155 1362 (tL_law_944 nA fA j1111) :=
  cLa (pc := 1362) h dL_law_1362 rfl (cLa (pc := 1363) h dL_law_1363 rfl (cLi (pc := 1364) h dL_law_1364 rfl (cC (pc := 1365) h dL_law_1365 rfl (aAdd (pc := 1366) h dL_law_1366 (rAx (pc := 1367) hS h dL_law_1367 (kCi (pc := 1368) h (kd_L_156 h dL_law_1368) spX11_mend (by decide) (by decide) (by decide) (by decide) (cLa (pc := 1371) h dL_law_1371 rfl (cLa (pc := 1372) h dL_law_1372 rfl (cLi (pc := 1373) h dL_law_1373 rfl (cC (pc := 1374) h dL_law_1374 rfl (aAdd (pc := 1375) h dL_law_1375 (rAx (pc := 1376) hS h dL_law_1376 (kCi (pc := 1377) h (kd_L_159 h dL_law_1377) spX13_mend (by decide) (by decide) (by decide) (by decide) (jCEq (pc := 1380) h dL_law_1380 rfl (k1111) (cC (pc := 1383) h dL_law_1383 rfl (zLaw (pc := 1384) hm dL_law_1384))))))))))))))))
set_option maxRecDepth 20000 in
theorem lL_law_944 {nA : Nat} {fA : Nat → Int32} (k10 : Int32 → qM → Option (Unit × qM)) (a3 : Int32) (m : qM) : tL_law_944 nA fA (wL_law_1111 (fL_law_1111 nA fA k10)) [some (.ref 10020), some (.ref 0), some (.ref 98), some (.int a3)] [] m = fL_law_944 nA fA k10 a3 m := rfl
theorem bL_law_944 {C : qCx} {w : qWp} {Qf : Unit × qM → State → Prop} {nA : Nat} {fA : Nat → Int32} (h : qOk C w RL cL_law 4 16 0 155) (hm : qLe C w Qf) (hS : qSc C w nA fA) {k10 : Int32 → qM → Option (Unit × qM)} (h10 : qSnd C w 4 0 Qf qfin 155 18 (wL_law_10 k10)) : qSnd C w 4 0 Qf qfin 155 1362 (wL_law_944 (fL_law_944 nA fA k10)) :=
  qSnd_of (fun lo st m x hr0 => by
    unfold wL_law_944 at hr0
    split at hr0
    · exact ⟨_, (qsub_e (qsub_e (qsub_e (qsub_e qsub_nil)))), (lL_law_944 _ _ _).trans hr0⟩
    · cases hr0) (sL_law_944 h hm hS (bL_law_1111 h hm hS h10))
noncomputable def fL_law_961 (nA : Nat) (fA : Nat → Int32) (k10 : Int32 → qM → Option (Unit × qM)) (a3 : Int32) (m : qM) : Option (Unit × qM) :=
  bif inb ((a3 + (1 : Int32))) nA then qbI (fX11_note ((fA (ix ((a3 + (1 : Int32)))))) m) (fun x141 m142 => bif inb ((a3 + (1 : Int32))) nA then qbI (fX13_note ((fA (ix ((a3 + (1 : Int32)))))) m142) (fun x143 m144 => bif eqb x141 x143 then fL_law_1111 nA fA k10 a3 m144 else bif eqb ((0 : Int32)) (1 : Int32) then some ((), m144) else none) else none) else none
noncomputable def tL_law_961 (nA : Nat) (fA : Nat → Int32) (j1111 : qT (Unit × qM)) : qT (Unit × qM) :=
  oLa 1 (oLa 0 (oLi 3 (oC (.int (1 : Int32)) (o2 (· + ·) (oAx 10020 nA fA (oCi GX11_note 2 (oLa 2 (oLa 0 (oLi 3 (oC (.int (1 : Int32)) (o2 (· + ·) (oAx 10020 nA fA (oCi GX13_note 2 (oCEq (j1111) (oC (.int (0 : Int32)) (eLaw))))))))))))))))
noncomputable def wL_law_961 (k : Int32 → qM → Option (Unit × qM)) : qT (Unit × qM) := fun lo st m => match lo, st with
  | [some (.ref 10020), some (.ref 0), some (.ref 98), some (.int a3)], [] => k a3 m
  | _, _ => none
set_option maxRecDepth 20000 in
theorem sL_law_961 {C : qCx} {w : qWp} {Qf : Unit × qM → State → Prop} {nA : Nat} {fA : Nat → Int32} (h : qOk C w RL cL_law 4 16 0 155) (hm : qLe C w Qf) (hS : qSc C w nA fA) {j1111 : qT (Unit × qM)} (k1111 : qSnd C w 4 0 Qf qfin 155 1579 j1111) : qSnd C w 4 0 Qf qfin 155 1385 (tL_law_961 nA fA j1111) :=
  cLa (pc := 1385) h dL_law_1385 rfl (cLa (pc := 1386) h dL_law_1386 rfl (cLi (pc := 1387) h dL_law_1387 rfl (cC (pc := 1388) h dL_law_1388 rfl (aAdd (pc := 1389) h dL_law_1389 (rAx (pc := 1390) hS h dL_law_1390 (kCi (pc := 1391) h (kd_L_160 h dL_law_1391) spX11_note (by decide) (by decide) (by decide) (by decide) (cLa (pc := 1394) h dL_law_1394 rfl (cLa (pc := 1395) h dL_law_1395 rfl (cLi (pc := 1396) h dL_law_1396 rfl (cC (pc := 1397) h dL_law_1397 rfl (aAdd (pc := 1398) h dL_law_1398 (rAx (pc := 1399) hS h dL_law_1399 (kCi (pc := 1400) h (kd_L_163 h dL_law_1400) spX13_note (by decide) (by decide) (by decide) (by decide) (jCEq (pc := 1403) h dL_law_1403 rfl (k1111) (cC (pc := 1406) h dL_law_1406 rfl (zLaw (pc := 1407) hm dL_law_1407))))))))))))))))
set_option maxRecDepth 20000 in
theorem lL_law_961 {nA : Nat} {fA : Nat → Int32} (k10 : Int32 → qM → Option (Unit × qM)) (a3 : Int32) (m : qM) : tL_law_961 nA fA (wL_law_1111 (fL_law_1111 nA fA k10)) [some (.ref 10020), some (.ref 0), some (.ref 98), some (.int a3)] [] m = fL_law_961 nA fA k10 a3 m := rfl
theorem bL_law_961 {C : qCx} {w : qWp} {Qf : Unit × qM → State → Prop} {nA : Nat} {fA : Nat → Int32} (h : qOk C w RL cL_law 4 16 0 155) (hm : qLe C w Qf) (hS : qSc C w nA fA) {k10 : Int32 → qM → Option (Unit × qM)} (h10 : qSnd C w 4 0 Qf qfin 155 18 (wL_law_10 k10)) : qSnd C w 4 0 Qf qfin 155 1385 (wL_law_961 (fL_law_961 nA fA k10)) :=
  qSnd_of (fun lo st m x hr0 => by
    unfold wL_law_961 at hr0
    split at hr0
    · exact ⟨_, (qsub_e (qsub_e (qsub_e (qsub_e qsub_nil)))), (lL_law_961 _ _ _).trans hr0⟩
    · cases hr0) (sL_law_961 h hm hS (bL_law_1111 h hm hS h10))
noncomputable def fL_law_1019 (nA : Nat) (fA : Nat → Int32) (k10 : Int32 → qM → Option (Unit × qM)) (a3 : Int32) (s0 : Int32) (s1 : Int32) (s2 : Int32) (s4 : Int32) (m : qM) : Option (Unit × qM) :=
  qbI (fX13_let s2 s1 s0 m) (fun x147 m148 => bif eqb s4 x147 then fL_law_1111 nA fA k10 a3 m148 else bif eqb ((0 : Int32)) (1 : Int32) then some ((), m148) else none)
noncomputable def tL_law_1019 (nA : Nat) (fA : Nat → Int32) (j1111 : qT (Unit × qM)) : qT (Unit × qM) :=
  oCi GX13_let 4 (oCEq (j1111) (oC (.int (0 : Int32)) (eLaw)))
noncomputable def wL_law_1019 (k : Int32 → Int32 → Int32 → Int32 → Int32 → qM → Option (Unit × qM)) : qT (Unit × qM) := fun lo st m => match lo, st with
  | [some (.ref 10020), some (.ref 0), some (.ref 98), some (.int a3)], [.int s0, .int s1, .int s2, .ref 98, .int s4] => k a3 s0 s1 s2 s4 m
  | _, _ => none
set_option maxRecDepth 20000 in
theorem sL_law_1019 {C : qCx} {w : qWp} {Qf : Unit × qM → State → Prop} {nA : Nat} {fA : Nat → Int32} (h : qOk C w RL cL_law 4 16 0 155) (hm : qLe C w Qf) (hS : qSc C w nA fA) {j1111 : qT (Unit × qM)} (k1111 : qSnd C w 4 0 Qf qfin 155 1579 j1111) : qSnd C w 4 0 Qf qfin 155 1459 (tL_law_1019 nA fA j1111) :=
  kCi (pc := 1459) h (kd_L_167 h dL_law_1459) spX13_let (by decide) (by decide) (by decide) (by decide) (jCEq (pc := 1462) h dL_law_1462 rfl (k1111) (cC (pc := 1465) h dL_law_1465 rfl (zLaw (pc := 1466) hm dL_law_1466)))
set_option maxRecDepth 20000 in
theorem lL_law_1019 {nA : Nat} {fA : Nat → Int32} (k10 : Int32 → qM → Option (Unit × qM)) (a3 : Int32) (s0 : Int32) (s1 : Int32) (s2 : Int32) (s4 : Int32) (m : qM) : tL_law_1019 nA fA (wL_law_1111 (fL_law_1111 nA fA k10)) [some (.ref 10020), some (.ref 0), some (.ref 98), some (.int a3)] [(.int s0), (.int s1), (.int s2), (.ref 98), (.int s4)] m = fL_law_1019 nA fA k10 a3 s0 s1 s2 s4 m := rfl
theorem bL_law_1019 {C : qCx} {w : qWp} {Qf : Unit × qM → State → Prop} {nA : Nat} {fA : Nat → Int32} (h : qOk C w RL cL_law 4 16 0 155) (hm : qLe C w Qf) (hS : qSc C w nA fA) {k10 : Int32 → qM → Option (Unit × qM)} (h10 : qSnd C w 4 0 Qf qfin 155 18 (wL_law_10 k10)) : qSnd C w 4 0 Qf qfin 155 1459 (wL_law_1019 (fL_law_1019 nA fA k10)) :=
  qSnd_of (fun lo st m x hr0 => by
    unfold wL_law_1019 at hr0
    split at hr0
    · exact ⟨_, (qsub_e (qsub_e (qsub_e (qsub_e qsub_nil)))), (lL_law_1019 _ _ _ _ _ _ _).trans hr0⟩
    · cases hr0) (sL_law_1019 h hm hS (bL_law_1111 h hm hS h10))
noncomputable def fL_law_998 (nA : Nat) (fA : Nat → Int32) (k10 : Int32 → qM → Option (Unit × qM)) (a3 : Int32) (s0 : Int32) (s1 : Int32) (s2 : Int32) (m : qM) : Option (Unit × qM) :=
  qbI (fX11_let s2 s1 s0 m) (fun x145 m146 => bif inb ((a3 + (1 : Int32))) nA then bif inb ((a3 + (2 : Int32))) nA then bif inb ((a3 + (3 : Int32))) nA then bif eqb ((fA (ix ((a3 + (3 : Int32)))))) ((0 : Int32)) then fL_law_1019 nA fA k10 a3 ((0 : Int32)) ((fA (ix ((a3 + (2 : Int32)))))) ((fA (ix ((a3 + (1 : Int32)))))) x145 m146 else fL_law_1019 nA fA k10 a3 ((1 : Int32)) ((fA (ix ((a3 + (2 : Int32)))))) ((fA (ix ((a3 + (1 : Int32)))))) x145 m146 else none else none else none)
noncomputable def tL_law_998 (nA : Nat) (fA : Nat → Int32) (j1019 : qT (Unit × qM)) : qT (Unit × qM) :=
  oCi GX11_let 4 (oLa 2 (oLa 0 (oLi 3 (oC (.int (1 : Int32)) (o2 (· + ·) (oAx 10020 nA fA (oLa 0 (oLi 3 (oC (.int (2 : Int32)) (o2 (· + ·) (oAx 10020 nA fA (oLa 0 (oLi 3 (oC (.int (3 : Int32)) (o2 (· + ·) (oAx 10020 nA fA (oEq (oC (.int (0 : Int32)) (j1019)) (oC (.int (1 : Int32)) (j1019)))))))))))))))))))
noncomputable def wL_law_998 (k : Int32 → Int32 → Int32 → Int32 → qM → Option (Unit × qM)) : qT (Unit × qM) := fun lo st m => match lo, st with
  | [some (.ref 10020), some (.ref 0), some (.ref 98), some (.int a3)], [.int s0, .int s1, .int s2, .ref 0] => k a3 s0 s1 s2 m
  | _, _ => none
set_option maxRecDepth 20000 in
theorem sL_law_998 {C : qCx} {w : qWp} {Qf : Unit × qM → State → Prop} {nA : Nat} {fA : Nat → Int32} (h : qOk C w RL cL_law 4 16 0 155) (hm : qLe C w Qf) (hS : qSc C w nA fA) {j1019 : qT (Unit × qM)} (k1019 : qSnd C w 4 0 Qf qfin 155 1459 j1019) : qSnd C w 4 0 Qf qfin 155 1432 (tL_law_998 nA fA j1019) :=
  kCi (pc := 1432) h (kd_L_164 h dL_law_1432) spX11_let (by decide) (by decide) (by decide) (by decide) (cLa (pc := 1435) h dL_law_1435 rfl (cLa (pc := 1436) h dL_law_1436 rfl (cLi (pc := 1437) h dL_law_1437 rfl (cC (pc := 1438) h dL_law_1438 rfl (aAdd (pc := 1439) h dL_law_1439 (rAx (pc := 1440) hS h dL_law_1440 (cLa (pc := 1441) h dL_law_1441 rfl (cLi (pc := 1442) h dL_law_1442 rfl (cC (pc := 1443) h dL_law_1443 rfl (aAdd (pc := 1444) h dL_law_1444 (rAx (pc := 1445) hS h dL_law_1445 (cLa (pc := 1446) h dL_law_1446 rfl (cLi (pc := 1447) h dL_law_1447 rfl (cC (pc := 1448) h dL_law_1448 rfl (aAdd (pc := 1449) h dL_law_1449 (rAx (pc := 1450) hS h dL_law_1450 (jEq (pc := 1451) h dL_law_1451 rfl (cC (pc := 1458) h dL_law_1458 rfl (k1019)) (cC (pc := 1454) h dL_law_1454 rfl (jGo (pc := 1455) h dL_law_1455 rfl (k1019))))))))))))))))))))
set_option maxRecDepth 20000 in
theorem lL_law_998 {nA : Nat} {fA : Nat → Int32} (k10 : Int32 → qM → Option (Unit × qM)) (a3 : Int32) (s0 : Int32) (s1 : Int32) (s2 : Int32) (m : qM) : tL_law_998 nA fA (wL_law_1019 (fL_law_1019 nA fA k10)) [some (.ref 10020), some (.ref 0), some (.ref 98), some (.int a3)] [(.int s0), (.int s1), (.int s2), (.ref 0)] m = fL_law_998 nA fA k10 a3 s0 s1 s2 m := rfl
theorem bL_law_998 {C : qCx} {w : qWp} {Qf : Unit × qM → State → Prop} {nA : Nat} {fA : Nat → Int32} (h : qOk C w RL cL_law 4 16 0 155) (hm : qLe C w Qf) (hS : qSc C w nA fA) {k10 : Int32 → qM → Option (Unit × qM)} (h10 : qSnd C w 4 0 Qf qfin 155 18 (wL_law_10 k10)) : qSnd C w 4 0 Qf qfin 155 1432 (wL_law_998 (fL_law_998 nA fA k10)) :=
  qSnd_of (fun lo st m x hr0 => by
    unfold wL_law_998 at hr0
    split at hr0
    · exact ⟨_, (qsub_e (qsub_e (qsub_e (qsub_e qsub_nil)))), (lL_law_998 _ _ _ _ _ _).trans hr0⟩
    · cases hr0) (sL_law_998 h hm hS (bL_law_1019 h hm hS h10))
noncomputable def fL_law_978 (nA : Nat) (fA : Nat → Int32) (k10 : Int32 → qM → Option (Unit × qM)) (a3 : Int32) (m : qM) : Option (Unit × qM) :=
  bif inb ((a3 + (1 : Int32))) nA then bif inb ((a3 + (2 : Int32))) nA then bif inb ((a3 + (3 : Int32))) nA then bif eqb ((fA (ix ((a3 + (3 : Int32)))))) ((0 : Int32)) then fL_law_998 nA fA k10 a3 ((0 : Int32)) ((fA (ix ((a3 + (2 : Int32)))))) ((fA (ix ((a3 + (1 : Int32)))))) m else fL_law_998 nA fA k10 a3 ((1 : Int32)) ((fA (ix ((a3 + (2 : Int32)))))) ((fA (ix ((a3 + (1 : Int32)))))) m else none else none else none
noncomputable def tL_law_978 (nA : Nat) (fA : Nat → Int32) (j998 : qT (Unit × qM)) : qT (Unit × qM) :=
  oLa 1 (oLa 0 (oLi 3 (oC (.int (1 : Int32)) (o2 (· + ·) (oAx 10020 nA fA (oLa 0 (oLi 3 (oC (.int (2 : Int32)) (o2 (· + ·) (oAx 10020 nA fA (oLa 0 (oLi 3 (oC (.int (3 : Int32)) (o2 (· + ·) (oAx 10020 nA fA (oEq (oC (.int (0 : Int32)) (j998)) (oC (.int (1 : Int32)) (j998))))))))))))))))))
noncomputable def wL_law_978 (k : Int32 → qM → Option (Unit × qM)) : qT (Unit × qM) := fun lo st m => match lo, st with
  | [some (.ref 10020), some (.ref 0), some (.ref 98), some (.int a3)], [] => k a3 m
  | _, _ => none
set_option maxRecDepth 20000 in
theorem sL_law_978 {C : qCx} {w : qWp} {Qf : Unit × qM → State → Prop} {nA : Nat} {fA : Nat → Int32} (h : qOk C w RL cL_law 4 16 0 155) (hm : qLe C w Qf) (hS : qSc C w nA fA) {j998 : qT (Unit × qM)} (k998 : qSnd C w 4 0 Qf qfin 155 1432 j998) : qSnd C w 4 0 Qf qfin 155 1408 (tL_law_978 nA fA j998) :=
  cLa (pc := 1408) h dL_law_1408 rfl (cLa (pc := 1409) h dL_law_1409 rfl (cLi (pc := 1410) h dL_law_1410 rfl (cC (pc := 1411) h dL_law_1411 rfl (aAdd (pc := 1412) h dL_law_1412 (rAx (pc := 1413) hS h dL_law_1413 (cLa (pc := 1414) h dL_law_1414 rfl (cLi (pc := 1415) h dL_law_1415 rfl (cC (pc := 1416) h dL_law_1416 rfl (aAdd (pc := 1417) h dL_law_1417 (rAx (pc := 1418) hS h dL_law_1418 (cLa (pc := 1419) h dL_law_1419 rfl (cLi (pc := 1420) h dL_law_1420 rfl (cC (pc := 1421) h dL_law_1421 rfl (aAdd (pc := 1422) h dL_law_1422 (rAx (pc := 1423) hS h dL_law_1423 (jEq (pc := 1424) h dL_law_1424 rfl (cC (pc := 1431) h dL_law_1431 rfl (k998)) (cC (pc := 1427) h dL_law_1427 rfl (jGo (pc := 1428) h dL_law_1428 rfl (k998)))))))))))))))))))
set_option maxRecDepth 20000 in
theorem lL_law_978 {nA : Nat} {fA : Nat → Int32} (k10 : Int32 → qM → Option (Unit × qM)) (a3 : Int32) (m : qM) : tL_law_978 nA fA (wL_law_998 (fL_law_998 nA fA k10)) [some (.ref 10020), some (.ref 0), some (.ref 98), some (.int a3)] [] m = fL_law_978 nA fA k10 a3 m := rfl
theorem bL_law_978 {C : qCx} {w : qWp} {Qf : Unit × qM → State → Prop} {nA : Nat} {fA : Nat → Int32} (h : qOk C w RL cL_law 4 16 0 155) (hm : qLe C w Qf) (hS : qSc C w nA fA) {k10 : Int32 → qM → Option (Unit × qM)} (h10 : qSnd C w 4 0 Qf qfin 155 18 (wL_law_10 k10)) : qSnd C w 4 0 Qf qfin 155 1408 (wL_law_978 (fL_law_978 nA fA k10)) :=
  qSnd_of (fun lo st m x hr0 => by
    unfold wL_law_978 at hr0
    split at hr0
    · exact ⟨_, (qsub_e (qsub_e (qsub_e (qsub_e qsub_nil)))), (lL_law_978 _ _ _).trans hr0⟩
    · cases hr0) (sL_law_978 h hm hS (bL_law_998 h hm hS h10))
noncomputable def fL_law_1023 (nA : Nat) (fA : Nat → Int32) (k10 : Int32 → qM → Option (Unit × qM)) (a3 : Int32) (m : qM) : Option (Unit × qM) :=
  bif inb ((a3 + (1 : Int32))) nA then bif inb ((a3 + (2 : Int32))) nA then bif inb ((a3 + (3 : Int32))) nA then qbI (fX11_read ((fA (ix ((a3 + (1 : Int32)))))) ((fA (ix ((a3 + (2 : Int32)))))) ((fA (ix ((a3 + (3 : Int32)))))) m) (fun x149 m150 => bif inb ((a3 + (1 : Int32))) nA then bif inb ((a3 + (2 : Int32))) nA then bif inb ((a3 + (3 : Int32))) nA then qbI (fX13_read ((fA (ix ((a3 + (1 : Int32)))))) ((fA (ix ((a3 + (2 : Int32)))))) ((fA (ix ((a3 + (3 : Int32)))))) m150) (fun x151 m152 => bif eqb x149 x151 then fL_law_1111 nA fA k10 a3 m152 else bif eqb ((0 : Int32)) (1 : Int32) then some ((), m152) else none) else none else none else none) else none else none else none
noncomputable def tL_law_1023 (nA : Nat) (fA : Nat → Int32) (j1111 : qT (Unit × qM)) : qT (Unit × qM) :=
  oLa 1 (oLa 0 (oLi 3 (oC (.int (1 : Int32)) (o2 (· + ·) (oAx 10020 nA fA (oLa 0 (oLi 3 (oC (.int (2 : Int32)) (o2 (· + ·) (oAx 10020 nA fA (oLa 0 (oLi 3 (oC (.int (3 : Int32)) (o2 (· + ·) (oAx 10020 nA fA (oCi GX11_read 4 (oLa 2 (oLa 0 (oLi 3 (oC (.int (1 : Int32)) (o2 (· + ·) (oAx 10020 nA fA (oLa 0 (oLi 3 (oC (.int (2 : Int32)) (o2 (· + ·) (oAx 10020 nA fA (oLa 0 (oLi 3 (oC (.int (3 : Int32)) (o2 (· + ·) (oAx 10020 nA fA (oCi GX13_read 4 (oCEq (j1111) (oC (.int (0 : Int32)) (eLaw))))))))))))))))))))))))))))))))))))
noncomputable def wL_law_1023 (k : Int32 → qM → Option (Unit × qM)) : qT (Unit × qM) := fun lo st m => match lo, st with
  | [some (.ref 10020), some (.ref 0), some (.ref 98), some (.int a3)], [] => k a3 m
  | _, _ => none
set_option maxRecDepth 20000 in
theorem sL_law_1023 {C : qCx} {w : qWp} {Qf : Unit × qM → State → Prop} {nA : Nat} {fA : Nat → Int32} (h : qOk C w RL cL_law 4 16 0 155) (hm : qLe C w Qf) (hS : qSc C w nA fA) {j1111 : qT (Unit × qM)} (k1111 : qSnd C w 4 0 Qf qfin 155 1579 j1111) : qSnd C w 4 0 Qf qfin 155 1467 (tL_law_1023 nA fA j1111) :=
  cLa (pc := 1467) h dL_law_1467 rfl (cLa (pc := 1468) h dL_law_1468 rfl (cLi (pc := 1469) h dL_law_1469 rfl (cC (pc := 1470) h dL_law_1470 rfl (aAdd (pc := 1471) h dL_law_1471 (rAx (pc := 1472) hS h dL_law_1472 (cLa (pc := 1473) h dL_law_1473 rfl (cLi (pc := 1474) h dL_law_1474 rfl (cC (pc := 1475) h dL_law_1475 rfl (aAdd (pc := 1476) h dL_law_1476 (rAx (pc := 1477) hS h dL_law_1477 (cLa (pc := 1478) h dL_law_1478 rfl (cLi (pc := 1479) h dL_law_1479 rfl (cC (pc := 1480) h dL_law_1480 rfl (aAdd (pc := 1481) h dL_law_1481 (rAx (pc := 1482) hS h dL_law_1482 (kCi (pc := 1483) h (kd_L_168 h dL_law_1483) spX11_read (by decide) (by decide) (by decide) (by decide) (cLa (pc := 1486) h dL_law_1486 rfl (cLa (pc := 1487) h dL_law_1487 rfl (cLi (pc := 1488) h dL_law_1488 rfl (cC (pc := 1489) h dL_law_1489 rfl (aAdd (pc := 1490) h dL_law_1490 (rAx (pc := 1491) hS h dL_law_1491 (cLa (pc := 1492) h dL_law_1492 rfl (cLi (pc := 1493) h dL_law_1493 rfl (cC (pc := 1494) h dL_law_1494 rfl (aAdd (pc := 1495) h dL_law_1495 (rAx (pc := 1496) hS h dL_law_1496 (cLa (pc := 1497) h dL_law_1497 rfl (cLi (pc := 1498) h dL_law_1498 rfl (cC (pc := 1499) h dL_law_1499 rfl (aAdd (pc := 1500) h dL_law_1500 (rAx (pc := 1501) hS h dL_law_1501 (kCi (pc := 1502) h (kd_L_171 h dL_law_1502) spX13_read (by decide) (by decide) (by decide) (by decide) (jCEq (pc := 1505) h dL_law_1505 rfl (k1111) (cC (pc := 1508) h dL_law_1508 rfl (zLaw (pc := 1509) hm dL_law_1509))))))))))))))))))))))))))))))))))))
set_option maxRecDepth 20000 in
theorem lL_law_1023 {nA : Nat} {fA : Nat → Int32} (k10 : Int32 → qM → Option (Unit × qM)) (a3 : Int32) (m : qM) : tL_law_1023 nA fA (wL_law_1111 (fL_law_1111 nA fA k10)) [some (.ref 10020), some (.ref 0), some (.ref 98), some (.int a3)] [] m = fL_law_1023 nA fA k10 a3 m := rfl
theorem bL_law_1023 {C : qCx} {w : qWp} {Qf : Unit × qM → State → Prop} {nA : Nat} {fA : Nat → Int32} (h : qOk C w RL cL_law 4 16 0 155) (hm : qLe C w Qf) (hS : qSc C w nA fA) {k10 : Int32 → qM → Option (Unit × qM)} (h10 : qSnd C w 4 0 Qf qfin 155 18 (wL_law_10 k10)) : qSnd C w 4 0 Qf qfin 155 1467 (wL_law_1023 (fL_law_1023 nA fA k10)) :=
  qSnd_of (fun lo st m x hr0 => by
    unfold wL_law_1023 at hr0
    split at hr0
    · exact ⟨_, (qsub_e (qsub_e (qsub_e (qsub_e qsub_nil)))), (lL_law_1023 _ _ _).trans hr0⟩
    · cases hr0) (sL_law_1023 h hm hS (bL_law_1111 h hm hS h10))
noncomputable def fL_law_1060 (nA : Nat) (fA : Nat → Int32) (k10 : Int32 → qM → Option (Unit × qM)) (a3 : Int32) (m : qM) : Option (Unit × qM) :=
  bif inb ((a3 + (1 : Int32))) nA then qbI (fX11_find ((fA (ix ((a3 + (1 : Int32)))))) m) (fun x153 m154 => bif inb ((a3 + (1 : Int32))) nA then qbI (fX13_find ((fA (ix ((a3 + (1 : Int32)))))) m154) (fun x155 m156 => bif eqb x153 x155 then fL_law_1111 nA fA k10 a3 m156 else bif eqb ((0 : Int32)) (1 : Int32) then some ((), m156) else none) else none) else none
noncomputable def tL_law_1060 (nA : Nat) (fA : Nat → Int32) (j1111 : qT (Unit × qM)) : qT (Unit × qM) :=
  oLa 1 (oLa 0 (oLi 3 (oC (.int (1 : Int32)) (o2 (· + ·) (oAx 10020 nA fA (oCi GX11_find 2 (oLa 2 (oLa 0 (oLi 3 (oC (.int (1 : Int32)) (o2 (· + ·) (oAx 10020 nA fA (oCi GX13_find 2 (oCEq (j1111) (oC (.int (0 : Int32)) (eLaw))))))))))))))))
noncomputable def wL_law_1060 (k : Int32 → qM → Option (Unit × qM)) : qT (Unit × qM) := fun lo st m => match lo, st with
  | [some (.ref 10020), some (.ref 0), some (.ref 98), some (.int a3)], [] => k a3 m
  | _, _ => none
set_option maxRecDepth 20000 in
theorem sL_law_1060 {C : qCx} {w : qWp} {Qf : Unit × qM → State → Prop} {nA : Nat} {fA : Nat → Int32} (h : qOk C w RL cL_law 4 16 0 155) (hm : qLe C w Qf) (hS : qSc C w nA fA) {j1111 : qT (Unit × qM)} (k1111 : qSnd C w 4 0 Qf qfin 155 1579 j1111) : qSnd C w 4 0 Qf qfin 155 1510 (tL_law_1060 nA fA j1111) :=
  cLa (pc := 1510) h dL_law_1510 rfl (cLa (pc := 1511) h dL_law_1511 rfl (cLi (pc := 1512) h dL_law_1512 rfl (cC (pc := 1513) h dL_law_1513 rfl (aAdd (pc := 1514) h dL_law_1514 (rAx (pc := 1515) hS h dL_law_1515 (kCi (pc := 1516) h (kd_L_172 h dL_law_1516) spX11_find (by decide) (by decide) (by decide) (by decide) (cLa (pc := 1519) h dL_law_1519 rfl (cLa (pc := 1520) h dL_law_1520 rfl (cLi (pc := 1521) h dL_law_1521 rfl (cC (pc := 1522) h dL_law_1522 rfl (aAdd (pc := 1523) h dL_law_1523 (rAx (pc := 1524) hS h dL_law_1524 (kCi (pc := 1525) h (kd_L_175 h dL_law_1525) spX13_find (by decide) (by decide) (by decide) (by decide) (jCEq (pc := 1528) h dL_law_1528 rfl (k1111) (cC (pc := 1531) h dL_law_1531 rfl (zLaw (pc := 1532) hm dL_law_1532))))))))))))))))
set_option maxRecDepth 20000 in
theorem lL_law_1060 {nA : Nat} {fA : Nat → Int32} (k10 : Int32 → qM → Option (Unit × qM)) (a3 : Int32) (m : qM) : tL_law_1060 nA fA (wL_law_1111 (fL_law_1111 nA fA k10)) [some (.ref 10020), some (.ref 0), some (.ref 98), some (.int a3)] [] m = fL_law_1060 nA fA k10 a3 m := rfl
theorem bL_law_1060 {C : qCx} {w : qWp} {Qf : Unit × qM → State → Prop} {nA : Nat} {fA : Nat → Int32} (h : qOk C w RL cL_law 4 16 0 155) (hm : qLe C w Qf) (hS : qSc C w nA fA) {k10 : Int32 → qM → Option (Unit × qM)} (h10 : qSnd C w 4 0 Qf qfin 155 18 (wL_law_10 k10)) : qSnd C w 4 0 Qf qfin 155 1510 (wL_law_1060 (fL_law_1060 nA fA k10)) :=
  qSnd_of (fun lo st m x hr0 => by
    unfold wL_law_1060 at hr0
    split at hr0
    · exact ⟨_, (qsub_e (qsub_e (qsub_e (qsub_e qsub_nil)))), (lL_law_1060 _ _ _).trans hr0⟩
    · cases hr0) (sL_law_1060 h hm hS (bL_law_1111 h hm hS h10))
noncomputable def fL_law_1077 (nA : Nat) (fA : Nat → Int32) (k10 : Int32 → qM → Option (Unit × qM)) (a3 : Int32) (m : qM) : Option (Unit × qM) :=
  bif inb ((a3 + (1 : Int32))) nA then qbI (fX11_found ((fA (ix ((a3 + (1 : Int32)))))) m) (fun x157 m158 => bif inb ((a3 + (1 : Int32))) nA then qbI (fX13_found ((fA (ix ((a3 + (1 : Int32)))))) m158) (fun x159 m160 => bif eqb x157 x159 then fL_law_1111 nA fA k10 a3 m160 else bif eqb ((0 : Int32)) (1 : Int32) then some ((), m160) else none) else none) else none
noncomputable def tL_law_1077 (nA : Nat) (fA : Nat → Int32) (j1111 : qT (Unit × qM)) : qT (Unit × qM) :=
  oLa 1 (oLa 0 (oLi 3 (oC (.int (1 : Int32)) (o2 (· + ·) (oAx 10020 nA fA (oCi GX11_found 2 (oLa 2 (oLa 0 (oLi 3 (oC (.int (1 : Int32)) (o2 (· + ·) (oAx 10020 nA fA (oCi GX13_found 2 (oCEq (j1111) (oC (.int (0 : Int32)) (eLaw))))))))))))))))
noncomputable def wL_law_1077 (k : Int32 → qM → Option (Unit × qM)) : qT (Unit × qM) := fun lo st m => match lo, st with
  | [some (.ref 10020), some (.ref 0), some (.ref 98), some (.int a3)], [] => k a3 m
  | _, _ => none
set_option maxRecDepth 20000 in
theorem sL_law_1077 {C : qCx} {w : qWp} {Qf : Unit × qM → State → Prop} {nA : Nat} {fA : Nat → Int32} (h : qOk C w RL cL_law 4 16 0 155) (hm : qLe C w Qf) (hS : qSc C w nA fA) {j1111 : qT (Unit × qM)} (k1111 : qSnd C w 4 0 Qf qfin 155 1579 j1111) : qSnd C w 4 0 Qf qfin 155 1533 (tL_law_1077 nA fA j1111) :=
  cLa (pc := 1533) h dL_law_1533 rfl (cLa (pc := 1534) h dL_law_1534 rfl (cLi (pc := 1535) h dL_law_1535 rfl (cC (pc := 1536) h dL_law_1536 rfl (aAdd (pc := 1537) h dL_law_1537 (rAx (pc := 1538) hS h dL_law_1538 (kCi (pc := 1539) h (kd_L_176 h dL_law_1539) spX11_found (by decide) (by decide) (by decide) (by decide) (cLa (pc := 1542) h dL_law_1542 rfl (cLa (pc := 1543) h dL_law_1543 rfl (cLi (pc := 1544) h dL_law_1544 rfl (cC (pc := 1545) h dL_law_1545 rfl (aAdd (pc := 1546) h dL_law_1546 (rAx (pc := 1547) hS h dL_law_1547 (kCi (pc := 1548) h (kd_L_179 h dL_law_1548) spX13_found (by decide) (by decide) (by decide) (by decide) (jCEq (pc := 1551) h dL_law_1551 rfl (k1111) (cC (pc := 1554) h dL_law_1554 rfl (zLaw (pc := 1555) hm dL_law_1555))))))))))))))))
set_option maxRecDepth 20000 in
theorem lL_law_1077 {nA : Nat} {fA : Nat → Int32} (k10 : Int32 → qM → Option (Unit × qM)) (a3 : Int32) (m : qM) : tL_law_1077 nA fA (wL_law_1111 (fL_law_1111 nA fA k10)) [some (.ref 10020), some (.ref 0), some (.ref 98), some (.int a3)] [] m = fL_law_1077 nA fA k10 a3 m := rfl
theorem bL_law_1077 {C : qCx} {w : qWp} {Qf : Unit × qM → State → Prop} {nA : Nat} {fA : Nat → Int32} (h : qOk C w RL cL_law 4 16 0 155) (hm : qLe C w Qf) (hS : qSc C w nA fA) {k10 : Int32 → qM → Option (Unit × qM)} (h10 : qSnd C w 4 0 Qf qfin 155 18 (wL_law_10 k10)) : qSnd C w 4 0 Qf qfin 155 1533 (wL_law_1077 (fL_law_1077 nA fA k10)) :=
  qSnd_of (fun lo st m x hr0 => by
    unfold wL_law_1077 at hr0
    split at hr0
    · exact ⟨_, (qsub_e (qsub_e (qsub_e (qsub_e qsub_nil)))), (lL_law_1077 _ _ _).trans hr0⟩
    · cases hr0) (sL_law_1077 h hm hS (bL_law_1111 h hm hS h10))
noncomputable def fL_law_1094 (nA : Nat) (fA : Nat → Int32) (k10 : Int32 → qM → Option (Unit × qM)) (a3 : Int32) (m : qM) : Option (Unit × qM) :=
  bif inb ((a3 + (1 : Int32))) nA then qbI (fX11_count ((fA (ix ((a3 + (1 : Int32)))))) m) (fun x161 m162 => bif inb ((a3 + (1 : Int32))) nA then qbI (fX13_count ((fA (ix ((a3 + (1 : Int32)))))) m162) (fun x163 m164 => bif eqb x161 x163 then fL_law_1111 nA fA k10 a3 m164 else bif eqb ((0 : Int32)) (1 : Int32) then some ((), m164) else none) else none) else none
noncomputable def tL_law_1094 (nA : Nat) (fA : Nat → Int32) (j1111 : qT (Unit × qM)) : qT (Unit × qM) :=
  oLa 1 (oLa 0 (oLi 3 (oC (.int (1 : Int32)) (o2 (· + ·) (oAx 10020 nA fA (oCi GX11_count 2 (oLa 2 (oLa 0 (oLi 3 (oC (.int (1 : Int32)) (o2 (· + ·) (oAx 10020 nA fA (oCi GX13_count 2 (oCEq (j1111) (oC (.int (0 : Int32)) (eLaw))))))))))))))))
noncomputable def wL_law_1094 (k : Int32 → qM → Option (Unit × qM)) : qT (Unit × qM) := fun lo st m => match lo, st with
  | [some (.ref 10020), some (.ref 0), some (.ref 98), some (.int a3)], [] => k a3 m
  | _, _ => none
set_option maxRecDepth 20000 in
theorem sL_law_1094 {C : qCx} {w : qWp} {Qf : Unit × qM → State → Prop} {nA : Nat} {fA : Nat → Int32} (h : qOk C w RL cL_law 4 16 0 155) (hm : qLe C w Qf) (hS : qSc C w nA fA) {j1111 : qT (Unit × qM)} (k1111 : qSnd C w 4 0 Qf qfin 155 1579 j1111) : qSnd C w 4 0 Qf qfin 155 1556 (tL_law_1094 nA fA j1111) :=
  cLa (pc := 1556) h dL_law_1556 rfl (cLa (pc := 1557) h dL_law_1557 rfl (cLi (pc := 1558) h dL_law_1558 rfl (cC (pc := 1559) h dL_law_1559 rfl (aAdd (pc := 1560) h dL_law_1560 (rAx (pc := 1561) hS h dL_law_1561 (kCi (pc := 1562) h (kd_L_180 h dL_law_1562) spX11_count (by decide) (by decide) (by decide) (by decide) (cLa (pc := 1565) h dL_law_1565 rfl (cLa (pc := 1566) h dL_law_1566 rfl (cLi (pc := 1567) h dL_law_1567 rfl (cC (pc := 1568) h dL_law_1568 rfl (aAdd (pc := 1569) h dL_law_1569 (rAx (pc := 1570) hS h dL_law_1570 (kCi (pc := 1571) h (kd_L_183 h dL_law_1571) spX13_count (by decide) (by decide) (by decide) (by decide) (jCEq (pc := 1574) h dL_law_1574 rfl (k1111) (cC (pc := 1577) h dL_law_1577 rfl (zLaw (pc := 1578) hm dL_law_1578))))))))))))))))
set_option maxRecDepth 20000 in
theorem lL_law_1094 {nA : Nat} {fA : Nat → Int32} (k10 : Int32 → qM → Option (Unit × qM)) (a3 : Int32) (m : qM) : tL_law_1094 nA fA (wL_law_1111 (fL_law_1111 nA fA k10)) [some (.ref 10020), some (.ref 0), some (.ref 98), some (.int a3)] [] m = fL_law_1094 nA fA k10 a3 m := rfl
theorem bL_law_1094 {C : qCx} {w : qWp} {Qf : Unit × qM → State → Prop} {nA : Nat} {fA : Nat → Int32} (h : qOk C w RL cL_law 4 16 0 155) (hm : qLe C w Qf) (hS : qSc C w nA fA) {k10 : Int32 → qM → Option (Unit × qM)} (h10 : qSnd C w 4 0 Qf qfin 155 18 (wL_law_10 k10)) : qSnd C w 4 0 Qf qfin 155 1556 (wL_law_1094 (fL_law_1094 nA fA k10)) :=
  qSnd_of (fun lo st m x hr0 => by
    unfold wL_law_1094 at hr0
    split at hr0
    · exact ⟨_, (qsub_e (qsub_e (qsub_e (qsub_e qsub_nil)))), (lL_law_1094 _ _ _).trans hr0⟩
    · cases hr0) (sL_law_1094 h hm hS (bL_law_1111 h hm hS h10))
