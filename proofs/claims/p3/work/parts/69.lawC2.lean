set_option maxHeartbeats 4000000 in
theorem lc_20 {E : ET} {D : va_G} {ad ad2 : Nat → Nat} {cA cA2 : Nat → ClassId} {b L i : Nat} {zs : Nat → Int} (C : CX E (wI D) cL_law 4 RL (some .boolean) room_1) (hX : LAW E b L (fun j => iI (zs j))) (hz : ∀ j, inR (zs j)) (hW : LW E D ad ad2 cA cA2) (i6 : i + 6 ≤ L) (hL : L ≤ 3072) {X Y : XT} (hHx : HG vX X) (hEx : gX.2 X) (hHy : HG vM Y) (hEy : gM.2 Y) (hR : TRL X Y) (hE : ∀ X1 Y1 : XT, HG vX X1 → gX.2 X1 → HG vM Y1 → gM.2 Y1 → TRL X1 Y1 → Wx E (wI D) 4 (fun H => PX (wX D ad cA) X1 H ∧ PX (wM D ad2 cA2) Y1 H) 1443 [(3, .int (iI ((i : Int)))), (2, .ref (ad2 0)), (1, .ref (ad 0)), (0, .ref b)] []) : Wx E (wI D) 4 (fun H => PX (wX D ad cA) X H ∧ PX (wM D ad2 cA2) Y H) 1050 [(3, .int (iI ((i : Int)))), (2, .ref (ad2 0)), (1, .ref (ad 0)), (0, .ref b)] [] := by
  refine x_aload_n (i := 1) C dL_law_1050 rfl rfl ?_
  refine x_aload_n (i := 0) C dL_law_1051 rfl rfl ?_
  refine x_iload_n (i := 3) C dL_law_1052 rfl rfl ?_
  refine x_iconst C dL_law_1053 ?_
  refine x_iadd C dL_law_1054 ?_
  refine L_sldz (j := i + 1) C hX (by omega) (by omega) (by omega) dL_law_1055 ?_
  refine x_aload_n (i := 0) C dL_law_1056 rfl rfl ?_
  refine x_iload_n (i := 3) C dL_law_1057 rfl rfl ?_
  refine x_iconst C dL_law_1058 ?_
  refine x_iadd C dL_law_1059 ?_
  refine L_sldz (j := i + 2) C hX (by omega) (by omega) (by omega) dL_law_1060 ?_
  refine x_aload_n (i := 0) C dL_law_1061 rfl rfl ?_
  refine x_iload_n (i := 3) C dL_law_1062 rfl rfl ?_
  refine x_iconst C dL_law_1063 ?_
  refine x_iadd C dL_law_1064 ?_
  refine L_sldz (j := i + 3) C hX (by omega) (by omega) (by omega) dL_law_1065 ?_
  refine x_aload_n (i := 0) C dL_law_1066 rfl rfl ?_
  refine x_iload_n (i := 3) C dL_law_1067 rfl rfl ?_
  refine x_iconst C dL_law_1068 ?_
  refine x_iadd C dL_law_1069 ?_
  refine L_sldz (j := i + 4) C hX (by omega) (by omega) (by omega) dL_law_1070 ?_
  refine L_call (R := PX (wM D ad2 cA2) Y) C ⟨rfl, rfl⟩ hW.1 hW.2.1 (L_keep (X := Y) hW.2.2.2.2.1) (xp_shorter (z1 := zs (i + 1)) (z2 := zs (i + 2)) (z3 := zs (i + 3)) (z4 := zs (i + 4)) (hz _) (hz _) (hz _) (hz _) hHx hEx) ckL_102 im_X11_shorter se_X11_shorter (nlt rfl) rfl rfl rfl rfl rfl (nle rfl) ⟨nle rfl, nle rfl⟩ dL_law_1071 (fun r X1 hp => ?_)
  obtain ⟨⟨u, rfl⟩, hHx1, hEx1, hFx⟩ := hp
  refine Wx_st (st' := [.int u]) rfl ?_
  refine x_pop C dL_law_1074 rfl ?_
  refine x_aload_n (i := 2) C dL_law_1075 rfl rfl ?_
  refine x_aload_n (i := 0) C dL_law_1076 rfl rfl ?_
  refine x_iload_n (i := 3) C dL_law_1077 rfl rfl ?_
  refine x_iconst C dL_law_1078 ?_
  refine x_iadd C dL_law_1079 ?_
  refine L_sldz (j := i + 1) C hX (by omega) (by omega) (by omega) dL_law_1080 ?_
  refine x_aload_n (i := 0) C dL_law_1081 rfl rfl ?_
  refine x_iload_n (i := 3) C dL_law_1082 rfl rfl ?_
  refine x_iconst C dL_law_1083 ?_
  refine x_iadd C dL_law_1084 ?_
  refine L_sldz (j := i + 2) C hX (by omega) (by omega) (by omega) dL_law_1085 ?_
  refine x_aload_n (i := 0) C dL_law_1086 rfl rfl ?_
  refine x_iload_n (i := 3) C dL_law_1087 rfl rfl ?_
  refine x_iconst C dL_law_1088 ?_
  refine x_iadd C dL_law_1089 ?_
  refine L_sldz (j := i + 3) C hX (by omega) (by omega) (by omega) dL_law_1090 ?_
  refine x_aload_n (i := 0) C dL_law_1091 rfl rfl ?_
  refine x_iload_n (i := 3) C dL_law_1092 rfl rfl ?_
  refine x_iconst C dL_law_1093 ?_
  refine x_iadd C dL_law_1094 ?_
  refine L_sldz (j := i + 4) C hX (by omega) (by omega) (by omega) dL_law_1095 ?_
  refine Wx_PH (PH' := fun H => PX (wM D ad2 cA2) Y H ∧ PX (wX D ad cA) X1 H) (fun H h => ⟨h.2, h.1⟩) ?_
  refine L_call (R := PX (wX D ad cA) X1) C ⟨rfl, rfl⟩ hW.2.2.1 hW.2.2.2.1 (L_keep (X := X1) (fun x h h9 => hW.2.2.2.2.1 x h9 h)) (rp_shorter (z1 := zs (i + 1)) (z2 := zs (i + 2)) (z3 := zs (i + 3)) (z4 := zs (i + 4)) (hz _) (hz _) (hz _) (hz _) hHy hEy) ckL_105 im_X12_shorter se_X12_shorter (nlt rfl) rfl rfl rfl rfl rfl (nle rfl) ⟨nle rfl, nle rfl⟩ dL_law_1096 (fun r Y1 hp => ?_)
  obtain ⟨⟨v, rfl⟩, hHy1, hEy1, hFy⟩ := hp
  refine Wx_st (st' := [.int v]) rfl ?_
  refine x_pop C dL_law_1099 rfl ?_
  refine x_goto (tgt := 1443) C dL_law_1100 (by decide) ?_
  have hR1 : TRL X1 Y1 := trl_fr hR hHy hFx hFy rfl rfl rfl rfl rfl rfl rfl
  refine Wx_PH (PH' := fun H => PX (wX D ad cA) X1 H ∧ PX (wM D ad2 cA2) Y1 H) (fun H h => ⟨h.2, h.1⟩) ?_
  exact hE X1 Y1 hHx1 hEx1 hHy1 hEy1 hR1
set_option maxHeartbeats 4000000 in
theorem lc_21 {E : ET} {D : va_G} {ad ad2 : Nat → Nat} {cA cA2 : Nat → ClassId} {b L i : Nat} {zs : Nat → Int} (C : CX E (wI D) cL_law 4 RL (some .boolean) room_1) (hX : LAW E b L (fun j => iI (zs j))) (hz : ∀ j, inR (zs j)) (hW : LW E D ad ad2 cA cA2) (i6 : i + 6 ≤ L) (hL : L ≤ 3072) {X Y : XT} (hHx : HG vX X) (hEx : gX.2 X) (hHy : HG vM Y) (hEy : gM.2 Y) (hR : TRL X Y) (hE : ∀ X1 Y1 : XT, HG vX X1 → gX.2 X1 → HG vM Y1 → gM.2 Y1 → TRL X1 Y1 → Wx E (wI D) 4 (fun H => PX (wX D ad cA) X1 H ∧ PX (wM D ad2 cA2) Y1 H) 1443 [(3, .int (iI ((i : Int)))), (2, .ref (ad2 0)), (1, .ref (ad 0)), (0, .ref b)] []) : Wx E (wI D) 4 (fun H => PX (wX D ad cA) X H ∧ PX (wM D ad2 cA2) Y H) 1103 [(3, .int (iI ((i : Int)))), (2, .ref (ad2 0)), (1, .ref (ad 0)), (0, .ref b)] [] := by
  refine x_aload_n (i := 1) C dL_law_1103 rfl rfl ?_
  refine x_aload_n (i := 0) C dL_law_1104 rfl rfl ?_
  refine x_iload_n (i := 3) C dL_law_1105 rfl rfl ?_
  refine x_iconst C dL_law_1106 ?_
  refine x_iadd C dL_law_1107 ?_
  refine L_sldz (j := i + 1) C hX (by omega) (by omega) (by omega) dL_law_1108 ?_
  refine x_aload_n (i := 0) C dL_law_1109 rfl rfl ?_
  refine x_iload_n (i := 3) C dL_law_1110 rfl rfl ?_
  refine x_iconst C dL_law_1111 ?_
  refine x_iadd C dL_law_1112 ?_
  refine L_sldz (j := i + 2) C hX (by omega) (by omega) (by omega) dL_law_1113 ?_
  refine x_aload_n (i := 0) C dL_law_1114 rfl rfl ?_
  refine x_iload_n (i := 3) C dL_law_1115 rfl rfl ?_
  refine x_iconst C dL_law_1116 ?_
  refine x_iadd C dL_law_1117 ?_
  refine L_sldz (j := i + 3) C hX (by omega) (by omega) (by omega) dL_law_1118 ?_
  refine L_call (R := PX (wM D ad2 cA2) Y) C ⟨rfl, rfl⟩ hW.1 hW.2.1 (L_keep (X := Y) hW.2.2.2.2.1) (xp_alike (z1 := zs (i + 1)) (z2 := zs (i + 2)) (z3 := zs (i + 3)) (hz _) (hz _) (hz _) hHx hEx) ckL_106 im_X11_alike se_X11_alike (nlt rfl) rfl rfl rfl rfl rfl (nle rfl) ⟨nle rfl, nle rfl⟩ dL_law_1119 (fun r X1 hp => ?_)
  obtain ⟨⟨u, rfl⟩, hHx1, hEx1, hFx⟩ := hp
  refine Wx_st (st' := [.int u]) rfl ?_
  refine x_pop C dL_law_1122 rfl ?_
  refine x_aload_n (i := 2) C dL_law_1123 rfl rfl ?_
  refine x_aload_n (i := 0) C dL_law_1124 rfl rfl ?_
  refine x_iload_n (i := 3) C dL_law_1125 rfl rfl ?_
  refine x_iconst C dL_law_1126 ?_
  refine x_iadd C dL_law_1127 ?_
  refine L_sldz (j := i + 1) C hX (by omega) (by omega) (by omega) dL_law_1128 ?_
  refine x_aload_n (i := 0) C dL_law_1129 rfl rfl ?_
  refine x_iload_n (i := 3) C dL_law_1130 rfl rfl ?_
  refine x_iconst C dL_law_1131 ?_
  refine x_iadd C dL_law_1132 ?_
  refine L_sldz (j := i + 2) C hX (by omega) (by omega) (by omega) dL_law_1133 ?_
  refine x_aload_n (i := 0) C dL_law_1134 rfl rfl ?_
  refine x_iload_n (i := 3) C dL_law_1135 rfl rfl ?_
  refine x_iconst C dL_law_1136 ?_
  refine x_iadd C dL_law_1137 ?_
  refine L_sldz (j := i + 3) C hX (by omega) (by omega) (by omega) dL_law_1138 ?_
  refine Wx_PH (PH' := fun H => PX (wM D ad2 cA2) Y H ∧ PX (wX D ad cA) X1 H) (fun H h => ⟨h.2, h.1⟩) ?_
  refine L_call (R := PX (wX D ad cA) X1) C ⟨rfl, rfl⟩ hW.2.2.1 hW.2.2.2.1 (L_keep (X := X1) (fun x h h9 => hW.2.2.2.2.1 x h9 h)) (rp_alike (z1 := zs (i + 1)) (z2 := zs (i + 2)) (z3 := zs (i + 3)) (hz _) (hz _) (hz _) hHy hEy) ckL_109 im_X12_alike se_X12_alike (nlt rfl) rfl rfl rfl rfl rfl (nle rfl) ⟨nle rfl, nle rfl⟩ dL_law_1139 (fun r Y1 hp => ?_)
  obtain ⟨⟨v, rfl⟩, hHy1, hEy1, hFy⟩ := hp
  refine Wx_st (st' := [.int v]) rfl ?_
  refine x_pop C dL_law_1142 rfl ?_
  refine x_goto (tgt := 1443) C dL_law_1143 (by decide) ?_
  have hR1 : TRL X1 Y1 := trl_fr hR hHy hFx hFy rfl rfl rfl rfl rfl rfl rfl
  refine Wx_PH (PH' := fun H => PX (wX D ad cA) X1 H ∧ PX (wM D ad2 cA2) Y1 H) (fun H h => ⟨h.2, h.1⟩) ?_
  exact hE X1 Y1 hHx1 hEx1 hHy1 hEy1 hR1
set_option maxHeartbeats 4000000 in
theorem lc_22 {E : ET} {D : va_G} {ad ad2 : Nat → Nat} {cA cA2 : Nat → ClassId} {b L i : Nat} {zs : Nat → Int} (C : CX E (wI D) cL_law 4 RL (some .boolean) room_1) (hX : LAW E b L (fun j => iI (zs j))) (hz : ∀ j, inR (zs j)) (hW : LW E D ad ad2 cA cA2) (i6 : i + 6 ≤ L) (hL : L ≤ 3072) {X Y : XT} (hHx : HG vX X) (hEx : gX.2 X) (hHy : HG vM Y) (hEy : gM.2 Y) (hR : TRL X Y) (hE : ∀ X1 Y1 : XT, HG vX X1 → gX.2 X1 → HG vM Y1 → gM.2 Y1 → TRL X1 Y1 → Wx E (wI D) 4 (fun H => PX (wX D ad cA) X1 H ∧ PX (wM D ad2 cA2) Y1 H) 1443 [(3, .int (iI ((i : Int)))), (2, .ref (ad2 0)), (1, .ref (ad 0)), (0, .ref b)] []) : Wx E (wI D) 4 (fun H => PX (wX D ad cA) X H ∧ PX (wM D ad2 cA2) Y H) 1146 [(3, .int (iI ((i : Int)))), (2, .ref (ad2 0)), (1, .ref (ad 0)), (0, .ref b)] [] := by
  refine x_aload_n (i := 1) C dL_law_1146 rfl rfl ?_
  refine x_aload_n (i := 0) C dL_law_1147 rfl rfl ?_
  refine x_iload_n (i := 3) C dL_law_1148 rfl rfl ?_
  refine x_iconst C dL_law_1149 ?_
  refine x_iadd C dL_law_1150 ?_
  refine L_sldz (j := i + 1) C hX (by omega) (by omega) (by omega) dL_law_1151 ?_
  refine x_aload_n (i := 0) C dL_law_1152 rfl rfl ?_
  refine x_iload_n (i := 3) C dL_law_1153 rfl rfl ?_
  refine x_iconst C dL_law_1154 ?_
  refine x_iadd C dL_law_1155 ?_
  refine L_sldz (j := i + 2) C hX (by omega) (by omega) (by omega) dL_law_1156 ?_
  refine x_aload_n (i := 0) C dL_law_1157 rfl rfl ?_
  refine x_iload_n (i := 3) C dL_law_1158 rfl rfl ?_
  refine x_iconst C dL_law_1159 ?_
  refine x_iadd C dL_law_1160 ?_
  refine L_sldz (j := i + 3) C hX (by omega) (by omega) (by omega) dL_law_1161 ?_
  refine x_aload_n (i := 0) C dL_law_1162 rfl rfl ?_
  refine x_iload_n (i := 3) C dL_law_1163 rfl rfl ?_
  refine x_iconst C dL_law_1164 ?_
  refine x_iadd C dL_law_1165 ?_
  refine L_sldz (j := i + 4) C hX (by omega) (by omega) (by omega) dL_law_1166 ?_
  refine x_if_eq (tgt := 1174) C dL_law_1167 (by decide) (hz _) (fun h4 => ?_) (fun h4 => ?_)
  · skip
    refine x_iconst C dL_law_1174 ?_
    refine L_call (R := PX (wM D ad2 cA2) Y) C ⟨rfl, rfl⟩ hW.1 hW.2.1 (L_keep (X := Y) hW.2.2.2.2.1) (xp_meanings (z1 := zs (i + 1)) (z2 := zs (i + 2)) (z3 := zs (i + 3)) (z4 := 0) (hz _) (hz _) (hz _) ⟨by decide, by decide⟩ hHx hEx) ckL_110 im_X11_meanings se_X11_meanings (nlt rfl) rfl rfl rfl rfl rfl (nle rfl) ⟨nle rfl, nle rfl⟩ dL_law_1175 (fun r X1 hp => ?_)
    obtain ⟨⟨u, rfl⟩, hHx1, hEx1, hFx⟩ := hp
    refine Wx_st (st' := [.int u]) rfl ?_
    refine x_pop C dL_law_1178 rfl ?_
    refine x_aload_n (i := 2) C dL_law_1179 rfl rfl ?_
    refine x_aload_n (i := 0) C dL_law_1180 rfl rfl ?_
    refine x_iload_n (i := 3) C dL_law_1181 rfl rfl ?_
    refine x_iconst C dL_law_1182 ?_
    refine x_iadd C dL_law_1183 ?_
    refine L_sldz (j := i + 1) C hX (by omega) (by omega) (by omega) dL_law_1184 ?_
    refine x_aload_n (i := 0) C dL_law_1185 rfl rfl ?_
    refine x_iload_n (i := 3) C dL_law_1186 rfl rfl ?_
    refine x_iconst C dL_law_1187 ?_
    refine x_iadd C dL_law_1188 ?_
    refine L_sldz (j := i + 2) C hX (by omega) (by omega) (by omega) dL_law_1189 ?_
    refine x_aload_n (i := 0) C dL_law_1190 rfl rfl ?_
    refine x_iload_n (i := 3) C dL_law_1191 rfl rfl ?_
    refine x_iconst C dL_law_1192 ?_
    refine x_iadd C dL_law_1193 ?_
    refine L_sldz (j := i + 3) C hX (by omega) (by omega) (by omega) dL_law_1194 ?_
    refine x_aload_n (i := 0) C dL_law_1195 rfl rfl ?_
    refine x_iload_n (i := 3) C dL_law_1196 rfl rfl ?_
    refine x_iconst C dL_law_1197 ?_
    refine x_iadd C dL_law_1198 ?_
    refine L_sldz (j := i + 4) C hX (by omega) (by omega) (by omega) dL_law_1199 ?_
    refine x_if_eq (tgt := 1207) C dL_law_1200 (by decide) (hz _) (fun _ => ?_) (fun h => absurd h4 h)
    refine x_iconst C dL_law_1207 ?_
    refine Wx_PH (PH' := fun H => PX (wM D ad2 cA2) Y H ∧ PX (wX D ad cA) X1 H) (fun H h => ⟨h.2, h.1⟩) ?_
    refine L_call (R := PX (wX D ad cA) X1) C ⟨rfl, rfl⟩ hW.2.2.1 hW.2.2.2.1 (L_keep (X := X1) (fun x h h9 => hW.2.2.2.2.1 x h9 h)) (rp_meanings (z1 := zs (i + 1)) (z2 := zs (i + 2)) (z3 := zs (i + 3)) (z4 := 0) (hz _) (hz _) (hz _) ⟨by decide, by decide⟩ hHy hEy) ckL_113 im_X12_meanings se_X12_meanings (nlt rfl) rfl rfl rfl rfl rfl (nle rfl) ⟨nle rfl, nle rfl⟩ dL_law_1208 (fun r Y1 hp => ?_)
    obtain ⟨⟨v, rfl⟩, hHy1, hEy1, hFy⟩ := hp
    refine Wx_st (st' := [.int v]) rfl ?_
    refine x_pop C dL_law_1211 rfl ?_
    refine x_goto (tgt := 1443) C dL_law_1212 (by decide) ?_
    have hR1 : TRL X1 Y1 := trl_fr hR hHy hFx hFy rfl rfl rfl rfl rfl rfl rfl
    refine Wx_PH (PH' := fun H => PX (wX D ad cA) X1 H ∧ PX (wM D ad2 cA2) Y1 H) (fun H h => ⟨h.2, h.1⟩) ?_
    exact hE X1 Y1 hHx1 hEx1 hHy1 hEy1 hR1
  · skip
    refine x_iconst C dL_law_1170 ?_
    refine x_goto (tgt := 1175) C dL_law_1171 (by decide) ?_
    refine L_call (R := PX (wM D ad2 cA2) Y) C ⟨rfl, rfl⟩ hW.1 hW.2.1 (L_keep (X := Y) hW.2.2.2.2.1) (xp_meanings (z1 := zs (i + 1)) (z2 := zs (i + 2)) (z3 := zs (i + 3)) (z4 := 1) (hz _) (hz _) (hz _) ⟨by decide, by decide⟩ hHx hEx) ckL_110 im_X11_meanings se_X11_meanings (nlt rfl) rfl rfl rfl rfl rfl (nle rfl) ⟨nle rfl, nle rfl⟩ dL_law_1175 (fun r X1 hp => ?_)
    obtain ⟨⟨u, rfl⟩, hHx1, hEx1, hFx⟩ := hp
    refine Wx_st (st' := [.int u]) rfl ?_
    refine x_pop C dL_law_1178 rfl ?_
    refine x_aload_n (i := 2) C dL_law_1179 rfl rfl ?_
    refine x_aload_n (i := 0) C dL_law_1180 rfl rfl ?_
    refine x_iload_n (i := 3) C dL_law_1181 rfl rfl ?_
    refine x_iconst C dL_law_1182 ?_
    refine x_iadd C dL_law_1183 ?_
    refine L_sldz (j := i + 1) C hX (by omega) (by omega) (by omega) dL_law_1184 ?_
    refine x_aload_n (i := 0) C dL_law_1185 rfl rfl ?_
    refine x_iload_n (i := 3) C dL_law_1186 rfl rfl ?_
    refine x_iconst C dL_law_1187 ?_
    refine x_iadd C dL_law_1188 ?_
    refine L_sldz (j := i + 2) C hX (by omega) (by omega) (by omega) dL_law_1189 ?_
    refine x_aload_n (i := 0) C dL_law_1190 rfl rfl ?_
    refine x_iload_n (i := 3) C dL_law_1191 rfl rfl ?_
    refine x_iconst C dL_law_1192 ?_
    refine x_iadd C dL_law_1193 ?_
    refine L_sldz (j := i + 3) C hX (by omega) (by omega) (by omega) dL_law_1194 ?_
    refine x_aload_n (i := 0) C dL_law_1195 rfl rfl ?_
    refine x_iload_n (i := 3) C dL_law_1196 rfl rfl ?_
    refine x_iconst C dL_law_1197 ?_
    refine x_iadd C dL_law_1198 ?_
    refine L_sldz (j := i + 4) C hX (by omega) (by omega) (by omega) dL_law_1199 ?_
    refine x_if_eq (tgt := 1207) C dL_law_1200 (by decide) (hz _) (fun h => absurd h h4) (fun _ => ?_)
    refine x_iconst C dL_law_1203 ?_
    refine x_goto (tgt := 1208) C dL_law_1204 (by decide) ?_
    refine Wx_PH (PH' := fun H => PX (wM D ad2 cA2) Y H ∧ PX (wX D ad cA) X1 H) (fun H h => ⟨h.2, h.1⟩) ?_
    refine L_call (R := PX (wX D ad cA) X1) C ⟨rfl, rfl⟩ hW.2.2.1 hW.2.2.2.1 (L_keep (X := X1) (fun x h h9 => hW.2.2.2.2.1 x h9 h)) (rp_meanings (z1 := zs (i + 1)) (z2 := zs (i + 2)) (z3 := zs (i + 3)) (z4 := 1) (hz _) (hz _) (hz _) ⟨by decide, by decide⟩ hHy hEy) ckL_113 im_X12_meanings se_X12_meanings (nlt rfl) rfl rfl rfl rfl rfl (nle rfl) ⟨nle rfl, nle rfl⟩ dL_law_1208 (fun r Y1 hp => ?_)
    obtain ⟨⟨v, rfl⟩, hHy1, hEy1, hFy⟩ := hp
    refine Wx_st (st' := [.int v]) rfl ?_
    refine x_pop C dL_law_1211 rfl ?_
    refine x_goto (tgt := 1443) C dL_law_1212 (by decide) ?_
    have hR1 : TRL X1 Y1 := trl_fr hR hHy hFx hFy rfl rfl rfl rfl rfl rfl rfl
    refine Wx_PH (PH' := fun H => PX (wX D ad cA) X1 H ∧ PX (wM D ad2 cA2) Y1 H) (fun H h => ⟨h.2, h.1⟩) ?_
    exact hE X1 Y1 hHx1 hEx1 hHy1 hEy1 hR1
set_option maxHeartbeats 4000000 in
theorem lc_23 {E : ET} {D : va_G} {ad ad2 : Nat → Nat} {cA cA2 : Nat → ClassId} {b L i : Nat} {zs : Nat → Int} (C : CX E (wI D) cL_law 4 RL (some .boolean) room_1) (hX : LAW E b L (fun j => iI (zs j))) (hz : ∀ j, inR (zs j)) (hW : LW E D ad ad2 cA cA2) (i6 : i + 6 ≤ L) (hL : L ≤ 3072) {X Y : XT} (hHx : HG vX X) (hEx : gX.2 X) (hHy : HG vM Y) (hEy : gM.2 Y) (hR : TRL X Y) (hE : ∀ X1 Y1 : XT, HG vX X1 → gX.2 X1 → HG vM Y1 → gM.2 Y1 → TRL X1 Y1 → Wx E (wI D) 4 (fun H => PX (wX D ad cA) X1 H ∧ PX (wM D ad2 cA2) Y1 H) 1443 [(3, .int (iI ((i : Int)))), (2, .ref (ad2 0)), (1, .ref (ad 0)), (0, .ref b)] []) : Wx E (wI D) 4 (fun H => PX (wX D ad cA) X H ∧ PX (wM D ad2 cA2) Y H) 1215 [(3, .int (iI ((i : Int)))), (2, .ref (ad2 0)), (1, .ref (ad 0)), (0, .ref b)] [] := by
  refine x_aload_n (i := 1) C dL_law_1215 rfl rfl ?_
  refine x_aload_n (i := 0) C dL_law_1216 rfl rfl ?_
  refine x_iload_n (i := 3) C dL_law_1217 rfl rfl ?_
  refine x_iconst C dL_law_1218 ?_
  refine x_iadd C dL_law_1219 ?_
  refine L_sldz (j := i + 1) C hX (by omega) (by omega) (by omega) dL_law_1220 ?_
  refine x_aload_n (i := 0) C dL_law_1221 rfl rfl ?_
  refine x_iload_n (i := 3) C dL_law_1222 rfl rfl ?_
  refine x_iconst C dL_law_1223 ?_
  refine x_iadd C dL_law_1224 ?_
  refine L_sldz (j := i + 2) C hX (by omega) (by omega) (by omega) dL_law_1225 ?_
  refine x_aload_n (i := 0) C dL_law_1226 rfl rfl ?_
  refine x_iload_n (i := 3) C dL_law_1227 rfl rfl ?_
  refine x_iconst C dL_law_1228 ?_
  refine x_iadd C dL_law_1229 ?_
  refine L_sldz (j := i + 3) C hX (by omega) (by omega) (by omega) dL_law_1230 ?_
  refine x_aload_n (i := 0) C dL_law_1231 rfl rfl ?_
  refine x_iload_n (i := 3) C dL_law_1232 rfl rfl ?_
  refine x_iconst C dL_law_1233 ?_
  refine x_iadd C dL_law_1234 ?_
  refine L_sldz (j := i + 4) C hX (by omega) (by omega) (by omega) dL_law_1235 ?_
  refine x_aload_n (i := 0) C dL_law_1236 rfl rfl ?_
  refine x_iload_n (i := 3) C dL_law_1237 rfl rfl ?_
  refine x_iconst C dL_law_1238 ?_
  refine x_iadd C dL_law_1239 ?_
  refine L_sldz (j := i + 5) C hX (by omega) (by omega) (by omega) dL_law_1240 ?_
  refine L_call (R := PX (wM D ad2 cA2) Y) C ⟨rfl, rfl⟩ hW.1 hW.2.1 (L_keep (X := Y) hW.2.2.2.2.1) (xp_wins (z1 := zs (i + 1)) (z2 := zs (i + 2)) (z3 := zs (i + 3)) (z4 := zs (i + 4)) (z5 := zs (i + 5)) (hz _) (hz _) (hz _) (hz _) (hz _) hHx hEx) ckL_114 im_X11_wins se_X11_wins (nlt rfl) rfl rfl rfl rfl rfl (nle rfl) ⟨nle rfl, nle rfl⟩ dL_law_1241 (fun r X1 hp => ?_)
  obtain ⟨⟨u, rfl⟩, hHx1, hEx1, hFx⟩ := hp
  refine Wx_st (st' := [.int u]) rfl ?_
  refine x_pop C dL_law_1244 rfl ?_
  refine x_aload_n (i := 2) C dL_law_1245 rfl rfl ?_
  refine x_aload_n (i := 0) C dL_law_1246 rfl rfl ?_
  refine x_iload_n (i := 3) C dL_law_1247 rfl rfl ?_
  refine x_iconst C dL_law_1248 ?_
  refine x_iadd C dL_law_1249 ?_
  refine L_sldz (j := i + 1) C hX (by omega) (by omega) (by omega) dL_law_1250 ?_
  refine x_aload_n (i := 0) C dL_law_1251 rfl rfl ?_
  refine x_iload_n (i := 3) C dL_law_1252 rfl rfl ?_
  refine x_iconst C dL_law_1253 ?_
  refine x_iadd C dL_law_1254 ?_
  refine L_sldz (j := i + 2) C hX (by omega) (by omega) (by omega) dL_law_1255 ?_
  refine x_aload_n (i := 0) C dL_law_1256 rfl rfl ?_
  refine x_iload_n (i := 3) C dL_law_1257 rfl rfl ?_
  refine x_iconst C dL_law_1258 ?_
  refine x_iadd C dL_law_1259 ?_
  refine L_sldz (j := i + 3) C hX (by omega) (by omega) (by omega) dL_law_1260 ?_
  refine x_aload_n (i := 0) C dL_law_1261 rfl rfl ?_
  refine x_iload_n (i := 3) C dL_law_1262 rfl rfl ?_
  refine x_iconst C dL_law_1263 ?_
  refine x_iadd C dL_law_1264 ?_
  refine L_sldz (j := i + 4) C hX (by omega) (by omega) (by omega) dL_law_1265 ?_
  refine x_aload_n (i := 0) C dL_law_1266 rfl rfl ?_
  refine x_iload_n (i := 3) C dL_law_1267 rfl rfl ?_
  refine x_iconst C dL_law_1268 ?_
  refine x_iadd C dL_law_1269 ?_
  refine L_sldz (j := i + 5) C hX (by omega) (by omega) (by omega) dL_law_1270 ?_
  refine Wx_PH (PH' := fun H => PX (wM D ad2 cA2) Y H ∧ PX (wX D ad cA) X1 H) (fun H h => ⟨h.2, h.1⟩) ?_
  refine L_call (R := PX (wX D ad cA) X1) C ⟨rfl, rfl⟩ hW.2.2.1 hW.2.2.2.1 (L_keep (X := X1) (fun x h h9 => hW.2.2.2.2.1 x h9 h)) (rp_wins (z1 := zs (i + 1)) (z2 := zs (i + 2)) (z3 := zs (i + 3)) (z4 := zs (i + 4)) (z5 := zs (i + 5)) (hz _) (hz _) (hz _) (hz _) (hz _) hHy hEy) ckL_117 im_X12_wins se_X12_wins (nlt rfl) rfl rfl rfl rfl rfl (nle rfl) ⟨nle rfl, nle rfl⟩ dL_law_1271 (fun r Y1 hp => ?_)
  obtain ⟨⟨v, rfl⟩, hHy1, hEy1, hFy⟩ := hp
  refine Wx_st (st' := [.int v]) rfl ?_
  refine x_pop C dL_law_1274 rfl ?_
  refine x_goto (tgt := 1443) C dL_law_1275 (by decide) ?_
  have hR1 : TRL X1 Y1 := trl_fr hR hHy hFx hFy rfl rfl rfl rfl rfl rfl rfl
  refine Wx_PH (PH' := fun H => PX (wX D ad cA) X1 H ∧ PX (wM D ad2 cA2) Y1 H) (fun H h => ⟨h.2, h.1⟩) ?_
  exact hE X1 Y1 hHx1 hEx1 hHy1 hEy1 hR1
set_option maxHeartbeats 4000000 in
theorem lc_24 {E : ET} {D : va_G} {ad ad2 : Nat → Nat} {cA cA2 : Nat → ClassId} {b L i : Nat} {zs : Nat → Int} (C : CX E (wI D) cL_law 4 RL (some .boolean) room_1) (hX : LAW E b L (fun j => iI (zs j))) (hz : ∀ j, inR (zs j)) (hW : LW E D ad ad2 cA cA2) (i6 : i + 6 ≤ L) (hL : L ≤ 3072) {X Y : XT} (hHx : HG vX X) (hEx : gX.2 X) (hHy : HG vM Y) (hEy : gM.2 Y) (hR : TRL X Y) (hE : ∀ X1 Y1 : XT, HG vX X1 → gX.2 X1 → HG vM Y1 → gM.2 Y1 → TRL X1 Y1 → Wx E (wI D) 4 (fun H => PX (wX D ad cA) X1 H ∧ PX (wM D ad2 cA2) Y1 H) 1443 [(3, .int (iI ((i : Int)))), (2, .ref (ad2 0)), (1, .ref (ad 0)), (0, .ref b)] []) : Wx E (wI D) 4 (fun H => PX (wX D ad cA) X H ∧ PX (wM D ad2 cA2) Y H) 1278 [(3, .int (iI ((i : Int)))), (2, .ref (ad2 0)), (1, .ref (ad 0)), (0, .ref b)] [] := by
  refine x_aload_n (i := 1) C dL_law_1278 rfl rfl ?_
  refine x_aload_n (i := 0) C dL_law_1279 rfl rfl ?_
  refine x_iload_n (i := 3) C dL_law_1280 rfl rfl ?_
  refine x_iconst C dL_law_1281 ?_
  refine x_iadd C dL_law_1282 ?_
  refine L_sldz (j := i + 1) C hX (by omega) (by omega) (by omega) dL_law_1283 ?_
  refine x_aload_n (i := 0) C dL_law_1284 rfl rfl ?_
  refine x_iload_n (i := 3) C dL_law_1285 rfl rfl ?_
  refine x_iconst C dL_law_1286 ?_
  refine x_iadd C dL_law_1287 ?_
  refine L_sldz (j := i + 2) C hX (by omega) (by omega) (by omega) dL_law_1288 ?_
  refine x_aload_n (i := 0) C dL_law_1289 rfl rfl ?_
  refine x_iload_n (i := 3) C dL_law_1290 rfl rfl ?_
  refine x_iconst C dL_law_1291 ?_
  refine x_iadd C dL_law_1292 ?_
  refine L_sldz (j := i + 3) C hX (by omega) (by omega) (by omega) dL_law_1293 ?_
  refine L_call (R := PX (wM D ad2 cA2) Y) C ⟨rfl, rfl⟩ hW.1 hW.2.1 (L_keep (X := Y) hW.2.2.2.2.1) (xp_soonest (z1 := zs (i + 1)) (z2 := zs (i + 2)) (z3 := zs (i + 3)) (hz _) (hz _) (hz _) hHx hEx) ckL_118 im_X11_soonest se_X11_soonest (nlt rfl) rfl rfl rfl rfl rfl (nle rfl) ⟨nle rfl, nle rfl⟩ dL_law_1294 (fun r X1 hp => ?_)
  obtain ⟨⟨u, rfl⟩, hHx1, hEx1, hFx⟩ := hp
  refine Wx_st (st' := [.int u]) rfl ?_
  refine x_pop C dL_law_1297 rfl ?_
  refine x_aload_n (i := 2) C dL_law_1298 rfl rfl ?_
  refine x_aload_n (i := 0) C dL_law_1299 rfl rfl ?_
  refine x_iload_n (i := 3) C dL_law_1300 rfl rfl ?_
  refine x_iconst C dL_law_1301 ?_
  refine x_iadd C dL_law_1302 ?_
  refine L_sldz (j := i + 1) C hX (by omega) (by omega) (by omega) dL_law_1303 ?_
  refine x_aload_n (i := 0) C dL_law_1304 rfl rfl ?_
  refine x_iload_n (i := 3) C dL_law_1305 rfl rfl ?_
  refine x_iconst C dL_law_1306 ?_
  refine x_iadd C dL_law_1307 ?_
  refine L_sldz (j := i + 2) C hX (by omega) (by omega) (by omega) dL_law_1308 ?_
  refine x_aload_n (i := 0) C dL_law_1309 rfl rfl ?_
  refine x_iload_n (i := 3) C dL_law_1310 rfl rfl ?_
  refine x_iconst C dL_law_1311 ?_
  refine x_iadd C dL_law_1312 ?_
  refine L_sldz (j := i + 3) C hX (by omega) (by omega) (by omega) dL_law_1313 ?_
  refine Wx_PH (PH' := fun H => PX (wM D ad2 cA2) Y H ∧ PX (wX D ad cA) X1 H) (fun H h => ⟨h.2, h.1⟩) ?_
  refine L_call (R := PX (wX D ad cA) X1) C ⟨rfl, rfl⟩ hW.2.2.1 hW.2.2.2.1 (L_keep (X := X1) (fun x h h9 => hW.2.2.2.2.1 x h9 h)) (rp_soonest (z1 := zs (i + 1)) (z2 := zs (i + 2)) (z3 := zs (i + 3)) (hz _) (hz _) (hz _) hHy hEy) ckL_121 im_X12_soonest se_X12_soonest (nlt rfl) rfl rfl rfl rfl rfl (nle rfl) ⟨nle rfl, nle rfl⟩ dL_law_1314 (fun r Y1 hp => ?_)
  obtain ⟨⟨v, rfl⟩, hHy1, hEy1, hFy⟩ := hp
  refine Wx_st (st' := [.int v]) rfl ?_
  refine x_pop C dL_law_1317 rfl ?_
  refine x_goto (tgt := 1443) C dL_law_1318 (by decide) ?_
  have hR1 : TRL X1 Y1 := trl_fr hR hHy hFx hFy rfl rfl rfl rfl rfl rfl rfl
  refine Wx_PH (PH' := fun H => PX (wX D ad cA) X1 H ∧ PX (wM D ad2 cA2) Y1 H) (fun H h => ⟨h.2, h.1⟩) ?_
  exact hE X1 Y1 hHx1 hEx1 hHy1 hEy1 hR1
set_option maxHeartbeats 4000000 in
theorem lc_25 {E : ET} {D : va_G} {ad ad2 : Nat → Nat} {cA cA2 : Nat → ClassId} {b L i : Nat} {zs : Nat → Int} (C : CX E (wI D) cL_law 4 RL (some .boolean) room_1) (hX : LAW E b L (fun j => iI (zs j))) (hz : ∀ j, inR (zs j)) (hW : LW E D ad ad2 cA cA2) (i6 : i + 6 ≤ L) (hL : L ≤ 3072) {X Y : XT} (hHx : HG vX X) (hEx : gX.2 X) (hHy : HG vM Y) (hEy : gM.2 Y) (hR : TRL X Y) (hE : ∀ X1 Y1 : XT, HG vX X1 → gX.2 X1 → HG vM Y1 → gM.2 Y1 → TRL X1 Y1 → Wx E (wI D) 4 (fun H => PX (wX D ad cA) X1 H ∧ PX (wM D ad2 cA2) Y1 H) 1443 [(3, .int (iI ((i : Int)))), (2, .ref (ad2 0)), (1, .ref (ad 0)), (0, .ref b)] []) : Wx E (wI D) 4 (fun H => PX (wX D ad cA) X H ∧ PX (wM D ad2 cA2) Y H) 1321 [(3, .int (iI ((i : Int)))), (2, .ref (ad2 0)), (1, .ref (ad 0)), (0, .ref b)] [] := by
  refine x_aload_n (i := 1) C dL_law_1321 rfl rfl ?_
  refine x_aload_n (i := 0) C dL_law_1322 rfl rfl ?_
  refine x_iload_n (i := 3) C dL_law_1323 rfl rfl ?_
  refine x_iconst C dL_law_1324 ?_
  refine x_iadd C dL_law_1325 ?_
  refine L_sldz (j := i + 1) C hX (by omega) (by omega) (by omega) dL_law_1326 ?_
  refine x_aload_n (i := 0) C dL_law_1327 rfl rfl ?_
  refine x_iload_n (i := 3) C dL_law_1328 rfl rfl ?_
  refine x_iconst C dL_law_1329 ?_
  refine x_iadd C dL_law_1330 ?_
  refine L_sldz (j := i + 2) C hX (by omega) (by omega) (by omega) dL_law_1331 ?_
  refine x_aload_n (i := 0) C dL_law_1332 rfl rfl ?_
  refine x_iload_n (i := 3) C dL_law_1333 rfl rfl ?_
  refine x_iconst C dL_law_1334 ?_
  refine x_iadd C dL_law_1335 ?_
  refine L_sldz (j := i + 3) C hX (by omega) (by omega) (by omega) dL_law_1336 ?_
  refine x_aload_n (i := 0) C dL_law_1337 rfl rfl ?_
  refine x_iload_n (i := 3) C dL_law_1338 rfl rfl ?_
  refine x_iconst C dL_law_1339 ?_
  refine x_iadd C dL_law_1340 ?_
  refine L_sldz (j := i + 4) C hX (by omega) (by omega) (by omega) dL_law_1341 ?_
  refine L_call (R := PX (wM D ad2 cA2) Y) C ⟨rfl, rfl⟩ hW.1 hW.2.1 (L_keep (X := Y) hW.2.2.2.2.1) (xp_drawn (z1 := zs (i + 1)) (z2 := zs (i + 2)) (z3 := zs (i + 3)) (z4 := zs (i + 4)) (hz _) (hz _) (hz _) (hz _) hHx hEx) ckL_122 im_X11_drawn se_X11_drawn (nlt rfl) rfl rfl rfl rfl rfl (nle rfl) ⟨nle rfl, nle rfl⟩ dL_law_1342 (fun r X1 hp => ?_)
  obtain ⟨⟨u, rfl⟩, hHx1, hEx1, hFx⟩ := hp
  refine Wx_st (st' := [.int u]) rfl ?_
  refine x_pop C dL_law_1345 rfl ?_
  refine x_aload_n (i := 2) C dL_law_1346 rfl rfl ?_
  refine x_aload_n (i := 0) C dL_law_1347 rfl rfl ?_
  refine x_iload_n (i := 3) C dL_law_1348 rfl rfl ?_
  refine x_iconst C dL_law_1349 ?_
  refine x_iadd C dL_law_1350 ?_
  refine L_sldz (j := i + 1) C hX (by omega) (by omega) (by omega) dL_law_1351 ?_
  refine x_aload_n (i := 0) C dL_law_1352 rfl rfl ?_
  refine x_iload_n (i := 3) C dL_law_1353 rfl rfl ?_
  refine x_iconst C dL_law_1354 ?_
  refine x_iadd C dL_law_1355 ?_
  refine L_sldz (j := i + 2) C hX (by omega) (by omega) (by omega) dL_law_1356 ?_
  refine x_aload_n (i := 0) C dL_law_1357 rfl rfl ?_
  refine x_iload_n (i := 3) C dL_law_1358 rfl rfl ?_
  refine x_iconst C dL_law_1359 ?_
  refine x_iadd C dL_law_1360 ?_
  refine L_sldz (j := i + 3) C hX (by omega) (by omega) (by omega) dL_law_1361 ?_
  refine x_aload_n (i := 0) C dL_law_1362 rfl rfl ?_
  refine x_iload_n (i := 3) C dL_law_1363 rfl rfl ?_
  refine x_iconst C dL_law_1364 ?_
  refine x_iadd C dL_law_1365 ?_
  refine L_sldz (j := i + 4) C hX (by omega) (by omega) (by omega) dL_law_1366 ?_
  refine Wx_PH (PH' := fun H => PX (wM D ad2 cA2) Y H ∧ PX (wX D ad cA) X1 H) (fun H h => ⟨h.2, h.1⟩) ?_
  refine L_call (R := PX (wX D ad cA) X1) C ⟨rfl, rfl⟩ hW.2.2.1 hW.2.2.2.1 (L_keep (X := X1) (fun x h h9 => hW.2.2.2.2.1 x h9 h)) (rp_drawn (z1 := zs (i + 1)) (z2 := zs (i + 2)) (z3 := zs (i + 3)) (z4 := zs (i + 4)) (hz _) (hz _) (hz _) (hz _) hHy hEy) ckL_125 im_X12_drawn se_X12_drawn (nlt rfl) rfl rfl rfl rfl rfl (nle rfl) ⟨nle rfl, nle rfl⟩ dL_law_1367 (fun r Y1 hp => ?_)
  obtain ⟨⟨v, rfl⟩, hHy1, hEy1, hFy⟩ := hp
  refine Wx_st (st' := [.int v]) rfl ?_
  refine x_pop C dL_law_1370 rfl ?_
  refine x_goto (tgt := 1443) C dL_law_1371 (by decide) ?_
  have hR1 : TRL X1 Y1 := trl_fr hR hHy hFx hFy rfl rfl rfl rfl rfl rfl rfl
  refine Wx_PH (PH' := fun H => PX (wX D ad cA) X1 H ∧ PX (wM D ad2 cA2) Y1 H) (fun H h => ⟨h.2, h.1⟩) ?_
  exact hE X1 Y1 hHx1 hEx1 hHy1 hEy1 hR1
set_option maxHeartbeats 4000000 in
theorem lc_26 {E : ET} {D : va_G} {ad ad2 : Nat → Nat} {cA cA2 : Nat → ClassId} {b L i : Nat} {zs : Nat → Int} (C : CX E (wI D) cL_law 4 RL (some .boolean) room_1) (hX : LAW E b L (fun j => iI (zs j))) (hz : ∀ j, inR (zs j)) (hW : LW E D ad ad2 cA cA2) (i6 : i + 6 ≤ L) (hL : L ≤ 3072) {X Y : XT} (hHx : HG vX X) (hEx : gX.2 X) (hHy : HG vM Y) (hEy : gM.2 Y) (hR : TRL X Y) (hE : ∀ X1 Y1 : XT, HG vX X1 → gX.2 X1 → HG vM Y1 → gM.2 Y1 → TRL X1 Y1 → Wx E (wI D) 4 (fun H => PX (wX D ad cA) X1 H ∧ PX (wM D ad2 cA2) Y1 H) 1443 [(3, .int (iI ((i : Int)))), (2, .ref (ad2 0)), (1, .ref (ad 0)), (0, .ref b)] []) : Wx E (wI D) 4 (fun H => PX (wX D ad cA) X H ∧ PX (wM D ad2 cA2) Y H) 1374 [(3, .int (iI ((i : Int)))), (2, .ref (ad2 0)), (1, .ref (ad 0)), (0, .ref b)] [] := by
  refine x_aload_n (i := 1) C dL_law_1374 rfl rfl ?_
  refine x_aload_n (i := 0) C dL_law_1375 rfl rfl ?_
  refine x_iload_n (i := 3) C dL_law_1376 rfl rfl ?_
  refine x_iconst C dL_law_1377 ?_
  refine x_iadd C dL_law_1378 ?_
  refine L_sldz (j := i + 1) C hX (by omega) (by omega) (by omega) dL_law_1379 ?_
  refine L_call (R := PX (wM D ad2 cA2) Y) C ⟨rfl, rfl⟩ hW.1 hW.2.1 (L_keep (X := Y) hW.2.2.2.2.1) (xq_count (z1 := zs (i + 1)) (hz _) hHx hEx) ckL_126 im_X11_count se_X11_count (nlt rfl) rfl rfl rfl rfl rfl (nle rfl) ⟨nle rfl, nle rfl⟩ dL_law_1380 (fun r X1 hp => ?_)
  obtain ⟨u, rfl, ru, hHx1, hEx1, dx⟩ := hp
  refine Wx_st (st' := [.int (iI u)]) rfl ?_
  refine x_pop C dL_law_1383 rfl ?_
  refine x_aload_n (i := 2) C dL_law_1384 rfl rfl ?_
  refine x_aload_n (i := 0) C dL_law_1385 rfl rfl ?_
  refine x_iload_n (i := 3) C dL_law_1386 rfl rfl ?_
  refine x_iconst C dL_law_1387 ?_
  refine x_iadd C dL_law_1388 ?_
  refine L_sldz (j := i + 1) C hX (by omega) (by omega) (by omega) dL_law_1389 ?_
  refine Wx_PH (PH' := fun H => PX (wM D ad2 cA2) Y H ∧ PX (wX D ad cA) X1 H) (fun H h => ⟨h.2, h.1⟩) ?_
  refine L_call (R := PX (wX D ad cA) X1) C ⟨rfl, rfl⟩ hW.2.2.1 hW.2.2.2.1 (L_keep (X := X1) (fun x h h9 => hW.2.2.2.2.1 x h9 h)) (rq_count (z1 := zs (i + 1)) (hz _) hHy hEy) ckL_129 im_X12_count se_X12_count (nlt rfl) rfl rfl rfl rfl rfl (nle rfl) ⟨nle rfl, nle rfl⟩ dL_law_1390 (fun r Y1 hp => ?_)
  obtain ⟨v, rfl, rv, hHy1, hEy1, dy⟩ := hp
  refine Wx_st (st' := [.int (iI v)]) rfl ?_
  refine x_pop C dL_law_1393 rfl ?_
  refine x_goto (tgt := 1443) C dL_law_1394 (by decide) ?_
  have hR1 : TRL X1 Y1 ∧ u = v := st_count hR hHy dx dy
  refine Wx_PH (PH' := fun H => PX (wX D ad cA) X1 H ∧ PX (wM D ad2 cA2) Y1 H) (fun H h => ⟨h.2, h.1⟩) ?_
  exact hE X1 Y1 hHx1 hEx1 hHy1 hEy1 hR1.1
set_option maxHeartbeats 4000000 in
theorem lc_27 {E : ET} {D : va_G} {ad ad2 : Nat → Nat} {cA cA2 : Nat → ClassId} {b L i : Nat} {zs : Nat → Int} (C : CX E (wI D) cL_law 4 RL (some .boolean) room_1) (hX : LAW E b L (fun j => iI (zs j))) (hz : ∀ j, inR (zs j)) (hW : LW E D ad ad2 cA cA2) (i6 : i + 6 ≤ L) (hL : L ≤ 3072) {X Y : XT} (hHx : HG vX X) (hEx : gX.2 X) (hHy : HG vM Y) (hEy : gM.2 Y) (hR : TRL X Y) (hE : ∀ X1 Y1 : XT, HG vX X1 → gX.2 X1 → HG vM Y1 → gM.2 Y1 → TRL X1 Y1 → Wx E (wI D) 4 (fun H => PX (wX D ad cA) X1 H ∧ PX (wM D ad2 cA2) Y1 H) 1443 [(3, .int (iI ((i : Int)))), (2, .ref (ad2 0)), (1, .ref (ad 0)), (0, .ref b)] []) : Wx E (wI D) 4 (fun H => PX (wX D ad cA) X H ∧ PX (wM D ad2 cA2) Y H) 1397 [(3, .int (iI ((i : Int)))), (2, .ref (ad2 0)), (1, .ref (ad 0)), (0, .ref b)] [] := by
  refine x_aload_n (i := 1) C dL_law_1397 rfl rfl ?_
  refine x_aload_n (i := 0) C dL_law_1398 rfl rfl ?_
  refine x_iload_n (i := 3) C dL_law_1399 rfl rfl ?_
  refine x_iconst C dL_law_1400 ?_
  refine x_iadd C dL_law_1401 ?_
  refine L_sldz (j := i + 1) C hX (by omega) (by omega) (by omega) dL_law_1402 ?_
  refine L_call (R := PX (wM D ad2 cA2) Y) C ⟨rfl, rfl⟩ hW.1 hW.2.1 (L_keep (X := Y) hW.2.2.2.2.1) (xq_image (z1 := zs (i + 1)) (hz _) hHx hEx) ckL_130 im_X11_image se_X11_image (nlt rfl) rfl rfl rfl rfl rfl (nle rfl) ⟨nle rfl, nle rfl⟩ dL_law_1403 (fun r X1 hp => ?_)
  obtain ⟨u, rfl, ru, hHx1, hEx1, dx⟩ := hp
  refine Wx_st (st' := [.int (iI u)]) rfl ?_
  refine x_pop C dL_law_1406 rfl ?_
  refine x_aload_n (i := 2) C dL_law_1407 rfl rfl ?_
  refine x_aload_n (i := 0) C dL_law_1408 rfl rfl ?_
  refine x_iload_n (i := 3) C dL_law_1409 rfl rfl ?_
  refine x_iconst C dL_law_1410 ?_
  refine x_iadd C dL_law_1411 ?_
  refine L_sldz (j := i + 1) C hX (by omega) (by omega) (by omega) dL_law_1412 ?_
  refine Wx_PH (PH' := fun H => PX (wM D ad2 cA2) Y H ∧ PX (wX D ad cA) X1 H) (fun H h => ⟨h.2, h.1⟩) ?_
  refine L_call (R := PX (wX D ad cA) X1) C ⟨rfl, rfl⟩ hW.2.2.1 hW.2.2.2.1 (L_keep (X := X1) (fun x h h9 => hW.2.2.2.2.1 x h9 h)) (rq_image (z1 := zs (i + 1)) (hz _) hHy hEy) ckL_134 im_X12_image se_X12_image (nlt rfl) rfl rfl rfl rfl rfl (nle rfl) ⟨nle rfl, nle rfl⟩ dL_law_1413 (fun r Y1 hp => ?_)
  obtain ⟨v, rfl, rv, hHy1, hEy1, dy⟩ := hp
  refine Wx_st (st' := [.int (iI v)]) rfl ?_
  refine x_pop C dL_law_1416 rfl ?_
  refine x_goto (tgt := 1443) C dL_law_1417 (by decide) ?_
  have hR1 : TRL X1 Y1 ∧ u = v := st_image hR hHy dx dy
  refine Wx_PH (PH' := fun H => PX (wX D ad cA) X1 H ∧ PX (wM D ad2 cA2) Y1 H) (fun H h => ⟨h.2, h.1⟩) ?_
  exact hE X1 Y1 hHx1 hEx1 hHy1 hEy1 hR1.1
set_option maxHeartbeats 4000000 in
theorem lc_28 {E : ET} {D : va_G} {ad ad2 : Nat → Nat} {cA cA2 : Nat → ClassId} {b L i : Nat} {zs : Nat → Int} (C : CX E (wI D) cL_law 4 RL (some .boolean) room_1) (hX : LAW E b L (fun j => iI (zs j))) (hz : ∀ j, inR (zs j)) (hW : LW E D ad ad2 cA cA2) (i6 : i + 6 ≤ L) (hL : L ≤ 3072) {X Y : XT} (hHx : HG vX X) (hEx : gX.2 X) (hHy : HG vM Y) (hEy : gM.2 Y) (hR : TRL X Y) (hE : ∀ X1 Y1 : XT, HG vX X1 → gX.2 X1 → HG vM Y1 → gM.2 Y1 → TRL X1 Y1 → Wx E (wI D) 4 (fun H => PX (wX D ad cA) X1 H ∧ PX (wM D ad2 cA2) Y1 H) 1443 [(3, .int (iI ((i : Int)))), (2, .ref (ad2 0)), (1, .ref (ad 0)), (0, .ref b)] []) : Wx E (wI D) 4 (fun H => PX (wX D ad cA) X H ∧ PX (wM D ad2 cA2) Y H) 1420 [(3, .int (iI ((i : Int)))), (2, .ref (ad2 0)), (1, .ref (ad 0)), (0, .ref b)] [] := by
  refine x_aload_n (i := 1) C dL_law_1420 rfl rfl ?_
  refine x_aload_n (i := 0) C dL_law_1421 rfl rfl ?_
  refine x_iload_n (i := 3) C dL_law_1422 rfl rfl ?_
  refine x_iconst C dL_law_1423 ?_
  refine x_iadd C dL_law_1424 ?_
  refine L_sldz (j := i + 1) C hX (by omega) (by omega) (by omega) dL_law_1425 ?_
  refine L_call (R := PX (wM D ad2 cA2) Y) C ⟨rfl, rfl⟩ hW.1 hW.2.1 (L_keep (X := Y) hW.2.2.2.2.1) (xq_again (z1 := zs (i + 1)) (hz _) hHx hEx) ckL_135 im_X11_again se_X11_again (nlt rfl) rfl rfl rfl rfl rfl (nle rfl) ⟨nle rfl, nle rfl⟩ dL_law_1426 (fun r X1 hp => ?_)
  obtain ⟨u, rfl, ru, hHx1, hEx1, dx⟩ := hp
  refine Wx_st (st' := [.int (iI u)]) rfl ?_
  refine x_pop C dL_law_1429 rfl ?_
  refine x_aload_n (i := 2) C dL_law_1430 rfl rfl ?_
  refine x_aload_n (i := 0) C dL_law_1431 rfl rfl ?_
  refine x_iload_n (i := 3) C dL_law_1432 rfl rfl ?_
  refine x_iconst C dL_law_1433 ?_
  refine x_iadd C dL_law_1434 ?_
  refine L_sldz (j := i + 1) C hX (by omega) (by omega) (by omega) dL_law_1435 ?_
  refine Wx_PH (PH' := fun H => PX (wM D ad2 cA2) Y H ∧ PX (wX D ad cA) X1 H) (fun H h => ⟨h.2, h.1⟩) ?_
  refine L_call (R := PX (wX D ad cA) X1) C ⟨rfl, rfl⟩ hW.2.2.1 hW.2.2.2.1 (L_keep (X := X1) (fun x h h9 => hW.2.2.2.2.1 x h9 h)) (rq_again (z1 := zs (i + 1)) (hz _) hHy hEy) ckL_138 im_X12_again se_X12_again (nlt rfl) rfl rfl rfl rfl rfl (nle rfl) ⟨nle rfl, nle rfl⟩ dL_law_1436 (fun r Y1 hp => ?_)
  obtain ⟨v, rfl, rv, hHy1, hEy1, dy⟩ := hp
  refine Wx_st (st' := [.int (iI v)]) rfl ?_
  refine x_pop C dL_law_1439 rfl ?_
  refine x_goto (tgt := 1443) C dL_law_1440 (by decide) ?_
  have hR1 : TRL X1 Y1 ∧ u = v := st_again hR hHy dx dy
  refine Wx_PH (PH' := fun H => PX (wX D ad cA) X1 H ∧ PX (wM D ad2 cA2) Y1 H) (fun H h => ⟨h.2, h.1⟩) ?_
  exact hE X1 Y1 hHx1 hEx1 hHy1 hEy1 hR1.1
