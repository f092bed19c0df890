/-! ===== the law: lists, racks, images ===== -/
theorem iC_li {W : wS} {y : lS} {h h1 : ab_H} (f : ab_gr [40, 41, 44, 45, 48, 49] [] h h1) (hb : ab_bs h) (H : iC W h) (c : li_C y h1) : iC (W.1, W.2.1, W.2.2.1, W.2.2.2.1, y) h1 :=
  ⟨H.1.gr f hb (fun a z => by simp at z; omega) (fun a z => by cases z), H.2.1.gr f hb (by simp) (by simp), H.2.2.1.gr f hb (fun a z => by simp at z; omega) (fun a z => by cases z) (by simp) (by simp) (by simp) (by simp) (by simp), H.2.2.2.1.gr f hb (fun a z => by simp at z; omega) (fun a z => by cases z) (fun a q1 q2 q3 z => by simp at z; omega) (fun a _ _ _ z => by cases z), c⟩
theorem iM_li {W : wS} {y : lS} {h h1 : ab_H} (f : ab_fM [69, 70] [] h h1) (H : iM W h) (c : li_M y h1) : iM (W.1, W.2.1, W.2.2.1, W.2.2.2.1, y) h1 :=
  ⟨H.1.fM f (fun a z => by simp at z; omega) (fun a z => by cases z), H.2.1.fM f (by simp) (by simp), H.2.2.1.fM f (fun a q1 q2 z => by simp at z; omega) (fun k _ _ z => by cases z), H.2.2.2.1.fM f (fun a q1 q2 z => by simp at z; omega), c⟩
theorem iC_rk {W : wS} {y : rS} {h h1 : ab_H} (f : ab_gr [38, 42, 46] [39, 43, 47] h h1) (hb : ab_bs h) (H : iC W h) (c : rk_C y h1) : iC (W.1, W.2.1, W.2.2.1, y, W.2.2.2.2) h1 :=
  ⟨H.1.gr f hb (fun a z => by simp at z; omega) (fun a z => by simp at z; omega), H.2.1.gr f hb (by simp) (by simp), H.2.2.1.gr f hb (fun a z => by simp at z; omega) (fun a z => by simp at z; omega) (by simp) (by simp) (by simp) (by simp) (by simp), c, H.2.2.2.2.gr f hb (fun a q1 q2 q3 z => by simp at z; omega)⟩
theorem iM_rk {W : wS} {y : rS} {h h1 : ab_H} (f : ab_fM [65, 66, 67, 68] [] h h1) (H : iM W h) (c : rk_M y h1) : iM (W.1, W.2.1, W.2.2.1, y, W.2.2.2.2) h1 :=
  ⟨H.1.fM f (fun a z => by simp at z; omega) (fun a z => by cases z), H.2.1.fM f (by simp) (by simp), H.2.2.1.fM f (fun a q1 q2 z => by simp at z; omega) (fun k _ _ z => by cases z), c, H.2.2.2.2.fM f (by simp) (by simp)⟩
theorem iC_im {W : wS} {y : iS} {h h1 : ab_H} (f : ab_gr [25, 27, 32] [33, 34] h h1) (hb : ab_bs h) (H : iC W h) (c : im_C y h1) : iC (W.1, W.2.1, y, W.2.2.2.1, W.2.2.2.2) h1 :=
  ⟨H.1.gr f hb (fun a z => by simp at z; omega) (fun a z => by simp at z; omega), H.2.1.gr f hb (by simp) (by simp), c, H.2.2.2.1.gr f hb (fun a z => by simp at z; omega) (fun a z => by simp at z; omega) (fun a q1 q2 q3 z => by simp at z; omega) (fun a q1 q2 q3 z => by simp at z; omega), H.2.2.2.2.gr f hb (fun a q1 q2 q3 z => by simp at z; omega)⟩
theorem iM_im {W : wS} {y : iS} {h h1 : ab_H} (f : ab_fM [74, 75, 76, 77] [33, 34, 35, 36, 37, 38] h h1) (H : iM W h) (c : im_M y h1) : iM (W.1, W.2.1, y, W.2.2.2.1, W.2.2.2.2) h1 :=
  ⟨H.1.fM f (fun a z => by simp at z; omega) (fun a z => by simp at z; omega), H.2.1.fM f (by simp) (by simp), c, H.2.2.2.1.fM f (fun a q1 q2 z => by simp at z; omega), H.2.2.2.2.fM f (by simp) (by simp)⟩
set_option maxRecDepth 100000 in
set_option maxHeartbeats 4000000 in
theorem law_29 {k b i : Nat} {h : ab_H} {W : wS} {post : Value → ab_H → Prop} (hk : 12 ≤ k) (hb9 : 110 ≤ b) (H : INV W h) (hn : (ab_e h 1).1 < 2147483648) (hi : i + 5 ≤ (ab_e h 1).1) (cont : ∀ (W' : wS) (h' : ab_H), INV W' h' → ab_e h' = ab_e h → ab_R k (b - 110) mL_law 1396 [some (.ref 1), some (.ref 5), some (.ref 50), some (.int (nI i))] [] h' post) : ab_R k b mL_law 1214 [some (.ref 1), some (.ref 5), some (.ref 50), some (.int (nI i))] [] h post := by
  refine ab_aload_n dL_law_1214 rfl ?_
  refine ab_aload_n dL_law_1215 rfl ?_
  refine ab_iload_n dL_law_1216 rfl ?_
  refine ab_iconst (v := nI 1) dL_law_1217 (by decide) ?_
  refine ab_naddR dL_law_1218 ?_
  refine ab_eald dL_law_1219 rfl (by omega) rfl ?_
  refine ab_aload_n dL_law_1220 rfl ?_
  refine ab_iload_n dL_law_1221 rfl ?_
  refine ab_iconst (v := nI 2) dL_law_1222 (by decide) ?_
  refine ab_naddR dL_law_1223 ?_
  refine ab_eald dL_law_1224 rfl (by omega) rfl ?_
  refine ab_callVi [_, _] dL_law_1225 ml_L_137 mk_X11_list H.2.2.1.hs (c_list (k := 1) (b := 0) (Nat.le_refl _) H.1 H.2.2.1 H.2.2.2.2.1.2.2.2.2) (fun v1 h1 hq1 => ?_)
  have g1 := oX_gr (S := [40, 41, 44, 45, 48, 49]) (T := []) hq1 (fun q => q.1)
  have ee1 := g1.2.1
  obtain ⟨hM1, hI1⟩ := INV_mid H g1 (by intro a z; simp at z; omega) (fun a z => by cases z)
  refine ab_aload_n dL_law_1228 rfl ?_
  refine ab_aload_n dL_law_1229 rfl ?_
  refine ab_iload_n dL_law_1230 rfl ?_
  refine ab_iconst (v := nI 1) dL_law_1231 (by decide) ?_
  refine ab_naddR dL_law_1232 ?_
  refine ab_eald dL_law_1233 rfl (by rw [ee1]; omega) (show _ = (ab_e h 1).2 (i + 1) by rw [ee1]) ?_
  refine ab_aload_n dL_law_1234 rfl ?_
  refine ab_iload_n dL_law_1235 rfl ?_
  refine ab_iconst (v := nI 2) dL_law_1236 (by decide) ?_
  refine ab_naddR dL_law_1237 ?_
  refine ab_eald dL_law_1238 rfl (by rw [ee1]; omega) (show _ = (ab_e h 1).2 (i + 2) by rw [ee1]) ?_
  refine ab_callVi [_, _] dL_law_1239 ml_L_140 mk_X12_list hM1.hs (m_list (k := 2) (b := 0) (Nat.le_refl _) hM1 hI1.2.2.2.2) (fun v2 h2 hq2 => ?_)
  have ee2 := (oX_fM hq2 (fun q => q.1)).trans ee1
  obtain ⟨ev, W2, H2⟩ := both_I H hq1 hq2 (fun x _ q1 q2 => ⟨_, INV_ok H q1.1 (by intro a z; simp at z; omega) (fun a z => by cases z) (iC_li q1.1 H.1 H.2.2.2.2.1 q1.2) q2.1 (by intro a z; simp at z; omega) (iM_li q2.1 hI1 q2.2)⟩)
  refine ab_icmp_eq 1396 dL_law_1242 (by decide) (fun c_1242 => ?_) (fun c_1242 => ?_)
  · skip
    exact ab_less (by omega) (cont W2 h2 H2 ee2)
  · skip
    exact absurd ev c_1242
set_option maxRecDepth 100000 in
set_option maxHeartbeats 4000000 in
theorem law_30 {k b i : Nat} {h : ab_H} {W : wS} {post : Value → ab_H → Prop} (hk : 12 ≤ k) (hb9 : 110 ≤ b) (H : INV W h) (hn : (ab_e h 1).1 < 2147483648) (hi : i + 5 ≤ (ab_e h 1).1) (cont : ∀ (W' : wS) (h' : ab_H), INV W' h' → ab_e h' = ab_e h → ab_R k (b - 110) mL_law 1396 [some (.ref 1), some (.ref 5), some (.ref 50), some (.int (nI i))] [] h' post) : ab_R k b mL_law 1247 [some (.ref 1), some (.ref 5), some (.ref 50), some (.int (nI i))] [] h post := by
  refine ab_aload_n dL_law_1247 rfl ?_
  refine ab_aload_n dL_law_1248 rfl ?_
  refine ab_iload_n dL_law_1249 rfl ?_
  refine ab_iconst (v := nI 1) dL_law_1250 (by decide) ?_
  refine ab_naddR dL_law_1251 ?_
  refine ab_eald dL_law_1252 rfl (by omega) rfl ?_
  refine ab_aload_n dL_law_1253 rfl ?_
  refine ab_iload_n dL_law_1254 rfl ?_
  refine ab_iconst (v := nI 2) dL_law_1255 (by decide) ?_
  refine ab_naddR dL_law_1256 ?_
  refine ab_eald dL_law_1257 rfl (by omega) rfl ?_
  refine ab_aload_n dL_law_1258 rfl ?_
  refine ab_iload_n dL_law_1259 rfl ?_
  refine ab_iconst (v := nI 3) dL_law_1260 (by decide) ?_
  refine ab_naddR dL_law_1261 ?_
  refine ab_eald dL_law_1262 rfl (by omega) rfl ?_
  refine ab_callVi [_, _, _] dL_law_1263 ml_L_141 mk_X11_put H.2.2.1.hs (c_put (k := 1) (b := 0) (Nat.le_refl _) H.1 H.2.2.1 H.2.2.2.2.1.2.2.2.2) (fun v1 h1 hq1 => ?_)
  have g1 := oX_gr (S := [40, 41, 44, 45, 48, 49]) (T := []) hq1 (fun q => q.1)
  have ee1 := g1.2.1
  obtain ⟨hM1, hI1⟩ := INV_mid H g1 (by intro a z; simp at z; omega) (fun a z => by cases z)
  refine ab_aload_n dL_law_1266 rfl ?_
  refine ab_aload_n dL_law_1267 rfl ?_
  refine ab_iload_n dL_law_1268 rfl ?_
  refine ab_iconst (v := nI 1) dL_law_1269 (by decide) ?_
  refine ab_naddR dL_law_1270 ?_
  refine ab_eald dL_law_1271 rfl (by rw [ee1]; omega) (show _ = (ab_e h 1).2 (i + 1) by rw [ee1]) ?_
  refine ab_aload_n dL_law_1272 rfl ?_
  refine ab_iload_n dL_law_1273 rfl ?_
  refine ab_iconst (v := nI 2) dL_law_1274 (by decide) ?_
  refine ab_naddR dL_law_1275 ?_
  refine ab_eald dL_law_1276 rfl (by rw [ee1]; omega) (show _ = (ab_e h 1).2 (i + 2) by rw [ee1]) ?_
  refine ab_aload_n dL_law_1277 rfl ?_
  refine ab_iload_n dL_law_1278 rfl ?_
  refine ab_iconst (v := nI 3) dL_law_1279 (by decide) ?_
  refine ab_naddR dL_law_1280 ?_
  refine ab_eald dL_law_1281 rfl (by rw [ee1]; omega) (show _ = (ab_e h 1).2 (i + 3) by rw [ee1]) ?_
  refine ab_callVi [_, _, _] dL_law_1282 ml_L_144 mk_X12_put hM1.hs (m_put (k := 2) (b := 0) (Nat.le_refl _) hM1 hI1.2.2.2.2) (fun v2 h2 hq2 => ?_)
  have ee2 := (oX_fM hq2 (fun q => q.1)).trans ee1
  obtain ⟨ev, W2, H2⟩ := both_I H hq1 hq2 (fun x _ q1 q2 => ⟨_, INV_ok H q1.1 (by intro a z; simp at z; omega) (fun a z => by cases z) (iC_li q1.1 H.1 H.2.2.2.2.1 q1.2) q2.1 (by intro a z; simp at z; omega) (iM_li q2.1 hI1 q2.2)⟩)
  refine ab_icmp_eq 1396 dL_law_1285 (by decide) (fun c_1285 => ?_) (fun c_1285 => ?_)
  · skip
    exact ab_less (by omega) (cont W2 h2 H2 ee2)
  · skip
    exact absurd ev c_1285
set_option maxRecDepth 100000 in
set_option maxHeartbeats 4000000 in
theorem law_25 {k b i : Nat} {h : ab_H} {W : wS} {post : Value → ab_H → Prop} (hk : 12 ≤ k) (hb9 : 110 ≤ b) (H : INV W h) (hn : (ab_e h 1).1 < 2147483648) (hi : i + 5 ≤ (ab_e h 1).1) (cont : ∀ (W' : wS) (h' : ab_H), INV W' h' → ab_e h' = ab_e h → ab_R k (b - 110) mL_law 1396 [some (.ref 1), some (.ref 5), some (.ref 50), some (.int (nI i))] [] h' post) : ab_R k b mL_law 1052 [some (.ref 1), some (.ref 5), some (.ref 50), some (.int (nI i))] [] h post := by
  refine ab_aload_n dL_law_1052 rfl ?_
  refine ab_aload_n dL_law_1053 rfl ?_
  refine ab_iload_n dL_law_1054 rfl ?_
  refine ab_iconst (v := nI 1) dL_law_1055 (by decide) ?_
  refine ab_naddR dL_law_1056 ?_
  refine ab_eald dL_law_1057 rfl (by omega) rfl ?_
  refine ab_aload_n dL_law_1058 rfl ?_
  refine ab_iload_n dL_law_1059 rfl ?_
  refine ab_iconst (v := nI 2) dL_law_1060 (by decide) ?_
  refine ab_naddR dL_law_1061 ?_
  refine ab_eald dL_law_1062 rfl (by omega) rfl ?_
  refine ab_aload_n dL_law_1063 rfl ?_
  refine ab_iload_n dL_law_1064 rfl ?_
  refine ab_iconst (v := nI 3) dL_law_1065 (by decide) ?_
  refine ab_naddR dL_law_1066 ?_
  refine ab_eald dL_law_1067 rfl (by omega) rfl ?_
  refine ab_callVi [_, _, _] dL_law_1068 ml_L_121 mk_X11_rack H.2.2.1.hs (c_rack (k := 1) (b := 0) (Nat.le_refl _) H.1 H.2.2.1 H.2.2.2.2.1.2.2.2.1) (fun v1 h1 hq1 => ?_)
  have g1 := oX_gr (S := [38, 42, 46]) (T := [39, 43, 47]) hq1 (fun q => q.1)
  have ee1 := g1.2.1
  obtain ⟨hM1, hI1⟩ := INV_mid H g1 (by intro a z; simp at z; omega) (by intro a z; simp at z; omega)
  refine ab_aload_n dL_law_1071 rfl ?_
  refine ab_aload_n dL_law_1072 rfl ?_
  refine ab_iload_n dL_law_1073 rfl ?_
  refine ab_iconst (v := nI 1) dL_law_1074 (by decide) ?_
  refine ab_naddR dL_law_1075 ?_
  refine ab_eald dL_law_1076 rfl (by rw [ee1]; omega) (show _ = (ab_e h 1).2 (i + 1) by rw [ee1]) ?_
  refine ab_aload_n dL_law_1077 rfl ?_
  refine ab_iload_n dL_law_1078 rfl ?_
  refine ab_iconst (v := nI 2) dL_law_1079 (by decide) ?_
  refine ab_naddR dL_law_1080 ?_
  refine ab_eald dL_law_1081 rfl (by rw [ee1]; omega) (show _ = (ab_e h 1).2 (i + 2) by rw [ee1]) ?_
  refine ab_aload_n dL_law_1082 rfl ?_
  refine ab_iload_n dL_law_1083 rfl ?_
  refine ab_iconst (v := nI 3) dL_law_1084 (by decide) ?_
  refine ab_naddR dL_law_1085 ?_
  refine ab_eald dL_law_1086 rfl (by rw [ee1]; omega) (show _ = (ab_e h 1).2 (i + 3) by rw [ee1]) ?_
  refine ab_callVi [_, _, _] dL_law_1087 ml_L_124 mk_X12_rack hM1.hs (m_rack (k := 2) (b := 0) (Nat.le_refl _) hM1 hI1.2.2.2.1) (fun v2 h2 hq2 => ?_)
  have ee2 := (oX_fM hq2 (fun q => q.1)).trans ee1
  obtain ⟨ev, W2, H2⟩ := both_I H hq1 hq2 (fun x _ q1 q2 => ⟨_, INV_ok H q1.1 (by intro a z; simp at z; omega) (by intro a z; simp at z; simp; omega) (iC_rk q1.1 H.1 H.2.2.2.2.1 q1.2) q2.1 (by intro a z; simp at z; omega) (iM_rk q2.1 hI1 q2.2)⟩)
  refine ab_icmp_eq 1396 dL_law_1090 (by decide) (fun c_1090 => ?_) (fun c_1090 => ?_)
  · skip
    exact ab_less (by omega) (cont W2 h2 H2 ee2)
  · skip
    exact absurd ev c_1090
set_option maxRecDepth 100000 in
set_option maxHeartbeats 4000000 in
theorem law_26 {k b i : Nat} {h : ab_H} {W : wS} {post : Value → ab_H → Prop} (hk : 12 ≤ k) (hb9 : 110 ≤ b) (H : INV W h) (hn : (ab_e h 1).1 < 2147483648) (hi : i + 5 ≤ (ab_e h 1).1) (cont : ∀ (W' : wS) (h' : ab_H), INV W' h' → ab_e h' = ab_e h → ab_R k (b - 110) mL_law 1396 [some (.ref 1), some (.ref 5), some (.ref 50), some (.int (nI i))] [] h' post) : ab_R k b mL_law 1095 [some (.ref 1), some (.ref 5), some (.ref 50), some (.int (nI i))] [] h post := by
  refine ab_aload_n dL_law_1095 rfl ?_
  refine ab_aload_n dL_law_1096 rfl ?_
  refine ab_iload_n dL_law_1097 rfl ?_
  refine ab_iconst (v := nI 1) dL_law_1098 (by decide) ?_
  refine ab_naddR dL_law_1099 ?_
  refine ab_eald dL_law_1100 rfl (by omega) rfl ?_
  refine ab_aload_n dL_law_1101 rfl ?_
  refine ab_iload_n dL_law_1102 rfl ?_
  refine ab_iconst (v := nI 2) dL_law_1103 (by decide) ?_
  refine ab_naddR dL_law_1104 ?_
  refine ab_eald dL_law_1105 rfl (by omega) rfl ?_
  refine ab_aload_n dL_law_1106 rfl ?_
  refine ab_iload_n dL_law_1107 rfl ?_
  refine ab_iconst (v := nI 3) dL_law_1108 (by decide) ?_
  refine ab_naddR dL_law_1109 ?_
  refine ab_eald dL_law_1110 rfl (by omega) rfl ?_
  refine ab_callVi [_, _, _] dL_law_1111 ml_L_125 mk_X11_racks H.2.2.1.hs (c_racks (k := 3) (b := 0) (Nat.le_refl _) H.1 H.2.1 H.2.2.1 H.2.2.2.2.1.1.2.2 H.2.2.2.2.1.2.2.2.1) (fun v1 h1 hq1 => ?_)
  have g1 := oX_gr (S := [38, 42, 46]) (T := [39, 43, 47]) hq1 (fun q => q.1)
  have ee1 := g1.2.1
  obtain ⟨hM1, hI1⟩ := INV_mid H g1 (by intro a z; simp at z; omega) (by intro a z; simp at z; omega)
  refine ab_aload_n dL_law_1114 rfl ?_
  refine ab_aload_n dL_law_1115 rfl ?_
  refine ab_iload_n dL_law_1116 rfl ?_
  refine ab_iconst (v := nI 1) dL_law_1117 (by decide) ?_
  refine ab_naddR dL_law_1118 ?_
  refine ab_eald dL_law_1119 rfl (by rw [ee1]; omega) (show _ = (ab_e h 1).2 (i + 1) by rw [ee1]) ?_
  refine ab_aload_n dL_law_1120 rfl ?_
  refine ab_iload_n dL_law_1121 rfl ?_
  refine ab_iconst (v := nI 2) dL_law_1122 (by decide) ?_
  refine ab_naddR dL_law_1123 ?_
  refine ab_eald dL_law_1124 rfl (by rw [ee1]; omega) (show _ = (ab_e h 1).2 (i + 2) by rw [ee1]) ?_
  refine ab_aload_n dL_law_1125 rfl ?_
  refine ab_iload_n dL_law_1126 rfl ?_
  refine ab_iconst (v := nI 3) dL_law_1127 (by decide) ?_
  refine ab_naddR dL_law_1128 ?_
  refine ab_eald dL_law_1129 rfl (by rw [ee1]; omega) (show _ = (ab_e h 1).2 (i + 3) by rw [ee1]) ?_
  refine ab_callVi [_, _, _] dL_law_1130 ml_L_128 mk_X12_racks hM1.hs (m_racks (k := 5) (b := 0) (Nat.le_refl _) hM1 hI1.1.2.2 hI1.2.2.2.1) (fun v2 h2 hq2 => ?_)
  have ee2 := (oX_fM hq2 (fun q => q.1)).trans ee1
  obtain ⟨ev, W2, H2⟩ := both_I H hq1 hq2 (fun x _ q1 q2 => ⟨_, INV_ok H q1.1 (by intro a z; simp at z; omega) (by intro a z; simp at z; simp; omega) (iC_rk q1.1 H.1 H.2.2.2.2.1 q1.2) q2.1 (by intro a z; simp at z; omega) (iM_rk q2.1 hI1 q2.2)⟩)
  refine ab_icmp_eq 1396 dL_law_1133 (by decide) (fun c_1133 => ?_) (fun c_1133 => ?_)
  · skip
    exact ab_less (by omega) (cont W2 h2 H2 ee2)
  · skip
    exact absurd ev c_1133
set_option maxRecDepth 100000 in
set_option maxHeartbeats 4000000 in
theorem law_28 {k b i : Nat} {h : ab_H} {W : wS} {post : Value → ab_H → Prop} (hk : 12 ≤ k) (hb9 : 110 ≤ b) (H : INV W h) (hn : (ab_e h 1).1 < 2147483648) (hi : i + 5 ≤ (ab_e h 1).1) (cont : ∀ (W' : wS) (h' : ab_H), INV W' h' → ab_e h' = ab_e h → ab_R k (b - 110) mL_law 1396 [some (.ref 1), some (.ref 5), some (.ref 50), some (.int (nI i))] [] h' post) : ab_R k b mL_law 1181 [some (.ref 1), some (.ref 5), some (.ref 50), some (.int (nI i))] [] h post := by
  refine ab_aload_n dL_law_1181 rfl ?_
  refine ab_aload_n dL_law_1182 rfl ?_
  refine ab_iload_n dL_law_1183 rfl ?_
  refine ab_iconst (v := nI 1) dL_law_1184 (by decide) ?_
  refine ab_naddR dL_law_1185 ?_
  refine ab_eald dL_law_1186 rfl (by omega) rfl ?_
  refine ab_aload_n dL_law_1187 rfl ?_
  refine ab_iload_n dL_law_1188 rfl ?_
  refine ab_iconst (v := nI 2) dL_law_1189 (by decide) ?_
  refine ab_naddR dL_law_1190 ?_
  refine ab_eald dL_law_1191 rfl (by omega) rfl ?_
  refine ab_callVi [_, _] dL_law_1192 ml_L_133 mk_X11_like H.2.2.1.hs (c_like (k := 1) (b := 0) (Nat.le_refl _) H.1 H.2.2.1 H.2.2.2.2.1.2.2.2.1) (fun v1 h1 hq1 => ?_)
  have g1 := oX_gr (S := [38, 42, 46]) (T := [39, 43, 47]) hq1 (fun q => q.1)
  have ee1 := g1.2.1
  obtain ⟨hM1, hI1⟩ := INV_mid H g1 (by intro a z; simp at z; omega) (by intro a z; simp at z; omega)
  refine ab_aload_n dL_law_1195 rfl ?_
  refine ab_aload_n dL_law_1196 rfl ?_
  refine ab_iload_n dL_law_1197 rfl ?_
  refine ab_iconst (v := nI 1) dL_law_1198 (by decide) ?_
  refine ab_naddR dL_law_1199 ?_
  refine ab_eald dL_law_1200 rfl (by rw [ee1]; omega) (show _ = (ab_e h 1).2 (i + 1) by rw [ee1]) ?_
  refine ab_aload_n dL_law_1201 rfl ?_
  refine ab_iload_n dL_law_1202 rfl ?_
  refine ab_iconst (v := nI 2) dL_law_1203 (by decide) ?_
  refine ab_naddR dL_law_1204 ?_
  refine ab_eald dL_law_1205 rfl (by rw [ee1]; omega) (show _ = (ab_e h 1).2 (i + 2) by rw [ee1]) ?_
  refine ab_callVi [_, _] dL_law_1206 ml_L_136 mk_X12_like hM1.hs (m_like (k := 2) (b := 0) (Nat.le_refl _) hM1 hI1.2.2.2.1) (fun v2 h2 hq2 => ?_)
  have ee2 := (oX_fM hq2 (fun q => q.1)).trans ee1
  obtain ⟨ev, W2, H2⟩ := both_I H hq1 hq2 (fun x _ q1 q2 => ⟨_, INV_ok H q1.1 (by intro a z; simp at z; omega) (by intro a z; simp at z; simp; omega) (iC_rk q1.1 H.1 H.2.2.2.2.1 q1.2) q2.1 (by intro a z; simp at z; omega) (iM_rk q2.1 hI1 q2.2)⟩)
  refine ab_icmp_eq 1396 dL_law_1209 (by decide) (fun c_1209 => ?_) (fun c_1209 => ?_)
  · skip
    exact ab_less (by omega) (cont W2 h2 H2 ee2)
  · skip
    exact absurd ev c_1209
set_option maxRecDepth 100000 in
set_option maxHeartbeats 4000000 in
theorem law_33 {k b i : Nat} {h : ab_H} {W : wS} {post : Value → ab_H → Prop} (hk : 12 ≤ k) (hb9 : 110 ≤ b) (H : INV W h) (hn : (ab_e h 1).1 < 2147483648) (hi : i + 5 ≤ (ab_e h 1).1) (cont : ∀ (W' : wS) (h' : ab_H), INV W' h' → ab_e h' = ab_e h → ab_R k (b - 110) mL_law 1396 [some (.ref 1), some (.ref 5), some (.ref 50), some (.int (nI i))] [] h' post) : ab_R k b mL_law 1347 [some (.ref 1), some (.ref 5), some (.ref 50), some (.int (nI i))] [] h post := by
  refine ab_aload_n dL_law_1347 rfl ?_
  refine ab_callVi [] dL_law_1348 ml_L_153 mk_X11_image H.2.2.1.hs (c_image (k := 3) (b := 0) (Nat.le_refl _) H.1 H.2.2.1 H.2.2.2.2.1.1.1 H.2.2.2.2.1.1.2.1 H.2.2.2.2.1.1.2.2) (fun v1 h1 hq1 => ?_)
  have g1 := oX_gr (S := [25, 27, 32]) (T := [33, 34]) hq1 (fun q => q.1)
  have ee1 := g1.2.1
  obtain ⟨hM1, hI1⟩ := INV_mid H g1 (by intro a z; simp at z; omega) (by intro a z; simp at z; omega)
  refine ab_aload_n dL_law_1351 rfl ?_
  refine ab_callVi [] dL_law_1352 ml_L_156 mk_X12_image hM1.hs (m_image (k := 0) (b := 0) hM1 hI1.1.1 hI1.1.2.1 hI1.1.2.2) (fun v2 h2 hq2 => ?_)
  have ee2 := (oX_fM hq2 (fun q => q.1)).trans ee1
  obtain ⟨ev, W2, H2⟩ := both_I H hq1 hq2 (fun x _ q1 q2 => ⟨_, INV_ok H q1.1 (by intro a z; simp at z; omega) (by intro a z; simp at z; simp; omega) (iC_im q1.1 H.1 H.2.2.2.2.1 q1.2) q2.1 (by intro a z; simp at z; omega) (iM_im q2.1 hI1 q2.2)⟩)
  refine ab_icmp_eq 1396 dL_law_1355 (by decide) (fun c_1355 => ?_) (fun c_1355 => ?_)
  · skip
    exact ab_less (by omega) (cont W2 h2 H2 ee2)
  · skip
    exact absurd ev c_1355
