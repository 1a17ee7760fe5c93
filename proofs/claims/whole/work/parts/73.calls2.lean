/-! THE LAW, 4: its calls -/
set_option maxHeartbeats 4000000 in
theorem c_L_seize {tm : Nat × Nat} {Q : Out → Sto → Prop} {sa oa xc xm len q : Nat} {s : Nat → Int32} {S : Sto} {w : CAd} {v : MAd} {c : CC} {m : MC} {bc bs : Nat} (I : LI tm sa oa xc xm len s q S w v c m) (hq : 9 * q + 9 ≤ len) (hl : len ≤ 4608) (hbc : 122 ≤ bc) (hbs : 7532 ≤ bs) (kk : ∀ S1 w1 c1 m1, LI tm sa oa xc xm len s (q + 1) S1 w1 v c1 m1 → Wp (Ev tm) tm M_L_law Q 1889 (lo0 sa oa xc xm q) [] (bc - 122) (bs - 7532) S1) : Wp (Ev tm) tm M_L_law Q 1097 (lo0 sa oa xc xm q) [] bc bs S := by
  have I0 := I
  obtain ⟨⟨hC, hM⟩, ⟨hE, hB⟩, ⟨hm, rfl, rfl⟩, ⟨k0, n0, i0⟩, ok, on⟩ := I
  have hq6 : q ≤ 600 := by omega
  refine s_aloadn dL_law_1097 rfl rfl ?_
  refine s_aloadn dL_law_1098 rfl rfl ?_
  refine s_iload dL_law_1099 rfl ?_
  refine s_iconst (v := 1) dL_law_1101 (by decide) ?_
  refine s_iadd dL_law_1102 ?_
  refine s_sald' (j := 9 * q + 1) dL_law_1103 k0 i0 (la_ix (k := 1) hq6 (by decide)) (by rw [n0]; omega) (by rw [n0]; omega) ?_
  refine s_aloadn dL_law_1104 rfl rfl ?_
  refine s_iload dL_law_1105 rfl ?_
  refine s_iconst (v := 2) dL_law_1107 (by decide) ?_
  refine s_iadd dL_law_1108 ?_
  refine s_sald' (j := 9 * q + 2) dL_law_1109 k0 i0 (la_ix (k := 2) hq6 (by decide)) (by rw [n0]; omega) (by rw [n0]; omega) ?_
  refine s_aloadn dL_law_1110 rfl rfl ?_
  have R := q_seize (k := (s (9 * q + 1))) (g := (s (9 * q + 2))) hE hB
  have u : unl [(3, 1), (2, 2)] := by unfold unl; decide
  refine s_cw4G (n := 13) dL_law_1111 rfl rfl (by decide) (by decide) (Nat.le_trans (Nat.le_of_ble_eq_true rfl) hbc) (Nat.le_trans (Nat.le_of_ble_eq_true rfl) hbs) (by decide) (m_L_seize ok on hC R.1) (fun r S1 hr => ?_) (fun x S1 hr => LQ.x hr)
  obtain ⟨er, S2, hP, hv⟩ := LQJ hr R.1 u
  subst er
  have po : Po oa S2 S1 := by
    rcases hv with ⟨-, e⟩ | ⟨-, e⟩
    · exact Or.inr ⟨_, e⟩
    · exact Or.inl e
  have g := PO.gp hP hm
  obtain ⟨hM1, ⟨k1, n1, i1⟩, ok1, on1⟩ := I0.mid g po
  refine s_istore dL_law_1114 (by decide) ?_
  refine s_aloadn dL_law_1116 rfl rfl ?_
  refine s_aloadn dL_law_1117 rfl rfl ?_
  refine s_iload dL_law_1118 rfl ?_
  refine s_iconst (v := 1) dL_law_1120 (by decide) ?_
  refine s_iadd dL_law_1121 ?_
  refine s_sald' (j := 9 * q + 1) dL_law_1122 k1 i1 (la_ix (k := 1) hq6 (by decide)) (by rw [n1]; omega) (by rw [n1]; omega) ?_
  refine s_aloadn dL_law_1123 rfl rfl ?_
  refine s_iload dL_law_1124 rfl ?_
  refine s_iconst (v := 2) dL_law_1126 (by decide) ?_
  refine s_iadd dL_law_1127 ?_
  refine s_sald' (j := 9 * q + 2) dL_law_1128 k1 i1 (la_ix (k := 2) hq6 (by decide)) (by rw [n1]; omega) (by rw [n1]; omega) ?_
  refine s_cv2G (n := 111) dL_law_1129 rfl (kv hM1.mm (by decide) rfl) rfl (by decide) (by decide) (Nat.zero_le _) (Nat.zero_le _) (by decide) (m_X4_seize hM1 hE.1.1 hB.1.1 hE.1.2.2.1 hB.1.2.2.1) (fun r S3 hr3 => ?_) (fun x S3 hr3 => by have := hr3.1; cases this)
  obtain ⟨e3, hM3, f3⟩ := hr3
  cases e3
  refine s_lstore dL_law_1132 (by decide) ?_
  refine s_aloadn dL_law_1134 rfl rfl ?_
  refine s_cv0R (n := 98) dL_law_1135 rfl (kv hM3.mm (by decide) rfl) rfl (by decide) (by decide) (Nat.zero_le _) (Nat.zero_le _) (by decide) (m_X4_thrown hM3) ?_
  refine s_iload dL_law_1138 rfl ?_
  refine s_iceq (tgt := 1145) dL_law_1140 (by decide) (fun _ => ?_) (fun c0 => absurd rfl c0)
  refine s_iload dL_law_1145 rfl ?_
  refine s_ifne (tgt := 1161) dL_law_1147 (by decide) (fun ct => ?_) (fun ct => ?_)
  · skip
    refine s_goto (tgt := 1889) dL_law_1161 (by decide) ?_
    obtain ⟨w', I3⟩ := I0.fin g po hM3 f3 R.2.1 (BD.up R.2.2 (by omega))
    exact s_sub (lo_has rfl rfl rfl rfl rfl) (la_b (Nat.le_of_ble_eq_true rfl)) (la_b (Nat.le_of_ble_eq_true rfl)) (kk _ _ _ _ I3)
  · obtain ⟨o1, o2, o3⟩ := I0.row g po f3
    rcases hv with ⟨-, eS⟩ | ⟨nt, -⟩
    · have ev := congrFun o3 0
      rw [eS] at ev
      have ev := ev.trans re_up1
      refine s_aloadn dL_law_1150 rfl rfl ?_
      refine s_iconst (v := 0) dL_law_1151 (by decide) ?_
      refine s_lald' (j := 0) dL_law_1152 (Or.inr (Or.inr o1)) rfl (by rw [o2]; decide) (by rw [o2]; decide) ?_
      rw [ev]
      refine s_lload dL_law_1153 rfl ?_
      refine s_lceq (tgt := 1161) dL_law_1155 dL_law_1156 (by decide) (fun _ => ?_) (fun c0 => absurd rfl c0)
      refine s_goto (tgt := 1889) dL_law_1161 (by decide) ?_
      obtain ⟨w', I3⟩ := I0.fin g po hM3 f3 R.2.1 (BD.up R.2.2 (by omega))
      exact s_sub (lo_has rfl rfl rfl rfl rfl) (la_b (Nat.le_of_ble_eq_true rfl)) (la_b (Nat.le_of_ble_eq_true rfl)) (kk _ _ _ _ I3)
    · exact absurd ct nt
set_option maxHeartbeats 4000000 in
theorem c_L_programme {tm : Nat × Nat} {Q : Out → Sto → Prop} {sa oa xc xm len q : Nat} {s : Nat → Int32} {S : Sto} {w : CAd} {v : MAd} {c : CC} {m : MC} {bc bs : Nat} (I : LI tm sa oa xc xm len s q S w v c m) (hq : 9 * q + 9 ≤ len) (hl : len ≤ 4608) (hbc : 122 ≤ bc) (hbs : 7532 ≤ bs) (kk : ∀ S1 w1 c1 m1, LI tm sa oa xc xm len s (q + 1) S1 w1 v c1 m1 → Wp (Ev tm) tm M_L_law Q 1889 (lo0 sa oa xc xm q) [] (bc - 122) (bs - 7532) S1) : Wp (Ev tm) tm M_L_law Q 1164 (lo0 sa oa xc xm q) [] bc bs S := by
  have I0 := I
  obtain ⟨⟨hC, hM⟩, ⟨hE, hB⟩, ⟨hm, rfl, rfl⟩, ⟨k0, n0, i0⟩, ok, on⟩ := I
  have hq6 : q ≤ 600 := by omega
  refine s_aloadn dL_law_1164 rfl rfl ?_
  refine s_aloadn dL_law_1165 rfl rfl ?_
  refine s_iload dL_law_1166 rfl ?_
  refine s_iconst (v := 1) dL_law_1168 (by decide) ?_
  refine s_iadd dL_law_1169 ?_
  refine s_sald' (j := 9 * q + 1) dL_law_1170 k0 i0 (la_ix (k := 1) hq6 (by decide)) (by rw [n0]; omega) (by rw [n0]; omega) ?_
  refine s_aloadn dL_law_1171 rfl rfl ?_
  refine s_iload dL_law_1172 rfl ?_
  refine s_iconst (v := 2) dL_law_1174 (by decide) ?_
  refine s_iadd dL_law_1175 ?_
  refine s_sald' (j := 9 * q + 2) dL_law_1176 k0 i0 (la_ix (k := 2) hq6 (by decide)) (by rw [n0]; omega) (by rw [n0]; omega) ?_
  refine s_aloadn dL_law_1177 rfl rfl ?_
  refine s_iload dL_law_1178 rfl ?_
  refine s_iconst (v := 3) dL_law_1180 (by decide) ?_
  refine s_iadd dL_law_1181 ?_
  refine s_sald' (j := 9 * q + 3) dL_law_1182 k0 i0 (la_ix (k := 3) hq6 (by decide)) (by rw [n0]; omega) (by rw [n0]; omega) ?_
  have R := q_programme (a := (s (9 * q + 1))) (u := (s (9 * q + 2))) (r := (s (9 * q + 3))) hE hB
  have u : unl [(1, 1)] := by unfold unl; decide
  refine s_cw4G (n := 14) dL_law_1183 rfl rfl (by decide) (by decide) (Nat.le_trans (Nat.le_of_ble_eq_true rfl) hbc) (Nat.le_trans (Nat.le_of_ble_eq_true rfl) hbs) (by decide) (m_L_programme hC R.1) (fun r S1 hr => ?_) (fun x S1 hr => LQ.x hr)
  obtain ⟨er, hP⟩ := LQV hr R.1 u
  subst er
  have po : Po oa S1 S1 := Or.inl rfl
  have g := PO.gp hP hm
  obtain ⟨hM1, ⟨k1, n1, i1⟩, ok1, on1⟩ := I0.mid g po
  refine s_istore dL_law_1186 (by decide) ?_
  refine s_aloadn dL_law_1188 rfl rfl ?_
  refine s_aloadn dL_law_1189 rfl rfl ?_
  refine s_iload dL_law_1190 rfl ?_
  refine s_iconst (v := 1) dL_law_1192 (by decide) ?_
  refine s_iadd dL_law_1193 ?_
  refine s_sald' (j := 9 * q + 1) dL_law_1194 k1 i1 (la_ix (k := 1) hq6 (by decide)) (by rw [n1]; omega) (by rw [n1]; omega) ?_
  refine s_aloadn dL_law_1195 rfl rfl ?_
  refine s_iload dL_law_1196 rfl ?_
  refine s_iconst (v := 2) dL_law_1198 (by decide) ?_
  refine s_iadd dL_law_1199 ?_
  refine s_sald' (j := 9 * q + 2) dL_law_1200 k1 i1 (la_ix (k := 2) hq6 (by decide)) (by rw [n1]; omega) (by rw [n1]; omega) ?_
  refine s_aloadn dL_law_1201 rfl rfl ?_
  refine s_iload dL_law_1202 rfl ?_
  refine s_iconst (v := 3) dL_law_1204 (by decide) ?_
  refine s_iadd dL_law_1205 ?_
  refine s_sald' (j := 9 * q + 3) dL_law_1206 k1 i1 (la_ix (k := 3) hq6 (by decide)) (by rw [n1]; omega) (by rw [n1]; omega) ?_
  refine s_cv3G (n := 112) dL_law_1207 rfl (kv hM1.mm (by decide) rfl) rfl (by decide) (by decide) (Nat.zero_le _) (Nat.zero_le _) (by decide) (m_X4_programme hM1 ) (fun r S3 hr3 => ?_) (fun x S3 hr3 => by have := hr3.1; cases this)
  obtain ⟨e3, hM3, f3⟩ := hr3
  cases e3
  refine s_aloadn dL_law_1210 rfl rfl ?_
  refine s_cv0R (n := 98) dL_law_1211 rfl (kv hM3.mm (by decide) rfl) rfl (by decide) (by decide) (Nat.zero_le _) (Nat.zero_le _) (by decide) (m_X4_thrown hM3) ?_
  refine s_iload dL_law_1214 rfl ?_
  refine s_iceq (tgt := 1221) dL_law_1216 (by decide) (fun _ => ?_) (fun c0 => absurd rfl c0)
  refine s_goto (tgt := 1889) dL_law_1221 (by decide) ?_
  obtain ⟨w', I3⟩ := I0.fin g po hM3 f3 R.2.1 (BD.up R.2.2 (by omega))
  exact s_sub (lo_has rfl rfl rfl rfl rfl) (la_b (Nat.le_of_ble_eq_true rfl)) (la_b (Nat.le_of_ble_eq_true rfl)) (kk _ _ _ _ I3)
set_option maxHeartbeats 4000000 in
theorem c_L_assure {tm : Nat × Nat} {Q : Out → Sto → Prop} {sa oa xc xm len q : Nat} {s : Nat → Int32} {S : Sto} {w : CAd} {v : MAd} {c : CC} {m : MC} {bc bs : Nat} (I : LI tm sa oa xc xm len s q S w v c m) (hq : 9 * q + 9 ≤ len) (hl : len ≤ 4608) (hbc : 122 ≤ bc) (hbs : 7532 ≤ bs) (kk : ∀ S1 w1 c1 m1, LI tm sa oa xc xm len s (q + 1) S1 w1 v c1 m1 → Wp (Ev tm) tm M_L_law Q 1889 (lo0 sa oa xc xm q) [] (bc - 122) (bs - 7532) S1) : Wp (Ev tm) tm M_L_law Q 1224 (lo0 sa oa xc xm q) [] bc bs S := by
  have I0 := I
  obtain ⟨⟨hC, hM⟩, ⟨hE, hB⟩, ⟨hm, rfl, rfl⟩, ⟨k0, n0, i0⟩, ok, on⟩ := I
  have hq6 : q ≤ 600 := by omega
  refine s_aloadn dL_law_1224 rfl rfl ?_
  refine s_aloadn dL_law_1225 rfl rfl ?_
  refine s_iload dL_law_1226 rfl ?_
  refine s_iconst (v := 1) dL_law_1228 (by decide) ?_
  refine s_iadd dL_law_1229 ?_
  refine s_sald' (j := 9 * q + 1) dL_law_1230 k0 i0 (la_ix (k := 1) hq6 (by decide)) (by rw [n0]; omega) (by rw [n0]; omega) ?_
  refine s_aloadn dL_law_1231 rfl rfl ?_
  refine s_iload dL_law_1232 rfl ?_
  refine s_iconst (v := 2) dL_law_1234 (by decide) ?_
  refine s_iadd dL_law_1235 ?_
  refine s_sald' (j := 9 * q + 2) dL_law_1236 k0 i0 (la_ix (k := 2) hq6 (by decide)) (by rw [n0]; omega) (by rw [n0]; omega) ?_
  refine s_ifeq (tgt := 1244) dL_law_1237 (by decide) (fun cz => ?_) (fun cz => ?_)
  · have hz : (0 : Int32) = 0 ∨ (0 : Int32) = 1 := Or.inl rfl
    refine s_iconst (v := 0) dL_law_1244 (by decide) ?_
    refine s_aloadn dL_law_1245 rfl rfl ?_
    have R := q_assure (k := (s (9 * q + 1))) (z := 0) hz hE hB
    have u : unl [(3, 1)] := by unfold unl; decide
    refine s_cw4G (n := 15) dL_law_1246 rfl rfl (by decide) (by decide) (Nat.le_trans (Nat.le_of_ble_eq_true rfl) hbc) (Nat.le_trans (Nat.le_of_ble_eq_true rfl) hbs) (by decide) (m_L_assure ok on hC hz R.1) (fun r S1 hr => ?_) (fun x S1 hr => LQ.x hr)
    obtain ⟨er, S2, hP, hv⟩ := LQI hr R.1 u
    subst er
    have po : Po oa S2 S1 := by
      rcases hv with ⟨-, e⟩ | ⟨-, e⟩
      · exact Or.inr ⟨_, e⟩
      · exact Or.inl e
    have g := PO.gp hP hm
    obtain ⟨hM1, ⟨k1, n1, i1⟩, ok1, on1⟩ := I0.mid g po
    refine s_istore dL_law_1249 (by decide) ?_
    refine s_aloadn dL_law_1251 rfl rfl ?_
    refine s_aloadn dL_law_1252 rfl rfl ?_
    refine s_iload dL_law_1253 rfl ?_
    refine s_iconst (v := 1) dL_law_1255 (by decide) ?_
    refine s_iadd dL_law_1256 ?_
    refine s_sald' (j := 9 * q + 1) dL_law_1257 k1 i1 (la_ix (k := 1) hq6 (by decide)) (by rw [n1]; omega) (by rw [n1]; omega) ?_
    refine s_aloadn dL_law_1258 rfl rfl ?_
    refine s_iload dL_law_1259 rfl ?_
    refine s_iconst (v := 2) dL_law_1261 (by decide) ?_
    refine s_iadd dL_law_1262 ?_
    refine s_sald' (j := 9 * q + 2) dL_law_1263 k1 i1 (la_ix (k := 2) hq6 (by decide)) (by rw [n1]; omega) (by rw [n1]; omega) ?_
    refine s_ifeq (tgt := 1271) dL_law_1264 (by decide) (fun _ => ?_) (fun cz2 => absurd cz cz2)
    refine s_iconst (v := 0) dL_law_1271 (by decide) ?_
    refine s_cv2G (n := 113) dL_law_1272 rfl (kv hM1.mm (by decide) rfl) rfl (by decide) (by decide) (Nat.zero_le _) (Nat.zero_le _) (by decide) (m_X4_assure hM1 hz) (fun r S3 hr3 => ?_) (fun x S3 hr3 => by have := hr3.1; cases this)
    obtain ⟨e3, hM3, f3⟩ := hr3
    cases e3
    refine s_istore dL_law_1275 (by decide) ?_
    refine s_aloadn dL_law_1277 rfl rfl ?_
    refine s_cv0R (n := 98) dL_law_1278 rfl (kv hM3.mm (by decide) rfl) rfl (by decide) (by decide) (Nat.zero_le _) (Nat.zero_le _) (by decide) (m_X4_thrown hM3) ?_
    refine s_iload dL_law_1281 rfl ?_
    refine s_iceq (tgt := 1288) dL_law_1283 (by decide) (fun _ => ?_) (fun c0 => absurd rfl c0)
    refine s_iload dL_law_1288 rfl ?_
    refine s_ifne (tgt := 1312) dL_law_1290 (by decide) (fun ct => ?_) (fun ct => ?_)
    · skip
      refine s_goto (tgt := 1889) dL_law_1312 (by decide) ?_
      obtain ⟨w', I3⟩ := I0.fin g po hM3 f3 R.2.1 (BD.up R.2.2 (by omega))
      exact s_sub (lo_has rfl rfl rfl rfl rfl) (la_b (Nat.le_of_ble_eq_true rfl)) (la_b (Nat.le_of_ble_eq_true rfl)) (kk _ _ _ _ I3)
    · obtain ⟨o1, o2, o3⟩ := I0.row g po f3
      rcases hv with ⟨-, eS⟩ | ⟨nt, -⟩
      · have ev := congrFun o3 0
        rw [eS] at ev
        have ev := ev.trans re_up1
        refine s_aloadn dL_law_1293 rfl rfl ?_
        refine s_iconst (v := 0) dL_law_1294 (by decide) ?_
        refine s_lald' (j := 0) dL_law_1295 (Or.inr (Or.inr o1)) rfl (by rw [o2]; decide) (by rw [o2]; decide) ?_
        rw [ev]
        refine s_iload dL_law_1296 rfl ?_
        refine s_ifeq (tgt := 1305) dL_law_1298 (by decide) (fun cb => ?_) (fun cb => ?_)
        · refine s_lconst (v := 0) dL_law_1305 (by decide) ?_
          refine s_lceq (tgt := 1312) dL_law_1306 dL_law_1307 (by decide) (fun _ => ?_) (fun c0 => absurd (if_pos cb) c0)
          refine s_goto (tgt := 1889) dL_law_1312 (by decide) ?_
          obtain ⟨w', I3⟩ := I0.fin g po hM3 f3 R.2.1 (BD.up R.2.2 (by omega))
          exact s_sub (lo_has rfl rfl rfl rfl rfl) (la_b (Nat.le_of_ble_eq_true rfl)) (la_b (Nat.le_of_ble_eq_true rfl)) (kk _ _ _ _ I3)
        · refine s_lconst (v := 1) dL_law_1301 (by decide) ?_
          refine s_goto (tgt := 1306) dL_law_1302 (by decide) ?_
          refine s_lceq (tgt := 1312) dL_law_1306 dL_law_1307 (by decide) (fun _ => ?_) (fun c0 => absurd (if_neg cb) c0)
          refine s_goto (tgt := 1889) dL_law_1312 (by decide) ?_
          obtain ⟨w', I3⟩ := I0.fin g po hM3 f3 R.2.1 (BD.up R.2.2 (by omega))
          exact s_sub (lo_has rfl rfl rfl rfl rfl) (la_b (Nat.le_of_ble_eq_true rfl)) (la_b (Nat.le_of_ble_eq_true rfl)) (kk _ _ _ _ I3)
      · exact absurd ct nt
  · have hz : (1 : Int32) = 0 ∨ (1 : Int32) = 1 := Or.inr rfl
    refine s_iconst (v := 1) dL_law_1240 (by decide) ?_
    refine s_goto (tgt := 1245) dL_law_1241 (by decide) ?_
    refine s_aloadn dL_law_1245 rfl rfl ?_
    have R := q_assure (k := (s (9 * q + 1))) (z := 1) hz hE hB
    have u : unl [(3, 1)] := by unfold unl; decide
    refine s_cw4G (n := 15) dL_law_1246 rfl rfl (by decide) (by decide) (Nat.le_trans (Nat.le_of_ble_eq_true rfl) hbc) (Nat.le_trans (Nat.le_of_ble_eq_true rfl) hbs) (by decide) (m_L_assure ok on hC hz R.1) (fun r S1 hr => ?_) (fun x S1 hr => LQ.x hr)
    obtain ⟨er, S2, hP, hv⟩ := LQI hr R.1 u
    subst er
    have po : Po oa S2 S1 := by
      rcases hv with ⟨-, e⟩ | ⟨-, e⟩
      · exact Or.inr ⟨_, e⟩
      · exact Or.inl e
    have g := PO.gp hP hm
    obtain ⟨hM1, ⟨k1, n1, i1⟩, ok1, on1⟩ := I0.mid g po
    refine s_istore dL_law_1249 (by decide) ?_
    refine s_aloadn dL_law_1251 rfl rfl ?_
    refine s_aloadn dL_law_1252 rfl rfl ?_
    refine s_iload dL_law_1253 rfl ?_
    refine s_iconst (v := 1) dL_law_1255 (by decide) ?_
    refine s_iadd dL_law_1256 ?_
    refine s_sald' (j := 9 * q + 1) dL_law_1257 k1 i1 (la_ix (k := 1) hq6 (by decide)) (by rw [n1]; omega) (by rw [n1]; omega) ?_
    refine s_aloadn dL_law_1258 rfl rfl ?_
    refine s_iload dL_law_1259 rfl ?_
    refine s_iconst (v := 2) dL_law_1261 (by decide) ?_
    refine s_iadd dL_law_1262 ?_
    refine s_sald' (j := 9 * q + 2) dL_law_1263 k1 i1 (la_ix (k := 2) hq6 (by decide)) (by rw [n1]; omega) (by rw [n1]; omega) ?_
    refine s_ifeq (tgt := 1271) dL_law_1264 (by decide) (fun cz2 => absurd cz2 cz) (fun _ => ?_)
    refine s_iconst (v := 1) dL_law_1267 (by decide) ?_
    refine s_goto (tgt := 1272) dL_law_1268 (by decide) ?_
    refine s_cv2G (n := 113) dL_law_1272 rfl (kv hM1.mm (by decide) rfl) rfl (by decide) (by decide) (Nat.zero_le _) (Nat.zero_le _) (by decide) (m_X4_assure hM1 hz) (fun r S3 hr3 => ?_) (fun x S3 hr3 => by have := hr3.1; cases this)
    obtain ⟨e3, hM3, f3⟩ := hr3
    cases e3
    refine s_istore dL_law_1275 (by decide) ?_
    refine s_aloadn dL_law_1277 rfl rfl ?_
    refine s_cv0R (n := 98) dL_law_1278 rfl (kv hM3.mm (by decide) rfl) rfl (by decide) (by decide) (Nat.zero_le _) (Nat.zero_le _) (by decide) (m_X4_thrown hM3) ?_
    refine s_iload dL_law_1281 rfl ?_
    refine s_iceq (tgt := 1288) dL_law_1283 (by decide) (fun _ => ?_) (fun c0 => absurd rfl c0)
    refine s_iload dL_law_1288 rfl ?_
    refine s_ifne (tgt := 1312) dL_law_1290 (by decide) (fun ct => ?_) (fun ct => ?_)
    · skip
      refine s_goto (tgt := 1889) dL_law_1312 (by decide) ?_
      obtain ⟨w', I3⟩ := I0.fin g po hM3 f3 R.2.1 (BD.up R.2.2 (by omega))
      exact s_sub (lo_has rfl rfl rfl rfl rfl) (la_b (Nat.le_of_ble_eq_true rfl)) (la_b (Nat.le_of_ble_eq_true rfl)) (kk _ _ _ _ I3)
    · obtain ⟨o1, o2, o3⟩ := I0.row g po f3
      rcases hv with ⟨-, eS⟩ | ⟨nt, -⟩
      · have ev := congrFun o3 0
        rw [eS] at ev
        have ev := ev.trans re_up1
        refine s_aloadn dL_law_1293 rfl rfl ?_
        refine s_iconst (v := 0) dL_law_1294 (by decide) ?_
        refine s_lald' (j := 0) dL_law_1295 (Or.inr (Or.inr o1)) rfl (by rw [o2]; decide) (by rw [o2]; decide) ?_
        rw [ev]
        refine s_iload dL_law_1296 rfl ?_
        refine s_ifeq (tgt := 1305) dL_law_1298 (by decide) (fun cb => ?_) (fun cb => ?_)
        · refine s_lconst (v := 0) dL_law_1305 (by decide) ?_
          refine s_lceq (tgt := 1312) dL_law_1306 dL_law_1307 (by decide) (fun _ => ?_) (fun c0 => absurd (if_pos cb) c0)
          refine s_goto (tgt := 1889) dL_law_1312 (by decide) ?_
          obtain ⟨w', I3⟩ := I0.fin g po hM3 f3 R.2.1 (BD.up R.2.2 (by omega))
          exact s_sub (lo_has rfl rfl rfl rfl rfl) (la_b (Nat.le_of_ble_eq_true rfl)) (la_b (Nat.le_of_ble_eq_true rfl)) (kk _ _ _ _ I3)
        · refine s_lconst (v := 1) dL_law_1301 (by decide) ?_
          refine s_goto (tgt := 1306) dL_law_1302 (by decide) ?_
          refine s_lceq (tgt := 1312) dL_law_1306 dL_law_1307 (by decide) (fun _ => ?_) (fun c0 => absurd (if_neg cb) c0)
          refine s_goto (tgt := 1889) dL_law_1312 (by decide) ?_
          obtain ⟨w', I3⟩ := I0.fin g po hM3 f3 R.2.1 (BD.up R.2.2 (by omega))
          exact s_sub (lo_has rfl rfl rfl rfl rfl) (la_b (Nat.le_of_ble_eq_true rfl)) (la_b (Nat.le_of_ble_eq_true rfl)) (kk _ _ _ _ I3)
      · exact absurd ct nt
set_option maxHeartbeats 4000000 in
theorem c_L_review {tm : Nat × Nat} {Q : Out → Sto → Prop} {sa oa xc xm len q : Nat} {s : Nat → Int32} {S : Sto} {w : CAd} {v : MAd} {c : CC} {m : MC} {bc bs : Nat} (I : LI tm sa oa xc xm len s q S w v c m) (hq : 9 * q + 9 ≤ len) (hl : len ≤ 4608) (hbc : 122 ≤ bc) (hbs : 7532 ≤ bs) (kk : ∀ S1 w1 c1 m1, LI tm sa oa xc xm len s (q + 1) S1 w1 v c1 m1 → Wp (Ev tm) tm M_L_law Q 1889 (lo0 sa oa xc xm q) [] (bc - 122) (bs - 7532) S1) : Wp (Ev tm) tm M_L_law Q 1315 (lo0 sa oa xc xm q) [] bc bs S := by
  have I0 := I
  obtain ⟨⟨hC, hM⟩, ⟨hE, hB⟩, ⟨hm, rfl, rfl⟩, ⟨k0, n0, i0⟩, ok, on⟩ := I
  have hq6 : q ≤ 600 := by omega
  refine s_aloadn dL_law_1315 rfl rfl ?_
  refine s_aloadn dL_law_1316 rfl rfl ?_
  have R := q_review hE hB
  have u : unl [(2, 1)] := by unfold unl; decide
  refine s_cw2G (n := 16) dL_law_1317 rfl rfl (by decide) (by decide) (Nat.le_trans (Nat.le_of_ble_eq_true rfl) hbc) (Nat.le_trans (Nat.le_of_ble_eq_true rfl) hbs) (by decide) (m_L_review ok on hC hm R.1) (fun r S1 hr => ?_) (fun x S1 hr => LQ.x hr)
  obtain ⟨er, S2, hP, hv⟩ := LQI hr R.1 u
  subst er
  have po : Po oa S2 S1 := by
    rcases hv with ⟨-, e⟩ | ⟨-, e⟩
    · exact Or.inr ⟨_, e⟩
    · exact Or.inl e
  have g := PA.gp hP
  obtain ⟨hM1, ⟨k1, n1, i1⟩, ok1, on1⟩ := I0.mid g po
  refine s_istore dL_law_1320 (by decide) ?_
  refine s_aloadn dL_law_1322 rfl rfl ?_
  refine s_cv0G (n := 114) dL_law_1323 rfl (kv hM1.mm (by decide) rfl) rfl (by decide) (by decide) (Nat.zero_le _) (Nat.zero_le _) (by decide) (m_X4_review hM1 hE.1.1 hB.1.1 (hE.ls hB)) (fun r S3 hr3 => ?_) (fun x S3 hr3 => by have := hr3.1; cases this)
  obtain ⟨e3, hM3, f3⟩ := hr3
  cases e3
  refine s_istore dL_law_1326 (by decide) ?_
  refine s_aloadn dL_law_1328 rfl rfl ?_
  refine s_cv0R (n := 98) dL_law_1329 rfl (kv hM3.mm (by decide) rfl) rfl (by decide) (by decide) (Nat.zero_le _) (Nat.zero_le _) (by decide) (m_X4_thrown hM3) ?_
  refine s_iload dL_law_1332 rfl ?_
  refine s_iceq (tgt := 1339) dL_law_1334 (by decide) (fun _ => ?_) (fun c0 => absurd rfl c0)
  refine s_iload dL_law_1339 rfl ?_
  refine s_ifne (tgt := 1356) dL_law_1341 (by decide) (fun ct => ?_) (fun ct => ?_)
  · skip
    refine s_goto (tgt := 1889) dL_law_1356 (by decide) ?_
    obtain ⟨w', I3⟩ := I0.fin g po hM3 f3 R.2.1 (BD.up R.2.2 (by omega))
    exact s_sub (lo_has rfl rfl rfl rfl rfl) (la_b (Nat.le_of_ble_eq_true rfl)) (la_b (Nat.le_of_ble_eq_true rfl)) (kk _ _ _ _ I3)
  · obtain ⟨o1, o2, o3⟩ := I0.row g po f3
    rcases hv with ⟨-, eS⟩ | ⟨nt, -⟩
    · have ev := congrFun o3 0
      rw [eS] at ev
      have ev := ev.trans re_up1
      refine s_aloadn dL_law_1344 rfl rfl ?_
      refine s_iconst (v := 0) dL_law_1345 (by decide) ?_
      refine s_lald' (j := 0) dL_law_1346 (Or.inr (Or.inr o1)) rfl (by rw [o2]; decide) (by rw [o2]; decide) ?_
      rw [ev]
      refine s_iload dL_law_1347 rfl ?_
      refine s_i2l dL_law_1349 ?_
      refine s_lceq (tgt := 1356) dL_law_1350 dL_law_1351 (by decide) (fun _ => ?_) (fun c0 => absurd rfl c0)
      refine s_goto (tgt := 1889) dL_law_1356 (by decide) ?_
      obtain ⟨w', I3⟩ := I0.fin g po hM3 f3 R.2.1 (BD.up R.2.2 (by omega))
      exact s_sub (lo_has rfl rfl rfl rfl rfl) (la_b (Nat.le_of_ble_eq_true rfl)) (la_b (Nat.le_of_ble_eq_true rfl)) (kk _ _ _ _ I3)
    · exact absurd ct nt
set_option maxHeartbeats 4000000 in
theorem c_L_value {tm : Nat × Nat} {Q : Out → Sto → Prop} {sa oa xc xm len q : Nat} {s : Nat → Int32} {S : Sto} {w : CAd} {v : MAd} {c : CC} {m : MC} {bc bs : Nat} (I : LI tm sa oa xc xm len s q S w v c m) (hq : 9 * q + 9 ≤ len) (hl : len ≤ 4608) (hbc : 122 ≤ bc) (hbs : 7532 ≤ bs) (kk : ∀ S1 w1 c1 m1, LI tm sa oa xc xm len s (q + 1) S1 w1 v c1 m1 → Wp (Ev tm) tm M_L_law Q 1889 (lo0 sa oa xc xm q) [] (bc - 122) (bs - 7532) S1) : Wp (Ev tm) tm M_L_law Q 1359 (lo0 sa oa xc xm q) [] bc bs S := by
  have I0 := I
  obtain ⟨⟨hC, hM⟩, ⟨hE, hB⟩, ⟨hm, rfl, rfl⟩, ⟨k0, n0, i0⟩, ok, on⟩ := I
  have hq6 : q ≤ 600 := by omega
  refine s_aloadn dL_law_1359 rfl rfl ?_
  refine s_aloadn dL_law_1360 rfl rfl ?_
  refine s_iload dL_law_1361 rfl ?_
  refine s_iconst (v := 1) dL_law_1363 (by decide) ?_
  refine s_iadd dL_law_1364 ?_
  refine s_sald' (j := 9 * q + 1) dL_law_1365 k0 i0 (la_ix (k := 1) hq6 (by decide)) (by rw [n0]; omega) (by rw [n0]; omega) ?_
  refine s_aloadn dL_law_1366 rfl rfl ?_
  refine s_iload dL_law_1367 rfl ?_
  refine s_iconst (v := 2) dL_law_1369 (by decide) ?_
  refine s_iadd dL_law_1370 ?_
  refine s_sald' (j := 9 * q + 2) dL_law_1371 k0 i0 (la_ix (k := 2) hq6 (by decide)) (by rw [n0]; omega) (by rw [n0]; omega) ?_
  refine s_aloadn dL_law_1372 rfl rfl ?_
  have R := q_value (k := (s (9 * q + 1))) (r := (s (9 * q + 2))) hE hB
  have u : unl [(3, 1), (1, 2)] := by unfold unl; decide
  refine s_cw4G (n := 17) dL_law_1373 rfl rfl (by decide) (by decide) (Nat.le_trans (Nat.le_of_ble_eq_true rfl) hbc) (Nat.le_trans (Nat.le_of_ble_eq_true rfl) hbs) (by decide) (m_L_value ok on hC R.1) (fun r S1 hr => ?_) (fun x S1 hr => LQ.x hr)
  obtain ⟨er, S2, hP, hv⟩ := LQJ hr R.1 u
  subst er
  have po : Po oa S2 S1 := by
    rcases hv with ⟨-, e⟩ | ⟨-, e⟩
    · exact Or.inr ⟨_, e⟩
    · exact Or.inl e
  have g := PO.gp hP hm
  obtain ⟨hM1, ⟨k1, n1, i1⟩, ok1, on1⟩ := I0.mid g po
  refine s_istore dL_law_1376 (by decide) ?_
  refine s_aloadn dL_law_1378 rfl rfl ?_
  refine s_aloadn dL_law_1379 rfl rfl ?_
  refine s_iload dL_law_1380 rfl ?_
  refine s_iconst (v := 1) dL_law_1382 (by decide) ?_
  refine s_iadd dL_law_1383 ?_
  refine s_sald' (j := 9 * q + 1) dL_law_1384 k1 i1 (la_ix (k := 1) hq6 (by decide)) (by rw [n1]; omega) (by rw [n1]; omega) ?_
  refine s_aloadn dL_law_1385 rfl rfl ?_
  refine s_iload dL_law_1386 rfl ?_
  refine s_iconst (v := 2) dL_law_1388 (by decide) ?_
  refine s_iadd dL_law_1389 ?_
  refine s_sald' (j := 9 * q + 2) dL_law_1390 k1 i1 (la_ix (k := 2) hq6 (by decide)) (by rw [n1]; omega) (by rw [n1]; omega) ?_
  refine s_cv2G (n := 115) dL_law_1391 rfl (kv hM1.mm (by decide) rfl) rfl (by decide) (by decide) (Nat.zero_le _) (Nat.zero_le _) (by decide) (m_X4_value hM1 hE.1.1 hB.1.1 (hE.y hB) (hE.dd hB)) (fun r S3 hr3 => ?_) (fun x S3 hr3 => by have := hr3.1; cases this)
  obtain ⟨e3, hM3, f3⟩ := hr3
  cases e3
  refine s_lstore dL_law_1394 (by decide) ?_
  refine s_aloadn dL_law_1396 rfl rfl ?_
  refine s_cv0R (n := 98) dL_law_1397 rfl (kv hM3.mm (by decide) rfl) rfl (by decide) (by decide) (Nat.zero_le _) (Nat.zero_le _) (by decide) (m_X4_thrown hM3) ?_
  refine s_iload dL_law_1400 rfl ?_
  refine s_iceq (tgt := 1407) dL_law_1402 (by decide) (fun _ => ?_) (fun c0 => absurd rfl c0)
  refine s_iload dL_law_1407 rfl ?_
  refine s_ifne (tgt := 1423) dL_law_1409 (by decide) (fun ct => ?_) (fun ct => ?_)
  · skip
    refine s_goto (tgt := 1889) dL_law_1423 (by decide) ?_
    obtain ⟨w', I3⟩ := I0.fin g po hM3 f3 R.2.1 (by rw [R.2.2]; exact BD.up hB (by omega))
    exact s_sub (lo_has rfl rfl rfl rfl rfl) (la_b (Nat.le_of_ble_eq_true rfl)) (la_b (Nat.le_of_ble_eq_true rfl)) (kk _ _ _ _ I3)
  · obtain ⟨o1, o2, o3⟩ := I0.row g po f3
    rcases hv with ⟨-, eS⟩ | ⟨nt, -⟩
    · have ev := congrFun o3 0
      rw [eS] at ev
      have ev := ev.trans re_up1
      refine s_aloadn dL_law_1412 rfl rfl ?_
      refine s_iconst (v := 0) dL_law_1413 (by decide) ?_
      refine s_lald' (j := 0) dL_law_1414 (Or.inr (Or.inr o1)) rfl (by rw [o2]; decide) (by rw [o2]; decide) ?_
      rw [ev]
      refine s_lload dL_law_1415 rfl ?_
      refine s_lceq (tgt := 1423) dL_law_1417 dL_law_1418 (by decide) (fun _ => ?_) (fun c0 => absurd rfl c0)
      refine s_goto (tgt := 1889) dL_law_1423 (by decide) ?_
      obtain ⟨w', I3⟩ := I0.fin g po hM3 f3 R.2.1 (by rw [R.2.2]; exact BD.up hB (by omega))
      exact s_sub (lo_has rfl rfl rfl rfl rfl) (la_b (Nat.le_of_ble_eq_true rfl)) (la_b (Nat.le_of_ble_eq_true rfl)) (kk _ _ _ _ I3)
    · exact absurd ct nt
set_option maxHeartbeats 4000000 in
theorem c_L_offered {tm : Nat × Nat} {Q : Out → Sto → Prop} {sa oa xc xm len q : Nat} {s : Nat → Int32} {S : Sto} {w : CAd} {v : MAd} {c : CC} {m : MC} {bc bs : Nat} (I : LI tm sa oa xc xm len s q S w v c m) (hq : 9 * q + 9 ≤ len) (hl : len ≤ 4608) (hbc : 122 ≤ bc) (hbs : 7532 ≤ bs) (kk : ∀ S1 w1 c1 m1, LI tm sa oa xc xm len s (q + 1) S1 w1 v c1 m1 → Wp (Ev tm) tm M_L_law Q 1889 (lo0 sa oa xc xm q) [] (bc - 122) (bs - 7532) S1) : Wp (Ev tm) tm M_L_law Q 1426 (lo0 sa oa xc xm q) [] bc bs S := by
  have I0 := I
  obtain ⟨⟨hC, hM⟩, ⟨hE, hB⟩, ⟨hm, rfl, rfl⟩, ⟨k0, n0, i0⟩, ok, on⟩ := I
  have hq6 : q ≤ 600 := by omega
  refine s_aloadn dL_law_1426 rfl rfl ?_
  refine s_aloadn dL_law_1427 rfl rfl ?_
  refine s_iload dL_law_1428 rfl ?_
  refine s_iconst (v := 1) dL_law_1430 (by decide) ?_
  refine s_iadd dL_law_1431 ?_
  refine s_sald' (j := 9 * q + 1) dL_law_1432 k0 i0 (la_ix (k := 1) hq6 (by decide)) (by rw [n0]; omega) (by rw [n0]; omega) ?_
  refine s_aloadn dL_law_1433 rfl rfl ?_
  refine s_iload dL_law_1434 rfl ?_
  refine s_iconst (v := 2) dL_law_1436 (by decide) ?_
  refine s_iadd dL_law_1437 ?_
  refine s_sald' (j := 9 * q + 2) dL_law_1438 k0 i0 (la_ix (k := 2) hq6 (by decide)) (by rw [n0]; omega) (by rw [n0]; omega) ?_
  refine s_aloadn dL_law_1439 rfl rfl ?_
  refine s_iload dL_law_1440 rfl ?_
  refine s_iconst (v := 3) dL_law_1442 (by decide) ?_
  refine s_iadd dL_law_1443 ?_
  refine s_sald' (j := 9 * q + 3) dL_law_1444 k0 i0 (la_ix (k := 3) hq6 (by decide)) (by rw [n0]; omega) (by rw [n0]; omega) ?_
  refine s_aloadn dL_law_1445 rfl rfl ?_
  have R := q_offered (k := (s (9 * q + 1))) (o := (s (9 * q + 2))) (r := (s (9 * q + 3))) hE hB
  have u : unl [(3, 1), (1, 2)] := by unfold unl; decide
  refine s_cw5G (n := 18) dL_law_1446 rfl rfl (by decide) (by decide) (Nat.le_trans (Nat.le_of_ble_eq_true rfl) hbc) (Nat.le_trans (Nat.le_of_ble_eq_true rfl) hbs) (by decide) (m_L_offered ok on hC R.1) (fun r S1 hr => ?_) (fun x S1 hr => LQ.x hr)
  obtain ⟨er, S2, hP, hv⟩ := LQJ hr R.1 u
  subst er
  have po : Po oa S2 S1 := by
    rcases hv with ⟨-, e⟩ | ⟨-, e⟩
    · exact Or.inr ⟨_, e⟩
    · exact Or.inl e
  have g := PO.gp hP hm
  obtain ⟨hM1, ⟨k1, n1, i1⟩, ok1, on1⟩ := I0.mid g po
  refine s_istore dL_law_1449 (by decide) ?_
  refine s_aloadn dL_law_1451 rfl rfl ?_
  refine s_aloadn dL_law_1452 rfl rfl ?_
  refine s_iload dL_law_1453 rfl ?_
  refine s_iconst (v := 1) dL_law_1455 (by decide) ?_
  refine s_iadd dL_law_1456 ?_
  refine s_sald' (j := 9 * q + 1) dL_law_1457 k1 i1 (la_ix (k := 1) hq6 (by decide)) (by rw [n1]; omega) (by rw [n1]; omega) ?_
  refine s_aloadn dL_law_1458 rfl rfl ?_
  refine s_iload dL_law_1459 rfl ?_
  refine s_iconst (v := 2) dL_law_1461 (by decide) ?_
  refine s_iadd dL_law_1462 ?_
  refine s_sald' (j := 9 * q + 2) dL_law_1463 k1 i1 (la_ix (k := 2) hq6 (by decide)) (by rw [n1]; omega) (by rw [n1]; omega) ?_
  refine s_aloadn dL_law_1464 rfl rfl ?_
  refine s_iload dL_law_1465 rfl ?_
  refine s_iconst (v := 3) dL_law_1467 (by decide) ?_
  refine s_iadd dL_law_1468 ?_
  refine s_sald' (j := 9 * q + 3) dL_law_1469 k1 i1 (la_ix (k := 3) hq6 (by decide)) (by rw [n1]; omega) (by rw [n1]; omega) ?_
  refine s_cv3G (n := 116) dL_law_1470 rfl (kv hM1.mm (by decide) rfl) rfl (by decide) (by decide) (Nat.zero_le _) (Nat.zero_le _) (by decide) (m_X4_offered hM1 hE.1.1 hB.1.1 hE.1.2.1 hB.1.2.1 (hE.y hB) (hE.yo hB)) (fun r S3 hr3 => ?_) (fun x S3 hr3 => by have := hr3.1; cases this)
  obtain ⟨e3, hM3, f3⟩ := hr3
  cases e3
  refine s_lstore dL_law_1473 (by decide) ?_
  refine s_aloadn dL_law_1475 rfl rfl ?_
  refine s_cv0R (n := 98) dL_law_1476 rfl (kv hM3.mm (by decide) rfl) rfl (by decide) (by decide) (Nat.zero_le _) (Nat.zero_le _) (by decide) (m_X4_thrown hM3) ?_
  refine s_iload dL_law_1479 rfl ?_
  refine s_iceq (tgt := 1486) dL_law_1481 (by decide) (fun _ => ?_) (fun c0 => absurd rfl c0)
  refine s_iload dL_law_1486 rfl ?_
  refine s_ifne (tgt := 1502) dL_law_1488 (by decide) (fun ct => ?_) (fun ct => ?_)
  · skip
    refine s_goto (tgt := 1889) dL_law_1502 (by decide) ?_
    obtain ⟨w', I3⟩ := I0.fin g po hM3 f3 R.2.1 (by rw [R.2.2]; exact BD.up hB (by omega))
    exact s_sub (lo_has rfl rfl rfl rfl rfl) (la_b (Nat.le_of_ble_eq_true rfl)) (la_b (Nat.le_of_ble_eq_true rfl)) (kk _ _ _ _ I3)
  · obtain ⟨o1, o2, o3⟩ := I0.row g po f3
    rcases hv with ⟨-, eS⟩ | ⟨nt, -⟩
    · have ev := congrFun o3 0
      rw [eS] at ev
      have ev := ev.trans re_up1
      refine s_aloadn dL_law_1491 rfl rfl ?_
      refine s_iconst (v := 0) dL_law_1492 (by decide) ?_
      refine s_lald' (j := 0) dL_law_1493 (Or.inr (Or.inr o1)) rfl (by rw [o2]; decide) (by rw [o2]; decide) ?_
      rw [ev]
      refine s_lload dL_law_1494 rfl ?_
      refine s_lceq (tgt := 1502) dL_law_1496 dL_law_1497 (by decide) (fun _ => ?_) (fun c0 => absurd rfl c0)
      refine s_goto (tgt := 1889) dL_law_1502 (by decide) ?_
      obtain ⟨w', I3⟩ := I0.fin g po hM3 f3 R.2.1 (by rw [R.2.2]; exact BD.up hB (by omega))
      exact s_sub (lo_has rfl rfl rfl rfl rfl) (la_b (Nat.le_of_ble_eq_true rfl)) (la_b (Nat.le_of_ble_eq_true rfl)) (kk _ _ _ _ I3)
    · exact absurd ct nt
set_option maxHeartbeats 4000000 in
theorem c_L_effort {tm : Nat × Nat} {Q : Out → Sto → Prop} {sa oa xc xm len q : Nat} {s : Nat → Int32} {S : Sto} {w : CAd} {v : MAd} {c : CC} {m : MC} {bc bs : Nat} (I : LI tm sa oa xc xm len s q S w v c m) (hq : 9 * q + 9 ≤ len) (hl : len ≤ 4608) (hbc : 122 ≤ bc) (hbs : 7532 ≤ bs) (kk : ∀ S1 w1 c1 m1, LI tm sa oa xc xm len s (q + 1) S1 w1 v c1 m1 → Wp (Ev tm) tm M_L_law Q 1889 (lo0 sa oa xc xm q) [] (bc - 122) (bs - 7532) S1) : Wp (Ev tm) tm M_L_law Q 1505 (lo0 sa oa xc xm q) [] bc bs S := by
  have I0 := I
  obtain ⟨⟨hC, hM⟩, ⟨hE, hB⟩, ⟨hm, rfl, rfl⟩, ⟨k0, n0, i0⟩, ok, on⟩ := I
  have hq6 : q ≤ 600 := by omega
  refine s_aloadn dL_law_1505 rfl rfl ?_
  refine s_aloadn dL_law_1506 rfl rfl ?_
  refine s_iload dL_law_1507 rfl ?_
  refine s_iconst (v := 1) dL_law_1509 (by decide) ?_
  refine s_iadd dL_law_1510 ?_
  refine s_sald' (j := 9 * q + 1) dL_law_1511 k0 i0 (la_ix (k := 1) hq6 (by decide)) (by rw [n0]; omega) (by rw [n0]; omega) ?_
  refine s_aloadn dL_law_1512 rfl rfl ?_
  have R := q_effort (k := (s (9 * q + 1))) hE hB
  have u : unl [(3, 1)] := by unfold unl; decide
  refine s_cw3G (n := 19) dL_law_1513 rfl rfl (by decide) (by decide) (Nat.le_trans (Nat.le_of_ble_eq_true rfl) hbc) (Nat.le_trans (Nat.le_of_ble_eq_true rfl) hbs) (by decide) (m_L_effort ok on hC R.1) (fun r S1 hr => ?_) (fun x S1 hr => LQ.x hr)
  obtain ⟨er, S2, hP, hv⟩ := LQI hr R.1 u
  subst er
  have po : Po oa S2 S1 := by
    rcases hv with ⟨-, e⟩ | ⟨-, e⟩
    · exact Or.inr ⟨_, e⟩
    · exact Or.inl e
  have g := PO.gp hP hm
  obtain ⟨hM1, ⟨k1, n1, i1⟩, ok1, on1⟩ := I0.mid g po
  refine s_istore dL_law_1516 (by decide) ?_
  refine s_aloadn dL_law_1518 rfl rfl ?_
  refine s_aloadn dL_law_1519 rfl rfl ?_
  refine s_iload dL_law_1520 rfl ?_
  refine s_iconst (v := 1) dL_law_1522 (by decide) ?_
  refine s_iadd dL_law_1523 ?_
  refine s_sald' (j := 9 * q + 1) dL_law_1524 k1 i1 (la_ix (k := 1) hq6 (by decide)) (by rw [n1]; omega) (by rw [n1]; omega) ?_
  refine s_cv1G (n := 117) dL_law_1525 rfl (kv hM1.mm (by decide) rfl) rfl (by decide) (by decide) (Nat.zero_le _) (Nat.zero_le _) (by decide) (m_X4_effort hM1 ) (fun r S3 hr3 => ?_) (fun x S3 hr3 => by have := hr3.1; cases this)
  obtain ⟨e3, hM3, f3⟩ := hr3
  cases e3
  refine s_istore dL_law_1528 (by decide) ?_
  refine s_aloadn dL_law_1530 rfl rfl ?_
  refine s_cv0R (n := 98) dL_law_1531 rfl (kv hM3.mm (by decide) rfl) rfl (by decide) (by decide) (Nat.zero_le _) (Nat.zero_le _) (by decide) (m_X4_thrown hM3) ?_
  refine s_iload dL_law_1534 rfl ?_
  refine s_iceq (tgt := 1541) dL_law_1536 (by decide) (fun _ => ?_) (fun c0 => absurd rfl c0)
  refine s_iload dL_law_1541 rfl ?_
  refine s_ifne (tgt := 1558) dL_law_1543 (by decide) (fun ct => ?_) (fun ct => ?_)
  · skip
    refine s_goto (tgt := 1889) dL_law_1558 (by decide) ?_
    obtain ⟨w', I3⟩ := I0.fin g po hM3 f3 R.2.1 (by rw [R.2.2]; exact BD.up hB (by omega))
    exact s_sub (lo_has rfl rfl rfl rfl rfl) (la_b (Nat.le_of_ble_eq_true rfl)) (la_b (Nat.le_of_ble_eq_true rfl)) (kk _ _ _ _ I3)
  · obtain ⟨o1, o2, o3⟩ := I0.row g po f3
    rcases hv with ⟨-, eS⟩ | ⟨nt, -⟩
    · have ev := congrFun o3 0
      rw [eS] at ev
      have ev := ev.trans re_up1
      refine s_aloadn dL_law_1546 rfl rfl ?_
      refine s_iconst (v := 0) dL_law_1547 (by decide) ?_
      refine s_lald' (j := 0) dL_law_1548 (Or.inr (Or.inr o1)) rfl (by rw [o2]; decide) (by rw [o2]; decide) ?_
      rw [ev]
      refine s_iload dL_law_1549 rfl ?_
      refine s_i2l dL_law_1551 ?_
      refine s_lceq (tgt := 1558) dL_law_1552 dL_law_1553 (by decide) (fun _ => ?_) (fun c0 => absurd rfl c0)
      refine s_goto (tgt := 1889) dL_law_1558 (by decide) ?_
      obtain ⟨w', I3⟩ := I0.fin g po hM3 f3 R.2.1 (by rw [R.2.2]; exact BD.up hB (by omega))
      exact s_sub (lo_has rfl rfl rfl rfl rfl) (la_b (Nat.le_of_ble_eq_true rfl)) (la_b (Nat.le_of_ble_eq_true rfl)) (kk _ _ _ _ I3)
    · exact absurd ct nt
set_option maxHeartbeats 4000000 in
theorem c_L_areAlike {tm : Nat × Nat} {Q : Out → Sto → Prop} {sa oa xc xm len q : Nat} {s : Nat → Int32} {S : Sto} {w : CAd} {v : MAd} {c : CC} {m : MC} {bc bs : Nat} (I : LI tm sa oa xc xm len s q S w v c m) (hq : 9 * q + 9 ≤ len) (hl : len ≤ 4608) (hbc : 122 ≤ bc) (hbs : 7532 ≤ bs) (kk : ∀ S1 w1 c1 m1, LI tm sa oa xc xm len s (q + 1) S1 w1 v c1 m1 → Wp (Ev tm) tm M_L_law Q 1889 (lo0 sa oa xc xm q) [] (bc - 122) (bs - 7532) S1) : Wp (Ev tm) tm M_L_law Q 1561 (lo0 sa oa xc xm q) [] bc bs S := by
  have I0 := I
  obtain ⟨⟨hC, hM⟩, ⟨hE, hB⟩, ⟨hm, rfl, rfl⟩, ⟨k0, n0, i0⟩, ok, on⟩ := I
  have hq6 : q ≤ 600 := by omega
  obtain ⟨r1, r2⟩ := q_alike hE hB
  refine s_aloadn dL_law_1561 rfl rfl ?_
  refine s_cv0R (n := 118) dL_law_1562 rfl (kv hC.th (by decide) rfl) rfl (by decide) (by decide) (Nat.zero_le _) (Nat.zero_le _) (by decide) (m_X3_areAlike hC) ?_
  refine s_aloadn dL_law_1565 rfl rfl ?_
  refine s_cv0G (n := 119) dL_law_1566 rfl (kv hM.mm (by decide) rfl) rfl (by decide) (by decide) (Nat.zero_le _) (Nat.zero_le _) (by show (1 : Nat) ≤ 8; decide) (m_X4_areAlike hM) (fun r S3 hr3 => ?_) (fun x S3 hr3 => by have := hr3.1; cases this)
  obtain ⟨e3, hM3, f3⟩ := hr3
  cases e3
  refine s_iceq (tgt := 1889) dL_law_1569 (by decide) (fun _ => ?_) (fun c0 => absurd r1.symm c0)
  have g : GP tm w.th w.n w.no w.nt c S S := ⟨w, rfl, rfl, rfl, rfl, hm, hC, FrC.rf⟩
  obtain ⟨w', I3⟩ := I0.fin g (Or.inl rfl) hM3 f3 r2 (BD.up hB (by omega))
  exact s_sub (lo_has rfl rfl rfl rfl rfl) (by show bc - 122 ≤ bc - 0 - 0; omega) (by show bs - 7532 ≤ bs - 0 - 0; omega) (kk _ _ _ _ I3)
set_option maxHeartbeats 4000000 in
theorem c_L_passes {tm : Nat × Nat} {Q : Out → Sto → Prop} {sa oa xc xm len q : Nat} {s : Nat → Int32} {S : Sto} {w : CAd} {v : MAd} {c : CC} {m : MC} {bc bs : Nat} (I : LI tm sa oa xc xm len s q S w v c m) (hq : 9 * q + 9 ≤ len) (hl : len ≤ 4608) (hbc : 122 ≤ bc) (hbs : 7532 ≤ bs) (kk : ∀ S1 w1 c1 m1, LI tm sa oa xc xm len s (q + 1) S1 w1 v c1 m1 → Wp (Ev tm) tm M_L_law Q 1889 (lo0 sa oa xc xm q) [] (bc - 122) (bs - 7532) S1) : Wp (Ev tm) tm M_L_law Q 1574 (lo0 sa oa xc xm q) [] bc bs S := by
  have I0 := I
  obtain ⟨⟨hC, hM⟩, ⟨hE, hB⟩, ⟨hm, rfl, rfl⟩, ⟨k0, n0, i0⟩, ok, on⟩ := I
  have hq6 : q ≤ 600 := by omega
  refine s_aloadn dL_law_1574 rfl rfl ?_
  refine s_aloadn dL_law_1575 rfl rfl ?_
  refine s_iload dL_law_1576 rfl ?_
  refine s_iconst (v := 1) dL_law_1578 (by decide) ?_
  refine s_iadd dL_law_1579 ?_
  refine s_sald' (j := 9 * q + 1) dL_law_1580 k0 i0 (la_ix (k := 1) hq6 (by decide)) (by rw [n0]; omega) (by rw [n0]; omega) ?_
  refine s_aloadn dL_law_1581 rfl rfl ?_
  refine s_iload dL_law_1582 rfl ?_
  refine s_iconst (v := 2) dL_law_1584 (by decide) ?_
  refine s_iadd dL_law_1585 ?_
  refine s_sald' (j := 9 * q + 2) dL_law_1586 k0 i0 (la_ix (k := 2) hq6 (by decide)) (by rw [n0]; omega) (by rw [n0]; omega) ?_
  refine s_aloadn dL_law_1587 rfl rfl ?_
  have R := q_passes (o := (s (9 * q + 1))) (s := (s (9 * q + 2))) hE hB
  have u : unl [(3, 1)] := by unfold unl; decide
  refine s_cw4G (n := 20) dL_law_1588 rfl rfl (by decide) (by decide) (Nat.le_trans (Nat.le_of_ble_eq_true rfl) hbc) (Nat.le_trans (Nat.le_of_ble_eq_true rfl) hbs) (by decide) (m_L_passes ok on hC R.1) (fun r S1 hr => ?_) (fun x S1 hr => LQ.x hr)
  obtain ⟨er, S2, hP, hv⟩ := LQI hr R.1 u
  subst er
  have po : Po oa S2 S1 := by
    rcases hv with ⟨-, e⟩ | ⟨-, e⟩
    · exact Or.inr ⟨_, e⟩
    · exact Or.inl e
  have g := PO.gp hP hm
  obtain ⟨hM1, ⟨k1, n1, i1⟩, ok1, on1⟩ := I0.mid g po
  refine s_istore dL_law_1591 (by decide) ?_
  refine s_aloadn dL_law_1593 rfl rfl ?_
  refine s_aloadn dL_law_1594 rfl rfl ?_
  refine s_iload dL_law_1595 rfl ?_
  refine s_iconst (v := 1) dL_law_1597 (by decide) ?_
  refine s_iadd dL_law_1598 ?_
  refine s_sald' (j := 9 * q + 1) dL_law_1599 k1 i1 (la_ix (k := 1) hq6 (by decide)) (by rw [n1]; omega) (by rw [n1]; omega) ?_
  refine s_aloadn dL_law_1600 rfl rfl ?_
  refine s_iload dL_law_1601 rfl ?_
  refine s_iconst (v := 2) dL_law_1603 (by decide) ?_
  refine s_iadd dL_law_1604 ?_
  refine s_sald' (j := 9 * q + 2) dL_law_1605 k1 i1 (la_ix (k := 2) hq6 (by decide)) (by rw [n1]; omega) (by rw [n1]; omega) ?_
  refine s_cv2G (n := 120) dL_law_1606 rfl (kv hM1.mm (by decide) rfl) rfl (by decide) (by decide) (Nat.zero_le _) (Nat.zero_le _) (by decide) (m_X4_passes hM1 hE.1.1 hB.1.1 hE.1.2.1 hB.1.2.1) (fun r S3 hr3 => ?_) (fun x S3 hr3 => by have := hr3.1; cases this)
  obtain ⟨e3, hM3, f3⟩ := hr3
  cases e3
  refine s_istore dL_law_1609 (by decide) ?_
  refine s_aloadn dL_law_1611 rfl rfl ?_
  refine s_cv0R (n := 98) dL_law_1612 rfl (kv hM3.mm (by decide) rfl) rfl (by decide) (by decide) (Nat.zero_le _) (Nat.zero_le _) (by decide) (m_X4_thrown hM3) ?_
  refine s_iload dL_law_1615 rfl ?_
  refine s_iceq (tgt := 1622) dL_law_1617 (by decide) (fun _ => ?_) (fun c0 => absurd rfl c0)
  refine s_iload dL_law_1622 rfl ?_
  refine s_ifne (tgt := 1646) dL_law_1624 (by decide) (fun ct => ?_) (fun ct => ?_)
  · skip
    refine s_goto (tgt := 1889) dL_law_1646 (by decide) ?_
    obtain ⟨w', I3⟩ := I0.fin g po hM3 f3 R.2.1 (by rw [R.2.2]; exact BD.up hB (by omega))
    exact s_sub (lo_has rfl rfl rfl rfl rfl) (la_b (Nat.le_of_ble_eq_true rfl)) (la_b (Nat.le_of_ble_eq_true rfl)) (kk _ _ _ _ I3)
  · obtain ⟨o1, o2, o3⟩ := I0.row g po f3
    rcases hv with ⟨-, eS⟩ | ⟨nt, -⟩
    · have ev := congrFun o3 0
      rw [eS] at ev
      have ev := ev.trans re_up1
      refine s_aloadn dL_law_1627 rfl rfl ?_
      refine s_iconst (v := 0) dL_law_1628 (by decide) ?_
      refine s_lald' (j := 0) dL_law_1629 (Or.inr (Or.inr o1)) rfl (by rw [o2]; decide) (by rw [o2]; decide) ?_
      rw [ev]
      refine s_iload dL_law_1630 rfl ?_
      refine s_ifeq (tgt := 1639) dL_law_1632 (by decide) (fun cb => ?_) (fun cb => ?_)
      · refine s_lconst (v := 0) dL_law_1639 (by decide) ?_
        refine s_lceq (tgt := 1646) dL_law_1640 dL_law_1641 (by decide) (fun _ => ?_) (fun c0 => absurd (if_pos cb) c0)
        refine s_goto (tgt := 1889) dL_law_1646 (by decide) ?_
        obtain ⟨w', I3⟩ := I0.fin g po hM3 f3 R.2.1 (by rw [R.2.2]; exact BD.up hB (by omega))
        exact s_sub (lo_has rfl rfl rfl rfl rfl) (la_b (Nat.le_of_ble_eq_true rfl)) (la_b (Nat.le_of_ble_eq_true rfl)) (kk _ _ _ _ I3)
      · refine s_lconst (v := 1) dL_law_1635 (by decide) ?_
        refine s_goto (tgt := 1640) dL_law_1636 (by decide) ?_
        refine s_lceq (tgt := 1646) dL_law_1640 dL_law_1641 (by decide) (fun _ => ?_) (fun c0 => absurd (if_neg cb) c0)
        refine s_goto (tgt := 1889) dL_law_1646 (by decide) ?_
        obtain ⟨w', I3⟩ := I0.fin g po hM3 f3 R.2.1 (by rw [R.2.2]; exact BD.up hB (by omega))
        exact s_sub (lo_has rfl rfl rfl rfl rfl) (la_b (Nat.le_of_ble_eq_true rfl)) (la_b (Nat.le_of_ble_eq_true rfl)) (kk _ _ _ _ I3)
    · exact absurd ct nt
set_option maxHeartbeats 4000000 in
theorem c_L_isBearable {tm : Nat × Nat} {Q : Out → Sto → Prop} {sa oa xc xm len q : Nat} {s : Nat → Int32} {S : Sto} {w : CAd} {v : MAd} {c : CC} {m : MC} {bc bs : Nat} (I : LI tm sa oa xc xm len s q S w v c m) (hq : 9 * q + 9 ≤ len) (hl : len ≤ 4608) (hbc : 122 ≤ bc) (hbs : 7532 ≤ bs) (kk : ∀ S1 w1 c1 m1, LI tm sa oa xc xm len s (q + 1) S1 w1 v c1 m1 → Wp (Ev tm) tm M_L_law Q 1889 (lo0 sa oa xc xm q) [] (bc - 122) (bs - 7532) S1) : Wp (Ev tm) tm M_L_law Q 1649 (lo0 sa oa xc xm q) [] bc bs S := by
  have I0 := I
  obtain ⟨⟨hC, hM⟩, ⟨hE, hB⟩, ⟨hm, rfl, rfl⟩, ⟨k0, n0, i0⟩, ok, on⟩ := I
  have hq6 : q ≤ 600 := by omega
  refine s_aloadn dL_law_1649 rfl rfl ?_
  refine s_aloadn dL_law_1650 rfl rfl ?_
  refine s_iload dL_law_1651 rfl ?_
  refine s_iconst (v := 1) dL_law_1653 (by decide) ?_
  refine s_iadd dL_law_1654 ?_
  refine s_sald' (j := 9 * q + 1) dL_law_1655 k0 i0 (la_ix (k := 1) hq6 (by decide)) (by rw [n0]; omega) (by rw [n0]; omega) ?_
  refine s_aloadn dL_law_1656 rfl rfl ?_
  have R := q_bear (y := (s (9 * q + 1))) hE hB
  have u : unl [(1, 1)] := by unfold unl; decide
  refine s_cw3G (n := 21) dL_law_1657 rfl rfl (by decide) (by decide) (Nat.le_trans (Nat.le_of_ble_eq_true rfl) hbc) (Nat.le_trans (Nat.le_of_ble_eq_true rfl) hbs) (by decide) (m_L_isBearable ok on hC R.1) (fun r S1 hr => ?_) (fun x S1 hr => LQ.x hr)
  obtain ⟨er, S2, hP, hv⟩ := LQI hr R.1 u
  subst er
  have po : Po oa S2 S1 := by
    rcases hv with ⟨-, e⟩ | ⟨-, e⟩
    · exact Or.inr ⟨_, e⟩
    · exact Or.inl e
  have g := PO.gp hP hm
  obtain ⟨hM1, ⟨k1, n1, i1⟩, ok1, on1⟩ := I0.mid g po
  refine s_istore dL_law_1660 (by decide) ?_
  refine s_aloadn dL_law_1662 rfl rfl ?_
  refine s_aloadn dL_law_1663 rfl rfl ?_
  refine s_iload dL_law_1664 rfl ?_
  refine s_iconst (v := 1) dL_law_1666 (by decide) ?_
  refine s_iadd dL_law_1667 ?_
  refine s_sald' (j := 9 * q + 1) dL_law_1668 k1 i1 (la_ix (k := 1) hq6 (by decide)) (by rw [n1]; omega) (by rw [n1]; omega) ?_
  refine s_cv1G (n := 121) dL_law_1669 rfl (kv hM1.mm (by decide) rfl) rfl (by decide) (by decide) (Nat.zero_le _) (Nat.zero_le _) (by decide) (m_X4_isBearable hM1 hE.1.1 hB.1.1 (fun hi => (re_bearable hE.1 hB (Decidable.not_not.mp (fun e => hi (re_in.mpr e)))).2.2) (hE.out hB)) (fun r S3 hr3 => ?_) (fun x S3 hr3 => by have := hr3.1; cases this)
  obtain ⟨e3, hM3, f3⟩ := hr3
  cases e3
  refine s_istore dL_law_1672 (by decide) ?_
  refine s_aloadn dL_law_1674 rfl rfl ?_
  refine s_cv0R (n := 98) dL_law_1675 rfl (kv hM3.mm (by decide) rfl) rfl (by decide) (by decide) (Nat.zero_le _) (Nat.zero_le _) (by decide) (m_X4_thrown hM3) ?_
  refine s_iload dL_law_1678 rfl ?_
  refine s_iceq (tgt := 1685) dL_law_1680 (by decide) (fun _ => ?_) (fun c0 => absurd rfl c0)
  refine s_iload dL_law_1685 rfl ?_
  refine s_ifne (tgt := 1709) dL_law_1687 (by decide) (fun ct => ?_) (fun ct => ?_)
  · skip
    refine s_goto (tgt := 1889) dL_law_1709 (by decide) ?_
    obtain ⟨w', I3⟩ := I0.fin g po hM3 f3 R.2.1 (by rw [R.2.2]; exact BD.up hB (by omega))
    exact s_sub (lo_has rfl rfl rfl rfl rfl) (la_b (Nat.le_of_ble_eq_true rfl)) (la_b (Nat.le_of_ble_eq_true rfl)) (kk _ _ _ _ I3)
  · obtain ⟨o1, o2, o3⟩ := I0.row g po f3
    rcases hv with ⟨-, eS⟩ | ⟨nt, -⟩
    · have ev := congrFun o3 0
      rw [eS] at ev
      have ev := ev.trans re_up1
      refine s_aloadn dL_law_1690 rfl rfl ?_
      refine s_iconst (v := 0) dL_law_1691 (by decide) ?_
      refine s_lald' (j := 0) dL_law_1692 (Or.inr (Or.inr o1)) rfl (by rw [o2]; decide) (by rw [o2]; decide) ?_
      rw [ev]
      refine s_iload dL_law_1693 rfl ?_
      refine s_ifeq (tgt := 1702) dL_law_1695 (by decide) (fun cb => ?_) (fun cb => ?_)
      · refine s_lconst (v := 0) dL_law_1702 (by decide) ?_
        refine s_lceq (tgt := 1709) dL_law_1703 dL_law_1704 (by decide) (fun _ => ?_) (fun c0 => absurd (if_pos cb) c0)
        refine s_goto (tgt := 1889) dL_law_1709 (by decide) ?_
        obtain ⟨w', I3⟩ := I0.fin g po hM3 f3 R.2.1 (by rw [R.2.2]; exact BD.up hB (by omega))
        exact s_sub (lo_has rfl rfl rfl rfl rfl) (la_b (Nat.le_of_ble_eq_true rfl)) (la_b (Nat.le_of_ble_eq_true rfl)) (kk _ _ _ _ I3)
      · refine s_lconst (v := 1) dL_law_1698 (by decide) ?_
        refine s_goto (tgt := 1703) dL_law_1699 (by decide) ?_
        refine s_lceq (tgt := 1709) dL_law_1703 dL_law_1704 (by decide) (fun _ => ?_) (fun c0 => absurd (if_neg cb) c0)
        refine s_goto (tgt := 1889) dL_law_1709 (by decide) ?_
        obtain ⟨w', I3⟩ := I0.fin g po hM3 f3 R.2.1 (by rw [R.2.2]; exact BD.up hB (by omega))
        exact s_sub (lo_has rfl rfl rfl rfl rfl) (la_b (Nat.le_of_ble_eq_true rfl)) (la_b (Nat.le_of_ble_eq_true rfl)) (kk _ _ _ _ I3)
    · exact absurd ct nt
set_option maxHeartbeats 4000000 in
theorem c_L_ofClaim {tm : Nat × Nat} {Q : Out → Sto → Prop} {sa oa xc xm len q : Nat} {s : Nat → Int32} {S : Sto} {w : CAd} {v : MAd} {c : CC} {m : MC} {bc bs : Nat} (I : LI tm sa oa xc xm len s q S w v c m) (hq : 9 * q + 9 ≤ len) (hl : len ≤ 4608) (hbc : 122 ≤ bc) (hbs : 7532 ≤ bs) (kk : ∀ S1 w1 c1 m1, LI tm sa oa xc xm len s (q + 1) S1 w1 v c1 m1 → Wp (Ev tm) tm M_L_law Q 1889 (lo0 sa oa xc xm q) [] (bc - 122) (bs - 7532) S1) : Wp (Ev tm) tm M_L_law Q 1712 (lo0 sa oa xc xm q) [] bc bs S := by
  have I0 := I
  obtain ⟨⟨hC, hM⟩, ⟨hE, hB⟩, ⟨hm, rfl, rfl⟩, ⟨k0, n0, i0⟩, ok, on⟩ := I
  have hq6 : q ≤ 600 := by omega
  refine s_aloadn dL_law_1712 rfl rfl ?_
  refine s_aloadn dL_law_1713 rfl rfl ?_
  refine s_iload dL_law_1714 rfl ?_
  refine s_iconst (v := 1) dL_law_1716 (by decide) ?_
  refine s_iadd dL_law_1717 ?_
  refine s_sald' (j := 9 * q + 1) dL_law_1718 k0 i0 (la_ix (k := 1) hq6 (by decide)) (by rw [n0]; omega) (by rw [n0]; omega) ?_
  refine s_aloadn dL_law_1719 rfl rfl ?_
  refine s_iload dL_law_1720 rfl ?_
  refine s_iconst (v := 2) dL_law_1722 (by decide) ?_
  refine s_iadd dL_law_1723 ?_
  refine s_sald' (j := 9 * q + 2) dL_law_1724 k0 i0 (la_ix (k := 2) hq6 (by decide)) (by rw [n0]; omega) (by rw [n0]; omega) ?_
  refine s_aloadn dL_law_1725 rfl rfl ?_
  have R := q_ofClaim (k := (s (9 * q + 1))) (q := (s (9 * q + 2))) hE hB
  have u : unl [(3, 1), (1, 2)] := by unfold unl; decide
  refine s_cw4G (n := 22) dL_law_1726 rfl rfl (by decide) (by decide) (Nat.le_trans (Nat.le_of_ble_eq_true rfl) hbc) (Nat.le_trans (Nat.le_of_ble_eq_true rfl) hbs) (by decide) (m_L_ofClaim ok on hC R.1) (fun r S1 hr => ?_) (fun x S1 hr => LQ.x hr)
  obtain ⟨er, S2, hP, hv⟩ := LQJ hr R.1 u
  subst er
  have po : Po oa S2 S1 := by
    rcases hv with ⟨-, e⟩ | ⟨-, e⟩
    · exact Or.inr ⟨_, e⟩
    · exact Or.inl e
  have g := PO.gp hP hm
  obtain ⟨hM1, ⟨k1, n1, i1⟩, ok1, on1⟩ := I0.mid g po
  refine s_istore dL_law_1729 (by decide) ?_
  refine s_aloadn dL_law_1731 rfl rfl ?_
  refine s_aloadn dL_law_1732 rfl rfl ?_
  refine s_iload dL_law_1733 rfl ?_
  refine s_iconst (v := 1) dL_law_1735 (by decide) ?_
  refine s_iadd dL_law_1736 ?_
  refine s_sald' (j := 9 * q + 1) dL_law_1737 k1 i1 (la_ix (k := 1) hq6 (by decide)) (by rw [n1]; omega) (by rw [n1]; omega) ?_
  refine s_aloadn dL_law_1738 rfl rfl ?_
  refine s_iload dL_law_1739 rfl ?_
  refine s_iconst (v := 2) dL_law_1741 (by decide) ?_
  refine s_iadd dL_law_1742 ?_
  refine s_sald' (j := 9 * q + 2) dL_law_1743 k1 i1 (la_ix (k := 2) hq6 (by decide)) (by rw [n1]; omega) (by rw [n1]; omega) ?_
  refine s_cv2G (n := 122) dL_law_1744 rfl (kv hM1.mm (by decide) rfl) rfl (by decide) (by decide) (Nat.zero_le _) (Nat.zero_le _) (by decide) (m_X4_ofClaim hM1 hE.1.1 hB.1.1) (fun r S3 hr3 => ?_) (fun x S3 hr3 => by have := hr3.1; cases this)
  obtain ⟨e3, hM3, f3⟩ := hr3
  cases e3
  refine s_lstore dL_law_1747 (by decide) ?_
  refine s_aloadn dL_law_1749 rfl rfl ?_
  refine s_cv0R (n := 98) dL_law_1750 rfl (kv hM3.mm (by decide) rfl) rfl (by decide) (by decide) (Nat.zero_le _) (Nat.zero_le _) (by decide) (m_X4_thrown hM3) ?_
  refine s_iload dL_law_1753 rfl ?_
  refine s_iceq (tgt := 1760) dL_law_1755 (by decide) (fun _ => ?_) (fun c0 => absurd rfl c0)
  refine s_iload dL_law_1760 rfl ?_
  refine s_ifne (tgt := 1776) dL_law_1762 (by decide) (fun ct => ?_) (fun ct => ?_)
  · skip
    refine s_goto (tgt := 1889) dL_law_1776 (by decide) ?_
    obtain ⟨w', I3⟩ := I0.fin g po hM3 f3 R.2.1 (by rw [R.2.2]; exact BD.up hB (by omega))
    exact s_sub (lo_has rfl rfl rfl rfl rfl) (la_b (Nat.le_of_ble_eq_true rfl)) (la_b (Nat.le_of_ble_eq_true rfl)) (kk _ _ _ _ I3)
  · obtain ⟨o1, o2, o3⟩ := I0.row g po f3
    rcases hv with ⟨-, eS⟩ | ⟨nt, -⟩
    · have ev := congrFun o3 0
      rw [eS] at ev
      have ev := ev.trans re_up1
      refine s_aloadn dL_law_1765 rfl rfl ?_
      refine s_iconst (v := 0) dL_law_1766 (by decide) ?_
      refine s_lald' (j := 0) dL_law_1767 (Or.inr (Or.inr o1)) rfl (by rw [o2]; decide) (by rw [o2]; decide) ?_
      rw [ev]
      refine s_lload dL_law_1768 rfl ?_
      refine s_lceq (tgt := 1776) dL_law_1770 dL_law_1771 (by decide) (fun _ => ?_) (fun c0 => absurd rfl c0)
      refine s_goto (tgt := 1889) dL_law_1776 (by decide) ?_
      obtain ⟨w', I3⟩ := I0.fin g po hM3 f3 R.2.1 (by rw [R.2.2]; exact BD.up hB (by omega))
      exact s_sub (lo_has rfl rfl rfl rfl rfl) (la_b (Nat.le_of_ble_eq_true rfl)) (la_b (Nat.le_of_ble_eq_true rfl)) (kk _ _ _ _ I3)
    · exact absurd ct nt
set_option maxHeartbeats 4000000 in
theorem c_L_paidAnew {tm : Nat × Nat} {Q : Out → Sto → Prop} {sa oa xc xm len q : Nat} {s : Nat → Int32} {S : Sto} {w : CAd} {v : MAd} {c : CC} {m : MC} {bc bs : Nat} (I : LI tm sa oa xc xm len s q S w v c m) (hq : 9 * q + 9 ≤ len) (hl : len ≤ 4608) (hbc : 122 ≤ bc) (hbs : 7532 ≤ bs) (kk : ∀ S1 w1 c1 m1, LI tm sa oa xc xm len s (q + 1) S1 w1 v c1 m1 → Wp (Ev tm) tm M_L_law Q 1889 (lo0 sa oa xc xm q) [] (bc - 122) (bs - 7532) S1) : Wp (Ev tm) tm M_L_law Q 1779 (lo0 sa oa xc xm q) [] bc bs S := by
  have I0 := I
  obtain ⟨⟨hC, hM⟩, ⟨hE, hB⟩, ⟨hm, rfl, rfl⟩, ⟨k0, n0, i0⟩, ok, on⟩ := I
  have hq6 : q ≤ 600 := by omega
  refine s_aloadn dL_law_1779 rfl rfl ?_
  refine s_aloadn dL_law_1780 rfl rfl ?_
  refine s_iload dL_law_1781 rfl ?_
  refine s_iconst (v := 1) dL_law_1783 (by decide) ?_
  refine s_iadd dL_law_1784 ?_
  refine s_sald' (j := 9 * q + 1) dL_law_1785 k0 i0 (la_ix (k := 1) hq6 (by decide)) (by rw [n0]; omega) (by rw [n0]; omega) ?_
  refine s_aloadn dL_law_1786 rfl rfl ?_
  have R := q_paid (k := (s (9 * q + 1))) hE hB
  have u : unl [(3, 1)] := by unfold unl; decide
  refine s_cw3G (n := 23) dL_law_1787 rfl rfl (by decide) (by decide) (Nat.le_trans (Nat.le_of_ble_eq_true rfl) hbc) (Nat.le_trans (Nat.le_of_ble_eq_true rfl) hbs) (by decide) (m_L_paidAnew ok on hC R.1) (fun r S1 hr => ?_) (fun x S1 hr => LQ.x hr)
  obtain ⟨er, S2, hP, hv⟩ := LQJ hr R.1 u
  subst er
  have po : Po oa S2 S1 := by
    rcases hv with ⟨-, e⟩ | ⟨-, e⟩
    · exact Or.inr ⟨_, e⟩
    · exact Or.inl e
  have g := PO.gp hP hm
  obtain ⟨hM1, ⟨k1, n1, i1⟩, ok1, on1⟩ := I0.mid g po
  refine s_istore dL_law_1790 (by decide) ?_
  refine s_aloadn dL_law_1792 rfl rfl ?_
  refine s_aloadn dL_law_1793 rfl rfl ?_
  refine s_iload dL_law_1794 rfl ?_
  refine s_iconst (v := 1) dL_law_1796 (by decide) ?_
  refine s_iadd dL_law_1797 ?_
  refine s_sald' (j := 9 * q + 1) dL_law_1798 k1 i1 (la_ix (k := 1) hq6 (by decide)) (by rw [n1]; omega) (by rw [n1]; omega) ?_
  refine s_cv1G (n := 123) dL_law_1799 rfl (kv hM1.mm (by decide) rfl) rfl (by decide) (by decide) (Nat.zero_le _) (Nat.zero_le _) (by decide) (m_X4_paidAnew hM1 hE.1.1 hB.1.1) (fun r S3 hr3 => ?_) (fun x S3 hr3 => by have := hr3.1; cases this)
  obtain ⟨e3, hM3, f3⟩ := hr3
  cases e3
  refine s_lstore dL_law_1802 (by decide) ?_
  refine s_aloadn dL_law_1804 rfl rfl ?_
  refine s_cv0R (n := 98) dL_law_1805 rfl (kv hM3.mm (by decide) rfl) rfl (by decide) (by decide) (Nat.zero_le _) (Nat.zero_le _) (by decide) (m_X4_thrown hM3) ?_
  refine s_iload dL_law_1808 rfl ?_
  refine s_iceq (tgt := 1815) dL_law_1810 (by decide) (fun _ => ?_) (fun c0 => absurd rfl c0)
  refine s_iload dL_law_1815 rfl ?_
  refine s_ifne (tgt := 1831) dL_law_1817 (by decide) (fun ct => ?_) (fun ct => ?_)
  · skip
    refine s_goto (tgt := 1889) dL_law_1831 (by decide) ?_
    obtain ⟨w', I3⟩ := I0.fin g po hM3 f3 R.2.1 (by rw [R.2.2]; exact BD.up hB (by omega))
    exact s_sub (lo_has rfl rfl rfl rfl rfl) (la_b (Nat.le_of_ble_eq_true rfl)) (la_b (Nat.le_of_ble_eq_true rfl)) (kk _ _ _ _ I3)
  · obtain ⟨o1, o2, o3⟩ := I0.row g po f3
    rcases hv with ⟨-, eS⟩ | ⟨nt, -⟩
    · have ev := congrFun o3 0
      rw [eS] at ev
      have ev := ev.trans re_up1
      refine s_aloadn dL_law_1820 rfl rfl ?_
      refine s_iconst (v := 0) dL_law_1821 (by decide) ?_
      refine s_lald' (j := 0) dL_law_1822 (Or.inr (Or.inr o1)) rfl (by rw [o2]; decide) (by rw [o2]; decide) ?_
      rw [ev]
      refine s_lload dL_law_1823 rfl ?_
      refine s_lceq (tgt := 1831) dL_law_1825 dL_law_1826 (by decide) (fun _ => ?_) (fun c0 => absurd rfl c0)
      refine s_goto (tgt := 1889) dL_law_1831 (by decide) ?_
      obtain ⟨w', I3⟩ := I0.fin g po hM3 f3 R.2.1 (by rw [R.2.2]; exact BD.up hB (by omega))
      exact s_sub (lo_has rfl rfl rfl rfl rfl) (la_b (Nat.le_of_ble_eq_true rfl)) (la_b (Nat.le_of_ble_eq_true rfl)) (kk _ _ _ _ I3)
    · exact absurd ct nt
set_option maxHeartbeats 4000000 in
theorem c_L_ofState {tm : Nat × Nat} {Q : Out → Sto → Prop} {sa oa xc xm len q : Nat} {s : Nat → Int32} {S : Sto} {w : CAd} {v : MAd} {c : CC} {m : MC} {bc bs : Nat} (I : LI tm sa oa xc xm len s q S w v c m) (hq : 9 * q + 9 ≤ len) (hl : len ≤ 4608) (hbc : 122 ≤ bc) (hbs : 7532 ≤ bs) (kk : ∀ S1 w1 c1 m1, LI tm sa oa xc xm len s (q + 1) S1 w1 v c1 m1 → Wp (Ev tm) tm M_L_law Q 1889 (lo0 sa oa xc xm q) [] (bc - 122) (bs - 7532) S1) : Wp (Ev tm) tm M_L_law Q 1834 (lo0 sa oa xc xm q) [] bc bs S := by
  have I0 := I
  obtain ⟨⟨hC, hM⟩, ⟨hE, hB⟩, ⟨hm, rfl, rfl⟩, ⟨k0, n0, i0⟩, ok, on⟩ := I
  have hq6 : q ≤ 600 := by omega
  refine s_aloadn dL_law_1834 rfl rfl ?_
  refine s_aloadn dL_law_1835 rfl rfl ?_
  refine s_iload dL_law_1836 rfl ?_
  refine s_iconst (v := 1) dL_law_1838 (by decide) ?_
  refine s_iadd dL_law_1839 ?_
  refine s_sald' (j := 9 * q + 1) dL_law_1840 k0 i0 (la_ix (k := 1) hq6 (by decide)) (by rw [n0]; omega) (by rw [n0]; omega) ?_
  refine s_aloadn dL_law_1841 rfl rfl ?_
  have R := q_ofState (q := (s (9 * q + 1))) hE hB
  have u : unl [(1, 1)] := by unfold unl; decide
  refine s_cw3G (n := 24) dL_law_1842 rfl rfl (by decide) (by decide) (Nat.le_trans (Nat.le_of_ble_eq_true rfl) hbc) (Nat.le_trans (Nat.le_of_ble_eq_true rfl) hbs) (by decide) (m_L_ofState ok on hC R.1) (fun r S1 hr => ?_) (fun x S1 hr => LQ.x hr)
  obtain ⟨er, S2, hP, hv⟩ := LQJ hr R.1 u
  subst er
  have po : Po oa S2 S1 := by
    rcases hv with ⟨-, e⟩ | ⟨-, e⟩
    · exact Or.inr ⟨_, e⟩
    · exact Or.inl e
  have g := PO.gp hP hm
  obtain ⟨hM1, ⟨k1, n1, i1⟩, ok1, on1⟩ := I0.mid g po
  refine s_istore dL_law_1845 (by decide) ?_
  refine s_aloadn dL_law_1847 rfl rfl ?_
  refine s_aloadn dL_law_1848 rfl rfl ?_
  refine s_iload dL_law_1849 rfl ?_
  refine s_iconst (v := 1) dL_law_1851 (by decide) ?_
  refine s_iadd dL_law_1852 ?_
  refine s_sald' (j := 9 * q + 1) dL_law_1853 k1 i1 (la_ix (k := 1) hq6 (by decide)) (by rw [n1]; omega) (by rw [n1]; omega) ?_
  refine s_cv1G (n := 124) dL_law_1854 rfl (kv hM1.mm (by decide) rfl) rfl (by decide) (by decide) (Nat.zero_le _) (Nat.zero_le _) (by decide) (m_X4_ofState hM1 hE.1.1 hB.1.1) (fun r S3 hr3 => ?_) (fun x S3 hr3 => by have := hr3.1; cases this)
  obtain ⟨e3, hM3, f3⟩ := hr3
  cases e3
  refine s_lstore dL_law_1857 (by decide) ?_
  refine s_aloadn dL_law_1859 rfl rfl ?_
  refine s_cv0R (n := 98) dL_law_1860 rfl (kv hM3.mm (by decide) rfl) rfl (by decide) (by decide) (Nat.zero_le _) (Nat.zero_le _) (by decide) (m_X4_thrown hM3) ?_
  refine s_iload dL_law_1863 rfl ?_
  refine s_iceq (tgt := 1870) dL_law_1865 (by decide) (fun _ => ?_) (fun c0 => absurd rfl c0)
  refine s_iload dL_law_1870 rfl ?_
  refine s_ifne (tgt := 1886) dL_law_1872 (by decide) (fun ct => ?_) (fun ct => ?_)
  · skip
    refine s_goto (tgt := 1889) dL_law_1886 (by decide) ?_
    obtain ⟨w', I3⟩ := I0.fin g po hM3 f3 R.2.1 (by rw [R.2.2]; exact BD.up hB (by omega))
    exact s_sub (lo_has rfl rfl rfl rfl rfl) (la_b (Nat.le_of_ble_eq_true rfl)) (la_b (Nat.le_of_ble_eq_true rfl)) (kk _ _ _ _ I3)
  · obtain ⟨o1, o2, o3⟩ := I0.row g po f3
    rcases hv with ⟨-, eS⟩ | ⟨nt, -⟩
    · have ev := congrFun o3 0
      rw [eS] at ev
      have ev := ev.trans re_up1
      refine s_aloadn dL_law_1875 rfl rfl ?_
      refine s_iconst (v := 0) dL_law_1876 (by decide) ?_
      refine s_lald' (j := 0) dL_law_1877 (Or.inr (Or.inr o1)) rfl (by rw [o2]; decide) (by rw [o2]; decide) ?_
      rw [ev]
      refine s_lload dL_law_1878 rfl ?_
      refine s_lceq (tgt := 1886) dL_law_1880 dL_law_1881 (by decide) (fun _ => ?_) (fun c0 => absurd rfl c0)
      refine s_goto (tgt := 1889) dL_law_1886 (by decide) ?_
      obtain ⟨w', I3⟩ := I0.fin g po hM3 f3 R.2.1 (by rw [R.2.2]; exact BD.up hB (by omega))
      exact s_sub (lo_has rfl rfl rfl rfl rfl) (la_b (Nat.le_of_ble_eq_true rfl)) (la_b (Nat.le_of_ble_eq_true rfl)) (kk _ _ _ _ I3)
    · exact absurd ct nt
