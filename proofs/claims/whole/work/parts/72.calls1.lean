/-! THE LAW, 3: its calls -/
abbrev lo0 (sa oa xc xm q : Nat) : Lv := [(4, .int (nI (9 * q))), (3, .ref oa), (2, .ref xm), (1, .ref xc), (0, .ref sa)]
theorem lo_has {sa oa xc xm q : Nat} {lo : Lv} (h0 : lget lo 0 = some (.ref sa)) (h1 : lget lo 1 = some (.ref xc)) (h2 : lget lo 2 = some (.ref xm)) (h3 : lget lo 3 = some (.ref oa)) (h4 : lget lo 4 = some (.int (nI (9 * q)))) : ∀ z ∈ lo0 sa oa xc xm q, lget lo z.1 = some z.2 :=
  List.forall_mem_cons.mpr ⟨h4, List.forall_mem_cons.mpr ⟨h3, List.forall_mem_cons.mpr ⟨h2, List.forall_mem_cons.mpr ⟨h1, List.forall_mem_cons.mpr ⟨h0, fun _ h => absurd h List.not_mem_nil⟩⟩⟩⟩⟩
set_option maxHeartbeats 4000000 in
theorem c_L_claim {tm : Nat × Nat} {Q : Out → Sto → Prop} {sa oa xc xm len q : Nat} {s : Nat → Int32} {S : Sto} {w : CAd} {v : MAd} {c : CC} {m : MC} {bc bs : Nat} (I : LI tm sa oa xc xm len s q S w v c m) (hq : 9 * q + 9 ≤ len) (hl : len ≤ 4608) (hbc : 122 ≤ bc) (hbs : 7532 ≤ bs) (kk : ∀ S1 w1 c1 m1, LI tm sa oa xc xm len s (q + 1) S1 w1 v c1 m1 → Wp (Ev tm) tm M_L_law Q 1889 (lo0 sa oa xc xm q) [] (bc - 122) (bs - 7532) S1) : Wp (Ev tm) tm M_L_law Q 160 (lo0 sa oa xc xm q) [] bc bs S := by
  have I0 := I
  obtain ⟨⟨hC, hM⟩, ⟨hE, hB⟩, ⟨hm, rfl, rfl⟩, ⟨k0, n0, i0⟩, ok, on⟩ := I
  have hq6 : q ≤ 600 := by omega
  refine s_aloadn dL_law_160 rfl rfl ?_
  refine s_aloadn dL_law_161 rfl rfl ?_
  refine s_iload dL_law_162 rfl ?_
  refine s_iconst (v := 1) dL_law_164 (by decide) ?_
  refine s_iadd dL_law_165 ?_
  refine s_sald' (j := 9 * q + 1) dL_law_166 k0 i0 (la_ix (k := 1) hq6 (by decide)) (by rw [n0]; omega) (by rw [n0]; omega) ?_
  refine s_aloadn dL_law_167 rfl rfl ?_
  refine s_iload dL_law_168 rfl ?_
  refine s_iconst (v := 2) dL_law_170 (by decide) ?_
  refine s_iadd dL_law_171 ?_
  refine s_sald' (j := 9 * q + 2) dL_law_172 k0 i0 (la_ix (k := 2) hq6 (by decide)) (by rw [n0]; omega) (by rw [n0]; omega) ?_
  refine s_aloadn dL_law_173 rfl rfl ?_
  refine s_iload dL_law_174 rfl ?_
  refine s_iconst (v := 3) dL_law_176 (by decide) ?_
  refine s_iadd dL_law_177 ?_
  refine s_sald' (j := 9 * q + 3) dL_law_178 k0 i0 (la_ix (k := 3) hq6 (by decide)) (by rw [n0]; omega) (by rw [n0]; omega) ?_
  refine s_aloadn dL_law_179 rfl rfl ?_
  refine s_iload dL_law_180 rfl ?_
  refine s_iconst (v := 4) dL_law_182 (by decide) ?_
  refine s_iadd dL_law_183 ?_
  refine s_sald' (j := 9 * q + 4) dL_law_184 k0 i0 (la_ix (k := 4) hq6 (by decide)) (by rw [n0]; omega) (by rw [n0]; omega) ?_
  refine s_aloadn dL_law_185 rfl rfl ?_
  refine s_iload dL_law_186 rfl ?_
  refine s_iconst (v := 5) dL_law_188 (by decide) ?_
  refine s_iadd dL_law_189 ?_
  refine s_sald' (j := 9 * q + 5) dL_law_190 k0 i0 (la_ix (k := 5) hq6 (by decide)) (by rw [n0]; omega) (by rw [n0]; omega) ?_
  refine s_aloadn dL_law_191 rfl rfl ?_
  refine s_iload dL_law_192 rfl ?_
  refine s_bipush (v := 6) dL_law_194 (by decide) ?_
  refine s_iadd dL_law_196 ?_
  refine s_sald' (j := 9 * q + 6) dL_law_197 k0 i0 (la_ix (k := 6) hq6 (by decide)) (by rw [n0]; omega) (by rw [n0]; omega) ?_
  refine s_aloadn dL_law_198 rfl rfl ?_
  refine s_iload dL_law_199 rfl ?_
  refine s_bipush (v := 7) dL_law_201 (by decide) ?_
  refine s_iadd dL_law_203 ?_
  refine s_sald' (j := 9 * q + 7) dL_law_204 k0 i0 (la_ix (k := 7) hq6 (by decide)) (by rw [n0]; omega) (by rw [n0]; omega) ?_
  refine s_aloadn dL_law_205 rfl rfl ?_
  refine s_iload dL_law_206 rfl ?_
  refine s_bipush (v := 8) dL_law_208 (by decide) ?_
  refine s_iadd dL_law_210 ?_
  refine s_sald' (j := 9 * q + 8) dL_law_211 k0 i0 (la_ix (k := 8) hq6 (by decide)) (by rw [n0]; omega) (by rw [n0]; omega) ?_
  refine s_ifeq (tgt := 219) dL_law_212 (by decide) (fun cz => ?_) (fun cz => ?_)
  · have hz : (0 : Int32) = 0 ∨ (0 : Int32) = 1 := Or.inl rfl
    refine s_iconst (v := 0) dL_law_219 (by decide) ?_
    refine s_aloadn dL_law_220 rfl rfl ?_
    have R := q_claim (kd := (s (9 * q + 1))) (ld := (s (9 * q + 2))) (p := (s (9 * q + 3))) (q := (s (9 * q + 4))) (y := (s (9 * q + 5))) (rk := (s (9 * q + 6))) (sr := (s (9 * q + 7))) (z := 0) hz hE hB
    have u : unl [(1, 1), (2, 2)] := by unfold unl; decide
    refine s_cw10G (n := 0) dL_law_221 rfl rfl (by decide) (by decide) (Nat.le_trans (Nat.le_of_ble_eq_true rfl) hbc) (Nat.le_trans (Nat.le_of_ble_eq_true rfl) hbs) (by decide) (m_L_claim ok on hC hm hz R.1) (fun r S1 hr => ?_) (fun x S1 hr => LQ.x hr)
    obtain ⟨er, S2, hP, hv⟩ := LQI hr R.1 u
    subst er
    have po : Po oa S2 S1 := by
      rcases hv with ⟨-, e⟩ | ⟨-, e⟩
      · exact Or.inr ⟨_, e⟩
      · exact Or.inl e
    have g := PA.gp hP
    obtain ⟨hM1, ⟨k1, n1, i1⟩, ok1, on1⟩ := I0.mid g po
    refine s_istore dL_law_224 (by decide) ?_
    refine s_aloadn dL_law_226 rfl rfl ?_
    refine s_aloadn dL_law_227 rfl rfl ?_
    refine s_iload dL_law_228 rfl ?_
    refine s_iconst (v := 1) dL_law_230 (by decide) ?_
    refine s_iadd dL_law_231 ?_
    refine s_sald' (j := 9 * q + 1) dL_law_232 k1 i1 (la_ix (k := 1) hq6 (by decide)) (by rw [n1]; omega) (by rw [n1]; omega) ?_
    refine s_aloadn dL_law_233 rfl rfl ?_
    refine s_iload dL_law_234 rfl ?_
    refine s_iconst (v := 2) dL_law_236 (by decide) ?_
    refine s_iadd dL_law_237 ?_
    refine s_sald' (j := 9 * q + 2) dL_law_238 k1 i1 (la_ix (k := 2) hq6 (by decide)) (by rw [n1]; omega) (by rw [n1]; omega) ?_
    refine s_aloadn dL_law_239 rfl rfl ?_
    refine s_iload dL_law_240 rfl ?_
    refine s_iconst (v := 3) dL_law_242 (by decide) ?_
    refine s_iadd dL_law_243 ?_
    refine s_sald' (j := 9 * q + 3) dL_law_244 k1 i1 (la_ix (k := 3) hq6 (by decide)) (by rw [n1]; omega) (by rw [n1]; omega) ?_
    refine s_aloadn dL_law_245 rfl rfl ?_
    refine s_iload dL_law_246 rfl ?_
    refine s_iconst (v := 4) dL_law_248 (by decide) ?_
    refine s_iadd dL_law_249 ?_
    refine s_sald' (j := 9 * q + 4) dL_law_250 k1 i1 (la_ix (k := 4) hq6 (by decide)) (by rw [n1]; omega) (by rw [n1]; omega) ?_
    refine s_aloadn dL_law_251 rfl rfl ?_
    refine s_iload dL_law_252 rfl ?_
    refine s_iconst (v := 5) dL_law_254 (by decide) ?_
    refine s_iadd dL_law_255 ?_
    refine s_sald' (j := 9 * q + 5) dL_law_256 k1 i1 (la_ix (k := 5) hq6 (by decide)) (by rw [n1]; omega) (by rw [n1]; omega) ?_
    refine s_aloadn dL_law_257 rfl rfl ?_
    refine s_iload dL_law_258 rfl ?_
    refine s_bipush (v := 6) dL_law_260 (by decide) ?_
    refine s_iadd dL_law_262 ?_
    refine s_sald' (j := 9 * q + 6) dL_law_263 k1 i1 (la_ix (k := 6) hq6 (by decide)) (by rw [n1]; omega) (by rw [n1]; omega) ?_
    refine s_aloadn dL_law_264 rfl rfl ?_
    refine s_iload dL_law_265 rfl ?_
    refine s_bipush (v := 7) dL_law_267 (by decide) ?_
    refine s_iadd dL_law_269 ?_
    refine s_sald' (j := 9 * q + 7) dL_law_270 k1 i1 (la_ix (k := 7) hq6 (by decide)) (by rw [n1]; omega) (by rw [n1]; omega) ?_
    refine s_aloadn dL_law_271 rfl rfl ?_
    refine s_iload dL_law_272 rfl ?_
    refine s_bipush (v := 8) dL_law_274 (by decide) ?_
    refine s_iadd dL_law_276 ?_
    refine s_sald' (j := 9 * q + 8) dL_law_277 k1 i1 (la_ix (k := 8) hq6 (by decide)) (by rw [n1]; omega) (by rw [n1]; omega) ?_
    refine s_ifeq (tgt := 285) dL_law_278 (by decide) (fun _ => ?_) (fun cz2 => absurd cz cz2)
    refine s_iconst (v := 0) dL_law_285 (by decide) ?_
    refine s_cv8G (n := 97) dL_law_286 rfl (kv hM1.mm (by decide) rfl) rfl (by decide) (by decide) (Nat.zero_le _) (Nat.zero_le _) (by decide) (m_X4_claim hM1 hE.1.1 hB.1.1 hz) (fun r S3 hr3 => ?_) (fun x S3 hr3 => by have := hr3.1; cases this)
    obtain ⟨e3, hM3, f3⟩ := hr3
    cases e3
    refine s_istore dL_law_289 (by decide) ?_
    refine s_aloadn dL_law_291 rfl rfl ?_
    refine s_cv0R (n := 98) dL_law_292 rfl (kv hM3.mm (by decide) rfl) rfl (by decide) (by decide) (Nat.zero_le _) (Nat.zero_le _) (by decide) (m_X4_thrown hM3) ?_
    refine s_iload dL_law_295 rfl ?_
    refine s_iceq (tgt := 302) dL_law_297 (by decide) (fun _ => ?_) (fun c0 => absurd rfl c0)
    refine s_iload dL_law_302 rfl ?_
    refine s_ifne (tgt := 319) dL_law_304 (by decide) (fun ct => ?_) (fun ct => ?_)
    · skip
      refine s_goto (tgt := 1889) dL_law_319 (by decide) ?_
      obtain ⟨w', I3⟩ := I0.fin g po hM3 f3 R.2.1 (BD.up R.2.2 (by omega))
      exact s_sub (lo_has rfl rfl rfl rfl rfl) (la_b (Nat.le_of_ble_eq_true rfl)) (la_b (Nat.le_of_ble_eq_true rfl)) (kk _ _ _ _ I3)
    · obtain ⟨o1, o2, o3⟩ := I0.row g po f3
      rcases hv with ⟨-, eS⟩ | ⟨nt, -⟩
      · have ev := congrFun o3 0
        rw [eS] at ev
        have ev := ev.trans re_up1
        refine s_aloadn dL_law_307 rfl rfl ?_
        refine s_iconst (v := 0) dL_law_308 (by decide) ?_
        refine s_lald' (j := 0) dL_law_309 (Or.inr (Or.inr o1)) rfl (by rw [o2]; decide) (by rw [o2]; decide) ?_
        rw [ev]
        refine s_iload dL_law_310 rfl ?_
        refine s_i2l dL_law_312 ?_
        refine s_lceq (tgt := 319) dL_law_313 dL_law_314 (by decide) (fun _ => ?_) (fun c0 => absurd rfl c0)
        refine s_goto (tgt := 1889) dL_law_319 (by decide) ?_
        obtain ⟨w', I3⟩ := I0.fin g po hM3 f3 R.2.1 (BD.up R.2.2 (by omega))
        exact s_sub (lo_has rfl rfl rfl rfl rfl) (la_b (Nat.le_of_ble_eq_true rfl)) (la_b (Nat.le_of_ble_eq_true rfl)) (kk _ _ _ _ I3)
      · exact absurd ct nt
  · have hz : (1 : Int32) = 0 ∨ (1 : Int32) = 1 := Or.inr rfl
    refine s_iconst (v := 1) dL_law_215 (by decide) ?_
    refine s_goto (tgt := 220) dL_law_216 (by decide) ?_
    refine s_aloadn dL_law_220 rfl rfl ?_
    have R := q_claim (kd := (s (9 * q + 1))) (ld := (s (9 * q + 2))) (p := (s (9 * q + 3))) (q := (s (9 * q + 4))) (y := (s (9 * q + 5))) (rk := (s (9 * q + 6))) (sr := (s (9 * q + 7))) (z := 1) hz hE hB
    have u : unl [(1, 1), (2, 2)] := by unfold unl; decide
    refine s_cw10G (n := 0) dL_law_221 rfl rfl (by decide) (by decide) (Nat.le_trans (Nat.le_of_ble_eq_true rfl) hbc) (Nat.le_trans (Nat.le_of_ble_eq_true rfl) hbs) (by decide) (m_L_claim ok on hC hm hz R.1) (fun r S1 hr => ?_) (fun x S1 hr => LQ.x hr)
    obtain ⟨er, S2, hP, hv⟩ := LQI hr R.1 u
    subst er
    have po : Po oa S2 S1 := by
      rcases hv with ⟨-, e⟩ | ⟨-, e⟩
      · exact Or.inr ⟨_, e⟩
      · exact Or.inl e
    have g := PA.gp hP
    obtain ⟨hM1, ⟨k1, n1, i1⟩, ok1, on1⟩ := I0.mid g po
    refine s_istore dL_law_224 (by decide) ?_
    refine s_aloadn dL_law_226 rfl rfl ?_
    refine s_aloadn dL_law_227 rfl rfl ?_
    refine s_iload dL_law_228 rfl ?_
    refine s_iconst (v := 1) dL_law_230 (by decide) ?_
    refine s_iadd dL_law_231 ?_
    refine s_sald' (j := 9 * q + 1) dL_law_232 k1 i1 (la_ix (k := 1) hq6 (by decide)) (by rw [n1]; omega) (by rw [n1]; omega) ?_
    refine s_aloadn dL_law_233 rfl rfl ?_
    refine s_iload dL_law_234 rfl ?_
    refine s_iconst (v := 2) dL_law_236 (by decide) ?_
    refine s_iadd dL_law_237 ?_
    refine s_sald' (j := 9 * q + 2) dL_law_238 k1 i1 (la_ix (k := 2) hq6 (by decide)) (by rw [n1]; omega) (by rw [n1]; omega) ?_
    refine s_aloadn dL_law_239 rfl rfl ?_
    refine s_iload dL_law_240 rfl ?_
    refine s_iconst (v := 3) dL_law_242 (by decide) ?_
    refine s_iadd dL_law_243 ?_
    refine s_sald' (j := 9 * q + 3) dL_law_244 k1 i1 (la_ix (k := 3) hq6 (by decide)) (by rw [n1]; omega) (by rw [n1]; omega) ?_
    refine s_aloadn dL_law_245 rfl rfl ?_
    refine s_iload dL_law_246 rfl ?_
    refine s_iconst (v := 4) dL_law_248 (by decide) ?_
    refine s_iadd dL_law_249 ?_
    refine s_sald' (j := 9 * q + 4) dL_law_250 k1 i1 (la_ix (k := 4) hq6 (by decide)) (by rw [n1]; omega) (by rw [n1]; omega) ?_
    refine s_aloadn dL_law_251 rfl rfl ?_
    refine s_iload dL_law_252 rfl ?_
    refine s_iconst (v := 5) dL_law_254 (by decide) ?_
    refine s_iadd dL_law_255 ?_
    refine s_sald' (j := 9 * q + 5) dL_law_256 k1 i1 (la_ix (k := 5) hq6 (by decide)) (by rw [n1]; omega) (by rw [n1]; omega) ?_
    refine s_aloadn dL_law_257 rfl rfl ?_
    refine s_iload dL_law_258 rfl ?_
    refine s_bipush (v := 6) dL_law_260 (by decide) ?_
    refine s_iadd dL_law_262 ?_
    refine s_sald' (j := 9 * q + 6) dL_law_263 k1 i1 (la_ix (k := 6) hq6 (by decide)) (by rw [n1]; omega) (by rw [n1]; omega) ?_
    refine s_aloadn dL_law_264 rfl rfl ?_
    refine s_iload dL_law_265 rfl ?_
    refine s_bipush (v := 7) dL_law_267 (by decide) ?_
    refine s_iadd dL_law_269 ?_
    refine s_sald' (j := 9 * q + 7) dL_law_270 k1 i1 (la_ix (k := 7) hq6 (by decide)) (by rw [n1]; omega) (by rw [n1]; omega) ?_
    refine s_aloadn dL_law_271 rfl rfl ?_
    refine s_iload dL_law_272 rfl ?_
    refine s_bipush (v := 8) dL_law_274 (by decide) ?_
    refine s_iadd dL_law_276 ?_
    refine s_sald' (j := 9 * q + 8) dL_law_277 k1 i1 (la_ix (k := 8) hq6 (by decide)) (by rw [n1]; omega) (by rw [n1]; omega) ?_
    refine s_ifeq (tgt := 285) dL_law_278 (by decide) (fun cz2 => absurd cz2 cz) (fun _ => ?_)
    refine s_iconst (v := 1) dL_law_281 (by decide) ?_
    refine s_goto (tgt := 286) dL_law_282 (by decide) ?_
    refine s_cv8G (n := 97) dL_law_286 rfl (kv hM1.mm (by decide) rfl) rfl (by decide) (by decide) (Nat.zero_le _) (Nat.zero_le _) (by decide) (m_X4_claim hM1 hE.1.1 hB.1.1 hz) (fun r S3 hr3 => ?_) (fun x S3 hr3 => by have := hr3.1; cases this)
    obtain ⟨e3, hM3, f3⟩ := hr3
    cases e3
    refine s_istore dL_law_289 (by decide) ?_
    refine s_aloadn dL_law_291 rfl rfl ?_
    refine s_cv0R (n := 98) dL_law_292 rfl (kv hM3.mm (by decide) rfl) rfl (by decide) (by decide) (Nat.zero_le _) (Nat.zero_le _) (by decide) (m_X4_thrown hM3) ?_
    refine s_iload dL_law_295 rfl ?_
    refine s_iceq (tgt := 302) dL_law_297 (by decide) (fun _ => ?_) (fun c0 => absurd rfl c0)
    refine s_iload dL_law_302 rfl ?_
    refine s_ifne (tgt := 319) dL_law_304 (by decide) (fun ct => ?_) (fun ct => ?_)
    · skip
      refine s_goto (tgt := 1889) dL_law_319 (by decide) ?_
      obtain ⟨w', I3⟩ := I0.fin g po hM3 f3 R.2.1 (BD.up R.2.2 (by omega))
      exact s_sub (lo_has rfl rfl rfl rfl rfl) (la_b (Nat.le_of_ble_eq_true rfl)) (la_b (Nat.le_of_ble_eq_true rfl)) (kk _ _ _ _ I3)
    · obtain ⟨o1, o2, o3⟩ := I0.row g po f3
      rcases hv with ⟨-, eS⟩ | ⟨nt, -⟩
      · have ev := congrFun o3 0
        rw [eS] at ev
        have ev := ev.trans re_up1
        refine s_aloadn dL_law_307 rfl rfl ?_
        refine s_iconst (v := 0) dL_law_308 (by decide) ?_
        refine s_lald' (j := 0) dL_law_309 (Or.inr (Or.inr o1)) rfl (by rw [o2]; decide) (by rw [o2]; decide) ?_
        rw [ev]
        refine s_iload dL_law_310 rfl ?_
        refine s_i2l dL_law_312 ?_
        refine s_lceq (tgt := 319) dL_law_313 dL_law_314 (by decide) (fun _ => ?_) (fun c0 => absurd rfl c0)
        refine s_goto (tgt := 1889) dL_law_319 (by decide) ?_
        obtain ⟨w', I3⟩ := I0.fin g po hM3 f3 R.2.1 (BD.up R.2.2 (by omega))
        exact s_sub (lo_has rfl rfl rfl rfl rfl) (la_b (Nat.le_of_ble_eq_true rfl)) (la_b (Nat.le_of_ble_eq_true rfl)) (kk _ _ _ _ I3)
      · exact absurd ct nt
set_option maxHeartbeats 4000000 in
theorem c_L_pledge {tm : Nat × Nat} {Q : Out → Sto → Prop} {sa oa xc xm len q : Nat} {s : Nat → Int32} {S : Sto} {w : CAd} {v : MAd} {c : CC} {m : MC} {bc bs : Nat} (I : LI tm sa oa xc xm len s q S w v c m) (hq : 9 * q + 9 ≤ len) (hl : len ≤ 4608) (hbc : 122 ≤ bc) (hbs : 7532 ≤ bs) (kk : ∀ S1 w1 c1 m1, LI tm sa oa xc xm len s (q + 1) S1 w1 v c1 m1 → Wp (Ev tm) tm M_L_law Q 1889 (lo0 sa oa xc xm q) [] (bc - 122) (bs - 7532) S1) : Wp (Ev tm) tm M_L_law Q 322 (lo0 sa oa xc xm q) [] bc bs S := by
  have I0 := I
  obtain ⟨⟨hC, hM⟩, ⟨hE, hB⟩, ⟨hm, rfl, rfl⟩, ⟨k0, n0, i0⟩, ok, on⟩ := I
  have hq6 : q ≤ 600 := by omega
  refine s_aloadn dL_law_322 rfl rfl ?_
  refine s_aloadn dL_law_323 rfl rfl ?_
  refine s_iload dL_law_324 rfl ?_
  refine s_iconst (v := 1) dL_law_326 (by decide) ?_
  refine s_iadd dL_law_327 ?_
  refine s_sald' (j := 9 * q + 1) dL_law_328 k0 i0 (la_ix (k := 1) hq6 (by decide)) (by rw [n0]; omega) (by rw [n0]; omega) ?_
  refine s_aloadn dL_law_329 rfl rfl ?_
  refine s_iload dL_law_330 rfl ?_
  refine s_iconst (v := 2) dL_law_332 (by decide) ?_
  refine s_iadd dL_law_333 ?_
  refine s_sald' (j := 9 * q + 2) dL_law_334 k0 i0 (la_ix (k := 2) hq6 (by decide)) (by rw [n0]; omega) (by rw [n0]; omega) ?_
  refine s_aloadn dL_law_335 rfl rfl ?_
  have R := q_pledge (k := (s (9 * q + 1))) (x := (s (9 * q + 2))) hE hB (show q < 600 by omega)
  have u : unl [(3, 1), (1, 2), (2, 3)] := by unfold unl; decide
  refine s_cw4G (n := 1) dL_law_336 rfl rfl (by decide) (by decide) (Nat.le_trans (Nat.le_of_ble_eq_true rfl) hbc) (Nat.le_trans (Nat.le_of_ble_eq_true rfl) hbs) (by decide) (m_L_pledge ok on hC R.1) (fun r S1 hr => ?_) (fun x S1 hr => LQ.x hr)
  obtain ⟨er, S2, hP, hv⟩ := LQJ hr R.1 u
  subst er
  have po : Po oa S2 S1 := by
    rcases hv with ⟨-, e⟩ | ⟨-, e⟩
    · exact Or.inr ⟨_, e⟩
    · exact Or.inl e
  have g := PO.gp hP hm
  obtain ⟨hM1, ⟨k1, n1, i1⟩, ok1, on1⟩ := I0.mid g po
  refine s_istore dL_law_339 (by decide) ?_
  refine s_aloadn dL_law_341 rfl rfl ?_
  refine s_aloadn dL_law_342 rfl rfl ?_
  refine s_iload dL_law_343 rfl ?_
  refine s_iconst (v := 1) dL_law_345 (by decide) ?_
  refine s_iadd dL_law_346 ?_
  refine s_sald' (j := 9 * q + 1) dL_law_347 k1 i1 (la_ix (k := 1) hq6 (by decide)) (by rw [n1]; omega) (by rw [n1]; omega) ?_
  refine s_aloadn dL_law_348 rfl rfl ?_
  refine s_iload dL_law_349 rfl ?_
  refine s_iconst (v := 2) dL_law_351 (by decide) ?_
  refine s_iadd dL_law_352 ?_
  refine s_sald' (j := 9 * q + 2) dL_law_353 k1 i1 (la_ix (k := 2) hq6 (by decide)) (by rw [n1]; omega) (by rw [n1]; omega) ?_
  refine s_cv2G (n := 99) dL_law_354 rfl (kv hM1.mm (by decide) rfl) rfl (by decide) (by decide) (Nat.zero_le _) (Nat.zero_le _) (by decide) (m_X4_pledge hM1 hE.1.1 hB.1.1) (fun r S3 hr3 => ?_) (fun x S3 hr3 => by have := hr3.1; cases this)
  obtain ⟨e3, hM3, f3⟩ := hr3
  cases e3
  refine s_lstore dL_law_357 (by decide) ?_
  refine s_aloadn dL_law_359 rfl rfl ?_
  refine s_cv0R (n := 98) dL_law_360 rfl (kv hM3.mm (by decide) rfl) rfl (by decide) (by decide) (Nat.zero_le _) (Nat.zero_le _) (by decide) (m_X4_thrown hM3) ?_
  refine s_iload dL_law_363 rfl ?_
  refine s_iceq (tgt := 370) dL_law_365 (by decide) (fun _ => ?_) (fun c0 => absurd rfl c0)
  refine s_iload dL_law_370 rfl ?_
  refine s_ifne (tgt := 386) dL_law_372 (by decide) (fun ct => ?_) (fun ct => ?_)
  · skip
    refine s_goto (tgt := 1889) dL_law_386 (by decide) ?_
    obtain ⟨w', I3⟩ := I0.fin g po hM3 f3 R.2.1 R.2.2
    exact s_sub (lo_has rfl rfl rfl rfl rfl) (la_b (Nat.le_of_ble_eq_true rfl)) (la_b (Nat.le_of_ble_eq_true rfl)) (kk _ _ _ _ I3)
  · obtain ⟨o1, o2, o3⟩ := I0.row g po f3
    rcases hv with ⟨-, eS⟩ | ⟨nt, -⟩
    · have ev := congrFun o3 0
      rw [eS] at ev
      have ev := ev.trans re_up1
      refine s_aloadn dL_law_375 rfl rfl ?_
      refine s_iconst (v := 0) dL_law_376 (by decide) ?_
      refine s_lald' (j := 0) dL_law_377 (Or.inr (Or.inr o1)) rfl (by rw [o2]; decide) (by rw [o2]; decide) ?_
      rw [ev]
      refine s_lload dL_law_378 rfl ?_
      refine s_lceq (tgt := 386) dL_law_380 dL_law_381 (by decide) (fun _ => ?_) (fun c0 => absurd rfl c0)
      refine s_goto (tgt := 1889) dL_law_386 (by decide) ?_
      obtain ⟨w', I3⟩ := I0.fin g po hM3 f3 R.2.1 R.2.2
      exact s_sub (lo_has rfl rfl rfl rfl rfl) (la_b (Nat.le_of_ble_eq_true rfl)) (la_b (Nat.le_of_ble_eq_true rfl)) (kk _ _ _ _ I3)
    · exact absurd ct nt
set_option maxHeartbeats 4000000 in
theorem c_L_reveal {tm : Nat × Nat} {Q : Out → Sto → Prop} {sa oa xc xm len q : Nat} {s : Nat → Int32} {S : Sto} {w : CAd} {v : MAd} {c : CC} {m : MC} {bc bs : Nat} (I : LI tm sa oa xc xm len s q S w v c m) (hq : 9 * q + 9 ≤ len) (hl : len ≤ 4608) (hbc : 122 ≤ bc) (hbs : 7532 ≤ bs) (kk : ∀ S1 w1 c1 m1, LI tm sa oa xc xm len s (q + 1) S1 w1 v c1 m1 → Wp (Ev tm) tm M_L_law Q 1889 (lo0 sa oa xc xm q) [] (bc - 122) (bs - 7532) S1) : Wp (Ev tm) tm M_L_law Q 389 (lo0 sa oa xc xm q) [] bc bs S := by
  have I0 := I
  obtain ⟨⟨hC, hM⟩, ⟨hE, hB⟩, ⟨hm, rfl, rfl⟩, ⟨k0, n0, i0⟩, ok, on⟩ := I
  have hq6 : q ≤ 600 := by omega
  refine s_aloadn dL_law_389 rfl rfl ?_
  refine s_aloadn dL_law_390 rfl rfl ?_
  refine s_iload dL_law_391 rfl ?_
  refine s_iconst (v := 1) dL_law_393 (by decide) ?_
  refine s_iadd dL_law_394 ?_
  refine s_sald' (j := 9 * q + 1) dL_law_395 k0 i0 (la_ix (k := 1) hq6 (by decide)) (by rw [n0]; omega) (by rw [n0]; omega) ?_
  refine s_aloadn dL_law_396 rfl rfl ?_
  have R := q_reveal (k := (s (9 * q + 1))) hE hB
  have u : unl [(3, 1), (2, 2)] := by unfold unl; decide
  refine s_cw3G (n := 2) dL_law_397 rfl rfl (by decide) (by decide) (Nat.le_trans (Nat.le_of_ble_eq_true rfl) hbc) (Nat.le_trans (Nat.le_of_ble_eq_true rfl) hbs) (by decide) (m_L_reveal ok on hC R.1) (fun r S1 hr => ?_) (fun x S1 hr => LQ.x hr)
  obtain ⟨er, S2, hP, hv⟩ := LQJ hr R.1 u
  subst er
  have po : Po oa S2 S1 := by
    rcases hv with ⟨-, e⟩ | ⟨-, e⟩
    · exact Or.inr ⟨_, e⟩
    · exact Or.inl e
  have g := PO.gp hP hm
  obtain ⟨hM1, ⟨k1, n1, i1⟩, ok1, on1⟩ := I0.mid g po
  refine s_istore dL_law_400 (by decide) ?_
  refine s_aloadn dL_law_402 rfl rfl ?_
  refine s_aloadn dL_law_403 rfl rfl ?_
  refine s_iload dL_law_404 rfl ?_
  refine s_iconst (v := 1) dL_law_406 (by decide) ?_
  refine s_iadd dL_law_407 ?_
  refine s_sald' (j := 9 * q + 1) dL_law_408 k1 i1 (la_ix (k := 1) hq6 (by decide)) (by rw [n1]; omega) (by rw [n1]; omega) ?_
  refine s_cv1G (n := 100) dL_law_409 rfl (kv hM1.mm (by decide) rfl) rfl (by decide) (by decide) (Nat.zero_le _) (Nat.zero_le _) (by decide) (m_X4_reveal hM1 hE.1.1 hB.1.1) (fun r S3 hr3 => ?_) (fun x S3 hr3 => by have := hr3.1; cases this)
  obtain ⟨e3, hM3, f3⟩ := hr3
  cases e3
  refine s_lstore dL_law_412 (by decide) ?_
  refine s_aloadn dL_law_414 rfl rfl ?_
  refine s_cv0R (n := 98) dL_law_415 rfl (kv hM3.mm (by decide) rfl) rfl (by decide) (by decide) (Nat.zero_le _) (Nat.zero_le _) (by decide) (m_X4_thrown hM3) ?_
  refine s_iload dL_law_418 rfl ?_
  refine s_iceq (tgt := 425) dL_law_420 (by decide) (fun _ => ?_) (fun c0 => absurd rfl c0)
  refine s_iload dL_law_425 rfl ?_
  refine s_ifne (tgt := 441) dL_law_427 (by decide) (fun ct => ?_) (fun ct => ?_)
  · skip
    refine s_goto (tgt := 1889) dL_law_441 (by decide) ?_
    obtain ⟨w', I3⟩ := I0.fin g po hM3 f3 R.2.1 (BD.up R.2.2 (by omega))
    exact s_sub (lo_has rfl rfl rfl rfl rfl) (la_b (Nat.le_of_ble_eq_true rfl)) (la_b (Nat.le_of_ble_eq_true rfl)) (kk _ _ _ _ I3)
  · obtain ⟨o1, o2, o3⟩ := I0.row g po f3
    rcases hv with ⟨-, eS⟩ | ⟨nt, -⟩
    · have ev := congrFun o3 0
      rw [eS] at ev
      have ev := ev.trans re_up1
      refine s_aloadn dL_law_430 rfl rfl ?_
      refine s_iconst (v := 0) dL_law_431 (by decide) ?_
      refine s_lald' (j := 0) dL_law_432 (Or.inr (Or.inr o1)) rfl (by rw [o2]; decide) (by rw [o2]; decide) ?_
      rw [ev]
      refine s_lload dL_law_433 rfl ?_
      refine s_lceq (tgt := 441) dL_law_435 dL_law_436 (by decide) (fun _ => ?_) (fun c0 => absurd rfl c0)
      refine s_goto (tgt := 1889) dL_law_441 (by decide) ?_
      obtain ⟨w', I3⟩ := I0.fin g po hM3 f3 R.2.1 (BD.up R.2.2 (by omega))
      exact s_sub (lo_has rfl rfl rfl rfl rfl) (la_b (Nat.le_of_ble_eq_true rfl)) (la_b (Nat.le_of_ble_eq_true rfl)) (kk _ _ _ _ I3)
    · exact absurd ct nt
set_option maxHeartbeats 4000000 in
theorem c_L_economy {tm : Nat × Nat} {Q : Out → Sto → Prop} {sa oa xc xm len q : Nat} {s : Nat → Int32} {S : Sto} {w : CAd} {v : MAd} {c : CC} {m : MC} {bc bs : Nat} (I : LI tm sa oa xc xm len s q S w v c m) (hq : 9 * q + 9 ≤ len) (hl : len ≤ 4608) (hbc : 122 ≤ bc) (hbs : 7532 ≤ bs) (kk : ∀ S1 w1 c1 m1, LI tm sa oa xc xm len s (q + 1) S1 w1 v c1 m1 → Wp (Ev tm) tm M_L_law Q 1889 (lo0 sa oa xc xm q) [] (bc - 122) (bs - 7532) S1) : Wp (Ev tm) tm M_L_law Q 444 (lo0 sa oa xc xm q) [] bc bs S := by
  have I0 := I
  obtain ⟨⟨hC, hM⟩, ⟨hE, hB⟩, ⟨hm, rfl, rfl⟩, ⟨k0, n0, i0⟩, ok, on⟩ := I
  have hq6 : q ≤ 600 := by omega
  refine s_aloadn dL_law_444 rfl rfl ?_
  refine s_aloadn dL_law_445 rfl rfl ?_
  refine s_iload dL_law_446 rfl ?_
  refine s_iconst (v := 1) dL_law_448 (by decide) ?_
  refine s_iadd dL_law_449 ?_
  refine s_sald' (j := 9 * q + 1) dL_law_450 k0 i0 (la_ix (k := 1) hq6 (by decide)) (by rw [n0]; omega) (by rw [n0]; omega) ?_
  refine s_aloadn dL_law_451 rfl rfl ?_
  refine s_iload dL_law_452 rfl ?_
  refine s_iconst (v := 2) dL_law_454 (by decide) ?_
  refine s_iadd dL_law_455 ?_
  refine s_sald' (j := 9 * q + 2) dL_law_456 k0 i0 (la_ix (k := 2) hq6 (by decide)) (by rw [n0]; omega) (by rw [n0]; omega) ?_
  refine s_aloadn dL_law_457 rfl rfl ?_
  refine s_iload dL_law_458 rfl ?_
  refine s_iconst (v := 3) dL_law_460 (by decide) ?_
  refine s_iadd dL_law_461 ?_
  refine s_sald' (j := 9 * q + 3) dL_law_462 k0 i0 (la_ix (k := 3) hq6 (by decide)) (by rw [n0]; omega) (by rw [n0]; omega) ?_
  refine s_aloadn dL_law_463 rfl rfl ?_
  have R := q_economy (g := (s (9 * q + 1))) (u := (s (9 * q + 2))) (x := (s (9 * q + 3))) hE hB
  have u : unl [(1, 1)] := by unfold unl; decide
  refine s_cw5G (n := 3) dL_law_464 rfl rfl (by decide) (by decide) (Nat.le_trans (Nat.le_of_ble_eq_true rfl) hbc) (Nat.le_trans (Nat.le_of_ble_eq_true rfl) hbs) (by decide) (m_L_economy ok on hC R.1) (fun r S1 hr => ?_) (fun x S1 hr => LQ.x hr)
  obtain ⟨er, S2, hP, hv⟩ := LQJ hr R.1 u
  subst er
  have po : Po oa S2 S1 := by
    rcases hv with ⟨-, e⟩ | ⟨-, e⟩
    · exact Or.inr ⟨_, e⟩
    · exact Or.inl e
  have g := PO.gp hP hm
  obtain ⟨hM1, ⟨k1, n1, i1⟩, ok1, on1⟩ := I0.mid g po
  refine s_istore dL_law_467 (by decide) ?_
  refine s_aloadn dL_law_469 rfl rfl ?_
  refine s_aloadn dL_law_470 rfl rfl ?_
  refine s_iload dL_law_471 rfl ?_
  refine s_iconst (v := 1) dL_law_473 (by decide) ?_
  refine s_iadd dL_law_474 ?_
  refine s_sald' (j := 9 * q + 1) dL_law_475 k1 i1 (la_ix (k := 1) hq6 (by decide)) (by rw [n1]; omega) (by rw [n1]; omega) ?_
  refine s_aloadn dL_law_476 rfl rfl ?_
  refine s_iload dL_law_477 rfl ?_
  refine s_iconst (v := 2) dL_law_479 (by decide) ?_
  refine s_iadd dL_law_480 ?_
  refine s_sald' (j := 9 * q + 2) dL_law_481 k1 i1 (la_ix (k := 2) hq6 (by decide)) (by rw [n1]; omega) (by rw [n1]; omega) ?_
  refine s_aloadn dL_law_482 rfl rfl ?_
  refine s_iload dL_law_483 rfl ?_
  refine s_iconst (v := 3) dL_law_485 (by decide) ?_
  refine s_iadd dL_law_486 ?_
  refine s_sald' (j := 9 * q + 3) dL_law_487 k1 i1 (la_ix (k := 3) hq6 (by decide)) (by rw [n1]; omega) (by rw [n1]; omega) ?_
  refine s_cv3G (n := 101) dL_law_488 rfl (kv hM1.mm (by decide) rfl) rfl (by decide) (by decide) (Nat.zero_le _) (Nat.zero_le _) (by decide) (m_X4_economy hM1 ) (fun r S3 hr3 => ?_) (fun x S3 hr3 => by have := hr3.1; cases this)
  obtain ⟨e3, hM3, f3⟩ := hr3
  cases e3
  refine s_lstore dL_law_491 (by decide) ?_
  refine s_aloadn dL_law_493 rfl rfl ?_
  refine s_cv0R (n := 98) dL_law_494 rfl (kv hM3.mm (by decide) rfl) rfl (by decide) (by decide) (Nat.zero_le _) (Nat.zero_le _) (by decide) (m_X4_thrown hM3) ?_
  refine s_iload dL_law_497 rfl ?_
  refine s_iceq (tgt := 504) dL_law_499 (by decide) (fun _ => ?_) (fun c0 => absurd rfl c0)
  refine s_iload dL_law_504 rfl ?_
  refine s_ifne (tgt := 520) dL_law_506 (by decide) (fun ct => ?_) (fun ct => ?_)
  · skip
    refine s_goto (tgt := 1889) dL_law_520 (by decide) ?_
    obtain ⟨w', I3⟩ := I0.fin g po hM3 f3 R.2.1 (BD.up R.2.2 (by omega))
    exact s_sub (lo_has rfl rfl rfl rfl rfl) (la_b (Nat.le_of_ble_eq_true rfl)) (la_b (Nat.le_of_ble_eq_true rfl)) (kk _ _ _ _ I3)
  · obtain ⟨o1, o2, o3⟩ := I0.row g po f3
    rcases hv with ⟨-, eS⟩ | ⟨nt, -⟩
    · have ev := congrFun o3 0
      rw [eS] at ev
      have ev := ev.trans re_up1
      refine s_aloadn dL_law_509 rfl rfl ?_
      refine s_iconst (v := 0) dL_law_510 (by decide) ?_
      refine s_lald' (j := 0) dL_law_511 (Or.inr (Or.inr o1)) rfl (by rw [o2]; decide) (by rw [o2]; decide) ?_
      rw [ev]
      refine s_lload dL_law_512 rfl ?_
      refine s_lceq (tgt := 520) dL_law_514 dL_law_515 (by decide) (fun _ => ?_) (fun c0 => absurd rfl c0)
      refine s_goto (tgt := 1889) dL_law_520 (by decide) ?_
      obtain ⟨w', I3⟩ := I0.fin g po hM3 f3 R.2.1 (BD.up R.2.2 (by omega))
      exact s_sub (lo_has rfl rfl rfl rfl rfl) (la_b (Nat.le_of_ble_eq_true rfl)) (la_b (Nat.le_of_ble_eq_true rfl)) (kk _ _ _ _ I3)
    · exact absurd ct nt
set_option maxHeartbeats 4000000 in
theorem c_L_moratorium {tm : Nat × Nat} {Q : Out → Sto → Prop} {sa oa xc xm len q : Nat} {s : Nat → Int32} {S : Sto} {w : CAd} {v : MAd} {c : CC} {m : MC} {bc bs : Nat} (I : LI tm sa oa xc xm len s q S w v c m) (hq : 9 * q + 9 ≤ len) (hl : len ≤ 4608) (hbc : 122 ≤ bc) (hbs : 7532 ≤ bs) (kk : ∀ S1 w1 c1 m1, LI tm sa oa xc xm len s (q + 1) S1 w1 v c1 m1 → Wp (Ev tm) tm M_L_law Q 1889 (lo0 sa oa xc xm q) [] (bc - 122) (bs - 7532) S1) : Wp (Ev tm) tm M_L_law Q 523 (lo0 sa oa xc xm q) [] bc bs S := by
  have I0 := I
  obtain ⟨⟨hC, hM⟩, ⟨hE, hB⟩, ⟨hm, rfl, rfl⟩, ⟨k0, n0, i0⟩, ok, on⟩ := I
  have hq6 : q ≤ 600 := by omega
  refine s_aloadn dL_law_523 rfl rfl ?_
  refine s_aloadn dL_law_524 rfl rfl ?_
  refine s_iload dL_law_525 rfl ?_
  refine s_iconst (v := 1) dL_law_527 (by decide) ?_
  refine s_iadd dL_law_528 ?_
  refine s_sald' (j := 9 * q + 1) dL_law_529 k0 i0 (la_ix (k := 1) hq6 (by decide)) (by rw [n0]; omega) (by rw [n0]; omega) ?_
  refine s_aloadn dL_law_530 rfl rfl ?_
  refine s_iload dL_law_531 rfl ?_
  refine s_iconst (v := 2) dL_law_533 (by decide) ?_
  refine s_iadd dL_law_534 ?_
  refine s_sald' (j := 9 * q + 2) dL_law_535 k0 i0 (la_ix (k := 2) hq6 (by decide)) (by rw [n0]; omega) (by rw [n0]; omega) ?_
  refine s_ifeq (tgt := 543) dL_law_536 (by decide) (fun cz => ?_) (fun cz => ?_)
  · have hz : (0 : Int32) = 0 ∨ (0 : Int32) = 1 := Or.inl rfl
    refine s_iconst (v := 0) dL_law_543 (by decide) ?_
    refine s_aloadn dL_law_544 rfl rfl ?_
    have R := q_moratorium (k := (s (9 * q + 1))) (z := 0) hz hE hB
    have u : unl [(3, 1)] := by unfold unl; decide
    refine s_cw4G (n := 4) dL_law_545 rfl rfl (by decide) (by decide) (Nat.le_trans (Nat.le_of_ble_eq_true rfl) hbc) (Nat.le_trans (Nat.le_of_ble_eq_true rfl) hbs) (by decide) (m_L_moratorium ok on hC hz R.1) (fun r S1 hr => ?_) (fun x S1 hr => LQ.x hr)
    obtain ⟨er, S2, hP, hv⟩ := LQI hr R.1 u
    subst er
    have po : Po oa S2 S1 := by
      rcases hv with ⟨-, e⟩ | ⟨-, e⟩
      · exact Or.inr ⟨_, e⟩
      · exact Or.inl e
    have g := PO.gp hP hm
    obtain ⟨hM1, ⟨k1, n1, i1⟩, ok1, on1⟩ := I0.mid g po
    refine s_istore dL_law_548 (by decide) ?_
    refine s_aloadn dL_law_550 rfl rfl ?_
    refine s_aloadn dL_law_551 rfl rfl ?_
    refine s_iload dL_law_552 rfl ?_
    refine s_iconst (v := 1) dL_law_554 (by decide) ?_
    refine s_iadd dL_law_555 ?_
    refine s_sald' (j := 9 * q + 1) dL_law_556 k1 i1 (la_ix (k := 1) hq6 (by decide)) (by rw [n1]; omega) (by rw [n1]; omega) ?_
    refine s_aloadn dL_law_557 rfl rfl ?_
    refine s_iload dL_law_558 rfl ?_
    refine s_iconst (v := 2) dL_law_560 (by decide) ?_
    refine s_iadd dL_law_561 ?_
    refine s_sald' (j := 9 * q + 2) dL_law_562 k1 i1 (la_ix (k := 2) hq6 (by decide)) (by rw [n1]; omega) (by rw [n1]; omega) ?_
    refine s_ifeq (tgt := 570) dL_law_563 (by decide) (fun _ => ?_) (fun cz2 => absurd cz cz2)
    refine s_iconst (v := 0) dL_law_570 (by decide) ?_
    refine s_cv2G (n := 102) dL_law_571 rfl (kv hM1.mm (by decide) rfl) rfl (by decide) (by decide) (Nat.zero_le _) (Nat.zero_le _) (by decide) (m_X4_moratorium hM1 hz) (fun r S3 hr3 => ?_) (fun x S3 hr3 => by have := hr3.1; cases this)
    obtain ⟨e3, hM3, f3⟩ := hr3
    cases e3
    refine s_istore dL_law_574 (by decide) ?_
    refine s_aloadn dL_law_576 rfl rfl ?_
    refine s_cv0R (n := 98) dL_law_577 rfl (kv hM3.mm (by decide) rfl) rfl (by decide) (by decide) (Nat.zero_le _) (Nat.zero_le _) (by decide) (m_X4_thrown hM3) ?_
    refine s_iload dL_law_580 rfl ?_
    refine s_iceq (tgt := 587) dL_law_582 (by decide) (fun _ => ?_) (fun c0 => absurd rfl c0)
    refine s_iload dL_law_587 rfl ?_
    refine s_ifne (tgt := 611) dL_law_589 (by decide) (fun ct => ?_) (fun ct => ?_)
    · skip
      refine s_goto (tgt := 1889) dL_law_611 (by decide) ?_
      obtain ⟨w', I3⟩ := I0.fin g po hM3 f3 R.2.1 (BD.up R.2.2 (by omega))
      exact s_sub (lo_has rfl rfl rfl rfl rfl) (la_b (Nat.le_of_ble_eq_true rfl)) (la_b (Nat.le_of_ble_eq_true rfl)) (kk _ _ _ _ I3)
    · obtain ⟨o1, o2, o3⟩ := I0.row g po f3
      rcases hv with ⟨-, eS⟩ | ⟨nt, -⟩
      · have ev := congrFun o3 0
        rw [eS] at ev
        have ev := ev.trans re_up1
        refine s_aloadn dL_law_592 rfl rfl ?_
        refine s_iconst (v := 0) dL_law_593 (by decide) ?_
        refine s_lald' (j := 0) dL_law_594 (Or.inr (Or.inr o1)) rfl (by rw [o2]; decide) (by rw [o2]; decide) ?_
        rw [ev]
        refine s_iload dL_law_595 rfl ?_
        refine s_ifeq (tgt := 604) dL_law_597 (by decide) (fun cb => ?_) (fun cb => ?_)
        · refine s_lconst (v := 0) dL_law_604 (by decide) ?_
          refine s_lceq (tgt := 611) dL_law_605 dL_law_606 (by decide) (fun _ => ?_) (fun c0 => absurd (if_pos cb) c0)
          refine s_goto (tgt := 1889) dL_law_611 (by decide) ?_
          obtain ⟨w', I3⟩ := I0.fin g po hM3 f3 R.2.1 (BD.up R.2.2 (by omega))
          exact s_sub (lo_has rfl rfl rfl rfl rfl) (la_b (Nat.le_of_ble_eq_true rfl)) (la_b (Nat.le_of_ble_eq_true rfl)) (kk _ _ _ _ I3)
        · refine s_lconst (v := 1) dL_law_600 (by decide) ?_
          refine s_goto (tgt := 605) dL_law_601 (by decide) ?_
          refine s_lceq (tgt := 611) dL_law_605 dL_law_606 (by decide) (fun _ => ?_) (fun c0 => absurd (if_neg cb) c0)
          refine s_goto (tgt := 1889) dL_law_611 (by decide) ?_
          obtain ⟨w', I3⟩ := I0.fin g po hM3 f3 R.2.1 (BD.up R.2.2 (by omega))
          exact s_sub (lo_has rfl rfl rfl rfl rfl) (la_b (Nat.le_of_ble_eq_true rfl)) (la_b (Nat.le_of_ble_eq_true rfl)) (kk _ _ _ _ I3)
      · exact absurd ct nt
  · have hz : (1 : Int32) = 0 ∨ (1 : Int32) = 1 := Or.inr rfl
    refine s_iconst (v := 1) dL_law_539 (by decide) ?_
    refine s_goto (tgt := 544) dL_law_540 (by decide) ?_
    refine s_aloadn dL_law_544 rfl rfl ?_
    have R := q_moratorium (k := (s (9 * q + 1))) (z := 1) hz hE hB
    have u : unl [(3, 1)] := by unfold unl; decide
    refine s_cw4G (n := 4) dL_law_545 rfl rfl (by decide) (by decide) (Nat.le_trans (Nat.le_of_ble_eq_true rfl) hbc) (Nat.le_trans (Nat.le_of_ble_eq_true rfl) hbs) (by decide) (m_L_moratorium ok on hC hz R.1) (fun r S1 hr => ?_) (fun x S1 hr => LQ.x hr)
    obtain ⟨er, S2, hP, hv⟩ := LQI hr R.1 u
    subst er
    have po : Po oa S2 S1 := by
      rcases hv with ⟨-, e⟩ | ⟨-, e⟩
      · exact Or.inr ⟨_, e⟩
      · exact Or.inl e
    have g := PO.gp hP hm
    obtain ⟨hM1, ⟨k1, n1, i1⟩, ok1, on1⟩ := I0.mid g po
    refine s_istore dL_law_548 (by decide) ?_
    refine s_aloadn dL_law_550 rfl rfl ?_
    refine s_aloadn dL_law_551 rfl rfl ?_
    refine s_iload dL_law_552 rfl ?_
    refine s_iconst (v := 1) dL_law_554 (by decide) ?_
    refine s_iadd dL_law_555 ?_
    refine s_sald' (j := 9 * q + 1) dL_law_556 k1 i1 (la_ix (k := 1) hq6 (by decide)) (by rw [n1]; omega) (by rw [n1]; omega) ?_
    refine s_aloadn dL_law_557 rfl rfl ?_
    refine s_iload dL_law_558 rfl ?_
    refine s_iconst (v := 2) dL_law_560 (by decide) ?_
    refine s_iadd dL_law_561 ?_
    refine s_sald' (j := 9 * q + 2) dL_law_562 k1 i1 (la_ix (k := 2) hq6 (by decide)) (by rw [n1]; omega) (by rw [n1]; omega) ?_
    refine s_ifeq (tgt := 570) dL_law_563 (by decide) (fun cz2 => absurd cz2 cz) (fun _ => ?_)
    refine s_iconst (v := 1) dL_law_566 (by decide) ?_
    refine s_goto (tgt := 571) dL_law_567 (by decide) ?_
    refine s_cv2G (n := 102) dL_law_571 rfl (kv hM1.mm (by decide) rfl) rfl (by decide) (by decide) (Nat.zero_le _) (Nat.zero_le _) (by decide) (m_X4_moratorium hM1 hz) (fun r S3 hr3 => ?_) (fun x S3 hr3 => by have := hr3.1; cases this)
    obtain ⟨e3, hM3, f3⟩ := hr3
    cases e3
    refine s_istore dL_law_574 (by decide) ?_
    refine s_aloadn dL_law_576 rfl rfl ?_
    refine s_cv0R (n := 98) dL_law_577 rfl (kv hM3.mm (by decide) rfl) rfl (by decide) (by decide) (Nat.zero_le _) (Nat.zero_le _) (by decide) (m_X4_thrown hM3) ?_
    refine s_iload dL_law_580 rfl ?_
    refine s_iceq (tgt := 587) dL_law_582 (by decide) (fun _ => ?_) (fun c0 => absurd rfl c0)
    refine s_iload dL_law_587 rfl ?_
    refine s_ifne (tgt := 611) dL_law_589 (by decide) (fun ct => ?_) (fun ct => ?_)
    · skip
      refine s_goto (tgt := 1889) dL_law_611 (by decide) ?_
      obtain ⟨w', I3⟩ := I0.fin g po hM3 f3 R.2.1 (BD.up R.2.2 (by omega))
      exact s_sub (lo_has rfl rfl rfl rfl rfl) (la_b (Nat.le_of_ble_eq_true rfl)) (la_b (Nat.le_of_ble_eq_true rfl)) (kk _ _ _ _ I3)
    · obtain ⟨o1, o2, o3⟩ := I0.row g po f3
      rcases hv with ⟨-, eS⟩ | ⟨nt, -⟩
      · have ev := congrFun o3 0
        rw [eS] at ev
        have ev := ev.trans re_up1
        refine s_aloadn dL_law_592 rfl rfl ?_
        refine s_iconst (v := 0) dL_law_593 (by decide) ?_
        refine s_lald' (j := 0) dL_law_594 (Or.inr (Or.inr o1)) rfl (by rw [o2]; decide) (by rw [o2]; decide) ?_
        rw [ev]
        refine s_iload dL_law_595 rfl ?_
        refine s_ifeq (tgt := 604) dL_law_597 (by decide) (fun cb => ?_) (fun cb => ?_)
        · refine s_lconst (v := 0) dL_law_604 (by decide) ?_
          refine s_lceq (tgt := 611) dL_law_605 dL_law_606 (by decide) (fun _ => ?_) (fun c0 => absurd (if_pos cb) c0)
          refine s_goto (tgt := 1889) dL_law_611 (by decide) ?_
          obtain ⟨w', I3⟩ := I0.fin g po hM3 f3 R.2.1 (BD.up R.2.2 (by omega))
          exact s_sub (lo_has rfl rfl rfl rfl rfl) (la_b (Nat.le_of_ble_eq_true rfl)) (la_b (Nat.le_of_ble_eq_true rfl)) (kk _ _ _ _ I3)
        · refine s_lconst (v := 1) dL_law_600 (by decide) ?_
          refine s_goto (tgt := 605) dL_law_601 (by decide) ?_
          refine s_lceq (tgt := 611) dL_law_605 dL_law_606 (by decide) (fun _ => ?_) (fun c0 => absurd (if_neg cb) c0)
          refine s_goto (tgt := 1889) dL_law_611 (by decide) ?_
          obtain ⟨w', I3⟩ := I0.fin g po hM3 f3 R.2.1 (BD.up R.2.2 (by omega))
          exact s_sub (lo_has rfl rfl rfl rfl rfl) (la_b (Nat.le_of_ble_eq_true rfl)) (la_b (Nat.le_of_ble_eq_true rfl)) (kk _ _ _ _ I3)
      · exact absurd ct nt
set_option maxHeartbeats 4000000 in
theorem c_L_year {tm : Nat × Nat} {Q : Out → Sto → Prop} {sa oa xc xm len q : Nat} {s : Nat → Int32} {S : Sto} {w : CAd} {v : MAd} {c : CC} {m : MC} {bc bs : Nat} (I : LI tm sa oa xc xm len s q S w v c m) (hq : 9 * q + 9 ≤ len) (hl : len ≤ 4608) (hbc : 122 ≤ bc) (hbs : 7532 ≤ bs) (kk : ∀ S1 w1 c1 m1, LI tm sa oa xc xm len s (q + 1) S1 w1 v c1 m1 → Wp (Ev tm) tm M_L_law Q 1889 (lo0 sa oa xc xm q) [] (bc - 122) (bs - 7532) S1) : Wp (Ev tm) tm M_L_law Q 614 (lo0 sa oa xc xm q) [] bc bs S := by
  have I0 := I
  obtain ⟨⟨hC, hM⟩, ⟨hE, hB⟩, ⟨hm, rfl, rfl⟩, ⟨k0, n0, i0⟩, ok, on⟩ := I
  have hq6 : q ≤ 600 := by omega
  refine s_aloadn dL_law_614 rfl rfl ?_
  refine s_aloadn dL_law_615 rfl rfl ?_
  refine s_iload dL_law_616 rfl ?_
  refine s_iconst (v := 1) dL_law_618 (by decide) ?_
  refine s_iadd dL_law_619 ?_
  refine s_sald' (j := 9 * q + 1) dL_law_620 k0 i0 (la_ix (k := 1) hq6 (by decide)) (by rw [n0]; omega) (by rw [n0]; omega) ?_
  refine s_aloadn dL_law_621 rfl rfl ?_
  have R := q_year (y := (s (9 * q + 1))) hE hB
  have u : unl [(1, 1), (2, 2)] := by unfold unl; decide
  refine s_cw3G (n := 5) dL_law_622 rfl rfl (by decide) (by decide) (Nat.le_trans (Nat.le_of_ble_eq_true rfl) hbc) (Nat.le_trans (Nat.le_of_ble_eq_true rfl) hbs) (by decide) (m_L_year ok on hC R.1) (fun r S1 hr => ?_) (fun x S1 hr => LQ.x hr)
  obtain ⟨er, S2, hP, hv⟩ := LQJ hr R.1 u
  subst er
  have po : Po oa S2 S1 := by
    rcases hv with ⟨-, e⟩ | ⟨-, e⟩
    · exact Or.inr ⟨_, e⟩
    · exact Or.inl e
  have g := PO.gp hP hm
  obtain ⟨hM1, ⟨k1, n1, i1⟩, ok1, on1⟩ := I0.mid g po
  refine s_istore dL_law_625 (by decide) ?_
  refine s_aloadn dL_law_627 rfl rfl ?_
  refine s_aloadn dL_law_628 rfl rfl ?_
  refine s_iload dL_law_629 rfl ?_
  refine s_iconst (v := 1) dL_law_631 (by decide) ?_
  refine s_iadd dL_law_632 ?_
  refine s_sald' (j := 9 * q + 1) dL_law_633 k1 i1 (la_ix (k := 1) hq6 (by decide)) (by rw [n1]; omega) (by rw [n1]; omega) ?_
  refine s_cv1G (n := 103) dL_law_634 rfl (kv hM1.mm (by decide) rfl) rfl (by decide) (by decide) (Nat.zero_le _) (Nat.zero_le _) (by decide) (m_X4_year hM1 hE.1.1 hB.1.1 (hE.ks hB)) (fun r S3 hr3 => ?_) (fun x S3 hr3 => by have := hr3.1; cases this)
  obtain ⟨e3, hM3, f3⟩ := hr3
  cases e3
  refine s_lstore dL_law_637 (by decide) ?_
  refine s_aloadn dL_law_639 rfl rfl ?_
  refine s_cv0R (n := 98) dL_law_640 rfl (kv hM3.mm (by decide) rfl) rfl (by decide) (by decide) (Nat.zero_le _) (Nat.zero_le _) (by decide) (m_X4_thrown hM3) ?_
  refine s_iload dL_law_643 rfl ?_
  refine s_iceq (tgt := 650) dL_law_645 (by decide) (fun _ => ?_) (fun c0 => absurd rfl c0)
  refine s_iload dL_law_650 rfl ?_
  refine s_ifne (tgt := 666) dL_law_652 (by decide) (fun ct => ?_) (fun ct => ?_)
  · skip
    refine s_goto (tgt := 1889) dL_law_666 (by decide) ?_
    obtain ⟨w', I3⟩ := I0.fin g po hM3 f3 R.2.1 (BD.up R.2.2 (by omega))
    exact s_sub (lo_has rfl rfl rfl rfl rfl) (la_b (Nat.le_of_ble_eq_true rfl)) (la_b (Nat.le_of_ble_eq_true rfl)) (kk _ _ _ _ I3)
  · obtain ⟨o1, o2, o3⟩ := I0.row g po f3
    rcases hv with ⟨-, eS⟩ | ⟨nt, -⟩
    · have ev := congrFun o3 0
      rw [eS] at ev
      have ev := ev.trans re_up1
      refine s_aloadn dL_law_655 rfl rfl ?_
      refine s_iconst (v := 0) dL_law_656 (by decide) ?_
      refine s_lald' (j := 0) dL_law_657 (Or.inr (Or.inr o1)) rfl (by rw [o2]; decide) (by rw [o2]; decide) ?_
      rw [ev]
      refine s_lload dL_law_658 rfl ?_
      refine s_lceq (tgt := 666) dL_law_660 dL_law_661 (by decide) (fun _ => ?_) (fun c0 => absurd rfl c0)
      refine s_goto (tgt := 1889) dL_law_666 (by decide) ?_
      obtain ⟨w', I3⟩ := I0.fin g po hM3 f3 R.2.1 (BD.up R.2.2 (by omega))
      exact s_sub (lo_has rfl rfl rfl rfl rfl) (la_b (Nat.le_of_ble_eq_true rfl)) (la_b (Nat.le_of_ble_eq_true rfl)) (kk _ _ _ _ I3)
    · exact absurd ct nt
set_option maxHeartbeats 4000000 in
theorem c_L_discount {tm : Nat × Nat} {Q : Out → Sto → Prop} {sa oa xc xm len q : Nat} {s : Nat → Int32} {S : Sto} {w : CAd} {v : MAd} {c : CC} {m : MC} {bc bs : Nat} (I : LI tm sa oa xc xm len s q S w v c m) (hq : 9 * q + 9 ≤ len) (hl : len ≤ 4608) (hbc : 122 ≤ bc) (hbs : 7532 ≤ bs) (kk : ∀ S1 w1 c1 m1, LI tm sa oa xc xm len s (q + 1) S1 w1 v c1 m1 → Wp (Ev tm) tm M_L_law Q 1889 (lo0 sa oa xc xm q) [] (bc - 122) (bs - 7532) S1) : Wp (Ev tm) tm M_L_law Q 669 (lo0 sa oa xc xm q) [] bc bs S := by
  have I0 := I
  obtain ⟨⟨hC, hM⟩, ⟨hE, hB⟩, ⟨hm, rfl, rfl⟩, ⟨k0, n0, i0⟩, ok, on⟩ := I
  have hq6 : q ≤ 600 := by omega
  refine s_aloadn dL_law_669 rfl rfl ?_
  refine s_aloadn dL_law_670 rfl rfl ?_
  refine s_iload dL_law_671 rfl ?_
  refine s_iconst (v := 1) dL_law_673 (by decide) ?_
  refine s_iadd dL_law_674 ?_
  refine s_sald' (j := 9 * q + 1) dL_law_675 k0 i0 (la_ix (k := 1) hq6 (by decide)) (by rw [n0]; omega) (by rw [n0]; omega) ?_
  refine s_aloadn dL_law_676 rfl rfl ?_
  have R := q_discount (r := (s (9 * q + 1))) hE hB
  have u : unl [(1, 1)] := by unfold unl; decide
  refine s_cw3G (n := 6) dL_law_677 rfl rfl (by decide) (by decide) (Nat.le_trans (Nat.le_of_ble_eq_true rfl) hbc) (Nat.le_trans (Nat.le_of_ble_eq_true rfl) hbs) (by decide) (m_L_discount ok on hC R.1) (fun r S1 hr => ?_) (fun x S1 hr => LQ.x hr)
  obtain ⟨er, S2, hP, hv⟩ := LQI hr R.1 u
  subst er
  have po : Po oa S2 S1 := by
    rcases hv with ⟨-, e⟩ | ⟨-, e⟩
    · exact Or.inr ⟨_, e⟩
    · exact Or.inl e
  have g := PO.gp hP hm
  obtain ⟨hM1, ⟨k1, n1, i1⟩, ok1, on1⟩ := I0.mid g po
  refine s_istore dL_law_680 (by decide) ?_
  refine s_aloadn dL_law_682 rfl rfl ?_
  refine s_aloadn dL_law_683 rfl rfl ?_
  refine s_iload dL_law_684 rfl ?_
  refine s_iconst (v := 1) dL_law_686 (by decide) ?_
  refine s_iadd dL_law_687 ?_
  refine s_sald' (j := 9 * q + 1) dL_law_688 k1 i1 (la_ix (k := 1) hq6 (by decide)) (by rw [n1]; omega) (by rw [n1]; omega) ?_
  refine s_cv1G (n := 104) dL_law_689 rfl (kv hM1.mm (by decide) rfl) rfl (by decide) (by decide) (Nat.zero_le _) (Nat.zero_le _) (by decide) (m_X4_discount hM1 ) (fun r S3 hr3 => ?_) (fun x S3 hr3 => by have := hr3.1; cases this)
  obtain ⟨e3, hM3, f3⟩ := hr3
  cases e3
  refine s_istore dL_law_692 (by decide) ?_
  refine s_aloadn dL_law_694 rfl rfl ?_
  refine s_cv0R (n := 98) dL_law_695 rfl (kv hM3.mm (by decide) rfl) rfl (by decide) (by decide) (Nat.zero_le _) (Nat.zero_le _) (by decide) (m_X4_thrown hM3) ?_
  refine s_iload dL_law_698 rfl ?_
  refine s_iceq (tgt := 705) dL_law_700 (by decide) (fun _ => ?_) (fun c0 => absurd rfl c0)
  refine s_iload dL_law_705 rfl ?_
  refine s_ifne (tgt := 722) dL_law_707 (by decide) (fun ct => ?_) (fun ct => ?_)
  · skip
    refine s_goto (tgt := 1889) dL_law_722 (by decide) ?_
    obtain ⟨w', I3⟩ := I0.fin g po hM3 f3 R.2.1 (BD.up R.2.2 (by omega))
    exact s_sub (lo_has rfl rfl rfl rfl rfl) (la_b (Nat.le_of_ble_eq_true rfl)) (la_b (Nat.le_of_ble_eq_true rfl)) (kk _ _ _ _ I3)
  · obtain ⟨o1, o2, o3⟩ := I0.row g po f3
    rcases hv with ⟨-, eS⟩ | ⟨nt, -⟩
    · have ev := congrFun o3 0
      rw [eS] at ev
      have ev := ev.trans re_up1
      refine s_aloadn dL_law_710 rfl rfl ?_
      refine s_iconst (v := 0) dL_law_711 (by decide) ?_
      refine s_lald' (j := 0) dL_law_712 (Or.inr (Or.inr o1)) rfl (by rw [o2]; decide) (by rw [o2]; decide) ?_
      rw [ev]
      refine s_iload dL_law_713 rfl ?_
      refine s_i2l dL_law_715 ?_
      refine s_lceq (tgt := 722) dL_law_716 dL_law_717 (by decide) (fun _ => ?_) (fun c0 => absurd rfl c0)
      refine s_goto (tgt := 1889) dL_law_722 (by decide) ?_
      obtain ⟨w', I3⟩ := I0.fin g po hM3 f3 R.2.1 (BD.up R.2.2 (by omega))
      exact s_sub (lo_has rfl rfl rfl rfl rfl) (la_b (Nat.le_of_ble_eq_true rfl)) (la_b (Nat.le_of_ble_eq_true rfl)) (kk _ _ _ _ I3)
    · exact absurd ct nt
set_option maxHeartbeats 4000000 in
theorem c_L_offer {tm : Nat × Nat} {Q : Out → Sto → Prop} {sa oa xc xm len q : Nat} {s : Nat → Int32} {S : Sto} {w : CAd} {v : MAd} {c : CC} {m : MC} {bc bs : Nat} (I : LI tm sa oa xc xm len s q S w v c m) (hq : 9 * q + 9 ≤ len) (hl : len ≤ 4608) (hbc : 122 ≤ bc) (hbs : 7532 ≤ bs) (kk : ∀ S1 w1 c1 m1, LI tm sa oa xc xm len s (q + 1) S1 w1 v c1 m1 → Wp (Ev tm) tm M_L_law Q 1889 (lo0 sa oa xc xm q) [] (bc - 122) (bs - 7532) S1) : Wp (Ev tm) tm M_L_law Q 725 (lo0 sa oa xc xm q) [] bc bs S := by
  have I0 := I
  obtain ⟨⟨hC, hM⟩, ⟨hE, hB⟩, ⟨hm, rfl, rfl⟩, ⟨k0, n0, i0⟩, ok, on⟩ := I
  have hq6 : q ≤ 600 := by omega
  refine s_aloadn dL_law_725 rfl rfl ?_
  refine s_aloadn dL_law_726 rfl rfl ?_
  refine s_iload dL_law_727 rfl ?_
  refine s_iconst (v := 1) dL_law_729 (by decide) ?_
  refine s_iadd dL_law_730 ?_
  refine s_sald' (j := 9 * q + 1) dL_law_731 k0 i0 (la_ix (k := 1) hq6 (by decide)) (by rw [n0]; omega) (by rw [n0]; omega) ?_
  refine s_aloadn dL_law_732 rfl rfl ?_
  refine s_iload dL_law_733 rfl ?_
  refine s_iconst (v := 2) dL_law_735 (by decide) ?_
  refine s_iadd dL_law_736 ?_
  refine s_sald' (j := 9 * q + 2) dL_law_737 k0 i0 (la_ix (k := 2) hq6 (by decide)) (by rw [n0]; omega) (by rw [n0]; omega) ?_
  refine s_aloadn dL_law_738 rfl rfl ?_
  refine s_iload dL_law_739 rfl ?_
  refine s_iconst (v := 3) dL_law_741 (by decide) ?_
  refine s_iadd dL_law_742 ?_
  refine s_sald' (j := 9 * q + 3) dL_law_743 k0 i0 (la_ix (k := 3) hq6 (by decide)) (by rw [n0]; omega) (by rw [n0]; omega) ?_
  refine s_aloadn dL_law_744 rfl rfl ?_
  have R := q_offer (a := (s (9 * q + 1))) (q := (s (9 * q + 2))) (y := (s (9 * q + 3))) hE hB
  have u : unl [(1, 1), (2, 2)] := by unfold unl; decide
  refine s_cw5G (n := 7) dL_law_745 rfl rfl (by decide) (by decide) (Nat.le_trans (Nat.le_of_ble_eq_true rfl) hbc) (Nat.le_trans (Nat.le_of_ble_eq_true rfl) hbs) (by decide) (m_L_offer ok on hC hm R.1) (fun r S1 hr => ?_) (fun x S1 hr => LQ.x hr)
  obtain ⟨er, S2, hP, hv⟩ := LQI hr R.1 u
  subst er
  have po : Po oa S2 S1 := by
    rcases hv with ⟨-, e⟩ | ⟨-, e⟩
    · exact Or.inr ⟨_, e⟩
    · exact Or.inl e
  have g := PB.gp hP
  obtain ⟨hM1, ⟨k1, n1, i1⟩, ok1, on1⟩ := I0.mid g po
  refine s_istore dL_law_748 (by decide) ?_
  refine s_aloadn dL_law_750 rfl rfl ?_
  refine s_aloadn dL_law_751 rfl rfl ?_
  refine s_iload dL_law_752 rfl ?_
  refine s_iconst (v := 1) dL_law_754 (by decide) ?_
  refine s_iadd dL_law_755 ?_
  refine s_sald' (j := 9 * q + 1) dL_law_756 k1 i1 (la_ix (k := 1) hq6 (by decide)) (by rw [n1]; omega) (by rw [n1]; omega) ?_
  refine s_aloadn dL_law_757 rfl rfl ?_
  refine s_iload dL_law_758 rfl ?_
  refine s_iconst (v := 2) dL_law_760 (by decide) ?_
  refine s_iadd dL_law_761 ?_
  refine s_sald' (j := 9 * q + 2) dL_law_762 k1 i1 (la_ix (k := 2) hq6 (by decide)) (by rw [n1]; omega) (by rw [n1]; omega) ?_
  refine s_aloadn dL_law_763 rfl rfl ?_
  refine s_iload dL_law_764 rfl ?_
  refine s_iconst (v := 3) dL_law_766 (by decide) ?_
  refine s_iadd dL_law_767 ?_
  refine s_sald' (j := 9 * q + 3) dL_law_768 k1 i1 (la_ix (k := 3) hq6 (by decide)) (by rw [n1]; omega) (by rw [n1]; omega) ?_
  refine s_cv3G (n := 105) dL_law_769 rfl (kv hM1.mm (by decide) rfl) rfl (by decide) (by decide) (Nat.zero_le _) (Nat.zero_le _) (by decide) (m_X4_offer hM1 hE.1.2.1 hB.1.2.1) (fun r S3 hr3 => ?_) (fun x S3 hr3 => by have := hr3.1; cases this)
  obtain ⟨e3, hM3, f3⟩ := hr3
  cases e3
  refine s_istore dL_law_772 (by decide) ?_
  refine s_aloadn dL_law_774 rfl rfl ?_
  refine s_cv0R (n := 98) dL_law_775 rfl (kv hM3.mm (by decide) rfl) rfl (by decide) (by decide) (Nat.zero_le _) (Nat.zero_le _) (by decide) (m_X4_thrown hM3) ?_
  refine s_iload dL_law_778 rfl ?_
  refine s_iceq (tgt := 785) dL_law_780 (by decide) (fun _ => ?_) (fun c0 => absurd rfl c0)
  refine s_iload dL_law_785 rfl ?_
  refine s_ifne (tgt := 802) dL_law_787 (by decide) (fun ct => ?_) (fun ct => ?_)
  · skip
    refine s_goto (tgt := 1889) dL_law_802 (by decide) ?_
    obtain ⟨w', I3⟩ := I0.fin g po hM3 f3 R.2.1 (BD.up R.2.2 (by omega))
    exact s_sub (lo_has rfl rfl rfl rfl rfl) (la_b (Nat.le_of_ble_eq_true rfl)) (la_b (Nat.le_of_ble_eq_true rfl)) (kk _ _ _ _ I3)
  · obtain ⟨o1, o2, o3⟩ := I0.row g po f3
    rcases hv with ⟨-, eS⟩ | ⟨nt, -⟩
    · have ev := congrFun o3 0
      rw [eS] at ev
      have ev := ev.trans re_up1
      refine s_aloadn dL_law_790 rfl rfl ?_
      refine s_iconst (v := 0) dL_law_791 (by decide) ?_
      refine s_lald' (j := 0) dL_law_792 (Or.inr (Or.inr o1)) rfl (by rw [o2]; decide) (by rw [o2]; decide) ?_
      rw [ev]
      refine s_iload dL_law_793 rfl ?_
      refine s_i2l dL_law_795 ?_
      refine s_lceq (tgt := 802) dL_law_796 dL_law_797 (by decide) (fun _ => ?_) (fun c0 => absurd rfl c0)
      refine s_goto (tgt := 1889) dL_law_802 (by decide) ?_
      obtain ⟨w', I3⟩ := I0.fin g po hM3 f3 R.2.1 (BD.up R.2.2 (by omega))
      exact s_sub (lo_has rfl rfl rfl rfl rfl) (la_b (Nat.le_of_ble_eq_true rfl)) (la_b (Nat.le_of_ble_eq_true rfl)) (kk _ _ _ _ I3)
    · exact absurd ct nt
set_option maxHeartbeats 4000000 in
theorem c_L_accept {tm : Nat × Nat} {Q : Out → Sto → Prop} {sa oa xc xm len q : Nat} {s : Nat → Int32} {S : Sto} {w : CAd} {v : MAd} {c : CC} {m : MC} {bc bs : Nat} (I : LI tm sa oa xc xm len s q S w v c m) (hq : 9 * q + 9 ≤ len) (hl : len ≤ 4608) (hbc : 122 ≤ bc) (hbs : 7532 ≤ bs) (kk : ∀ S1 w1 c1 m1, LI tm sa oa xc xm len s (q + 1) S1 w1 v c1 m1 → Wp (Ev tm) tm M_L_law Q 1889 (lo0 sa oa xc xm q) [] (bc - 122) (bs - 7532) S1) : Wp (Ev tm) tm M_L_law Q 805 (lo0 sa oa xc xm q) [] bc bs S := by
  have I0 := I
  obtain ⟨⟨hC, hM⟩, ⟨hE, hB⟩, ⟨hm, rfl, rfl⟩, ⟨k0, n0, i0⟩, ok, on⟩ := I
  have hq6 : q ≤ 600 := by omega
  refine s_aloadn dL_law_805 rfl rfl ?_
  refine s_aloadn dL_law_806 rfl rfl ?_
  refine s_iload dL_law_807 rfl ?_
  refine s_iconst (v := 1) dL_law_809 (by decide) ?_
  refine s_iadd dL_law_810 ?_
  refine s_sald' (j := 9 * q + 1) dL_law_811 k0 i0 (la_ix (k := 1) hq6 (by decide)) (by rw [n0]; omega) (by rw [n0]; omega) ?_
  refine s_aloadn dL_law_812 rfl rfl ?_
  refine s_iload dL_law_813 rfl ?_
  refine s_iconst (v := 2) dL_law_815 (by decide) ?_
  refine s_iadd dL_law_816 ?_
  refine s_sald' (j := 9 * q + 2) dL_law_817 k0 i0 (la_ix (k := 2) hq6 (by decide)) (by rw [n0]; omega) (by rw [n0]; omega) ?_
  refine s_aloadn dL_law_818 rfl rfl ?_
  have R := q_accept (k := (s (9 * q + 1))) (o := (s (9 * q + 2))) hE hB
  have u : unl [(3, 1), (2, 2)] := by unfold unl; decide
  refine s_cw4G (n := 8) dL_law_819 rfl rfl (by decide) (by decide) (Nat.le_trans (Nat.le_of_ble_eq_true rfl) hbc) (Nat.le_trans (Nat.le_of_ble_eq_true rfl) hbs) (by decide) (m_L_accept ok on hC hm R.1) (fun r S1 hr => ?_) (fun x S1 hr => LQ.x hr)
  obtain ⟨er, S2, hP, hv⟩ := LQI hr R.1 u
  subst er
  have po : Po oa S2 S1 := by
    rcases hv with ⟨-, e⟩ | ⟨-, e⟩
    · exact Or.inr ⟨_, e⟩
    · exact Or.inl e
  have g := PA.gp hP
  obtain ⟨hM1, ⟨k1, n1, i1⟩, ok1, on1⟩ := I0.mid g po
  refine s_istore dL_law_822 (by decide) ?_
  refine s_aloadn dL_law_824 rfl rfl ?_
  refine s_aloadn dL_law_825 rfl rfl ?_
  refine s_iload dL_law_826 rfl ?_
  refine s_iconst (v := 1) dL_law_828 (by decide) ?_
  refine s_iadd dL_law_829 ?_
  refine s_sald' (j := 9 * q + 1) dL_law_830 k1 i1 (la_ix (k := 1) hq6 (by decide)) (by rw [n1]; omega) (by rw [n1]; omega) ?_
  refine s_aloadn dL_law_831 rfl rfl ?_
  refine s_iload dL_law_832 rfl ?_
  refine s_iconst (v := 2) dL_law_834 (by decide) ?_
  refine s_iadd dL_law_835 ?_
  refine s_sald' (j := 9 * q + 2) dL_law_836 k1 i1 (la_ix (k := 2) hq6 (by decide)) (by rw [n1]; omega) (by rw [n1]; omega) ?_
  refine s_cv2G (n := 106) dL_law_837 rfl (kv hM1.mm (by decide) rfl) rfl (by decide) (by decide) (Nat.zero_le _) (Nat.zero_le _) (by decide) (m_X4_accept hM1 hE.1.1 hB.1.1 hE.1.2.1 hB.1.2.1 (hE.ks hB) (hE.bs hB) (hE.y hB) (hE.dd hB) (hE.yo hB) (hE.hz hB)) (fun r S3 hr3 => ?_) (fun x S3 hr3 => by have := hr3.1; cases this)
  obtain ⟨e3, hM3, f3⟩ := hr3
  cases e3
  refine s_istore dL_law_840 (by decide) ?_
  refine s_aloadn dL_law_842 rfl rfl ?_
  refine s_cv0R (n := 98) dL_law_843 rfl (kv hM3.mm (by decide) rfl) rfl (by decide) (by decide) (Nat.zero_le _) (Nat.zero_le _) (by decide) (m_X4_thrown hM3) ?_
  refine s_iload dL_law_846 rfl ?_
  refine s_iceq (tgt := 853) dL_law_848 (by decide) (fun _ => ?_) (fun c0 => absurd rfl c0)
  refine s_iload dL_law_853 rfl ?_
  refine s_ifne (tgt := 870) dL_law_855 (by decide) (fun ct => ?_) (fun ct => ?_)
  · skip
    refine s_goto (tgt := 1889) dL_law_870 (by decide) ?_
    obtain ⟨w', I3⟩ := I0.fin g po hM3 f3 R.2.1 (BD.up R.2.2 (by omega))
    exact s_sub (lo_has rfl rfl rfl rfl rfl) (la_b (Nat.le_of_ble_eq_true rfl)) (la_b (Nat.le_of_ble_eq_true rfl)) (kk _ _ _ _ I3)
  · obtain ⟨o1, o2, o3⟩ := I0.row g po f3
    rcases hv with ⟨-, eS⟩ | ⟨nt, -⟩
    · have ev := congrFun o3 0
      rw [eS] at ev
      have ev := ev.trans re_up1
      refine s_aloadn dL_law_858 rfl rfl ?_
      refine s_iconst (v := 0) dL_law_859 (by decide) ?_
      refine s_lald' (j := 0) dL_law_860 (Or.inr (Or.inr o1)) rfl (by rw [o2]; decide) (by rw [o2]; decide) ?_
      rw [ev]
      refine s_iload dL_law_861 rfl ?_
      refine s_i2l dL_law_863 ?_
      refine s_lceq (tgt := 870) dL_law_864 dL_law_865 (by decide) (fun _ => ?_) (fun c0 => absurd rfl c0)
      refine s_goto (tgt := 1889) dL_law_870 (by decide) ?_
      obtain ⟨w', I3⟩ := I0.fin g po hM3 f3 R.2.1 (BD.up R.2.2 (by omega))
      exact s_sub (lo_has rfl rfl rfl rfl rfl) (la_b (Nat.le_of_ble_eq_true rfl)) (la_b (Nat.le_of_ble_eq_true rfl)) (kk _ _ _ _ I3)
    · exact absurd ct nt
set_option maxHeartbeats 4000000 in
theorem c_L_vote {tm : Nat × Nat} {Q : Out → Sto → Prop} {sa oa xc xm len q : Nat} {s : Nat → Int32} {S : Sto} {w : CAd} {v : MAd} {c : CC} {m : MC} {bc bs : Nat} (I : LI tm sa oa xc xm len s q S w v c m) (hq : 9 * q + 9 ≤ len) (hl : len ≤ 4608) (hbc : 122 ≤ bc) (hbs : 7532 ≤ bs) (kk : ∀ S1 w1 c1 m1, LI tm sa oa xc xm len s (q + 1) S1 w1 v c1 m1 → Wp (Ev tm) tm M_L_law Q 1889 (lo0 sa oa xc xm q) [] (bc - 122) (bs - 7532) S1) : Wp (Ev tm) tm M_L_law Q 873 (lo0 sa oa xc xm q) [] bc bs S := by
  have I0 := I
  obtain ⟨⟨hC, hM⟩, ⟨hE, hB⟩, ⟨hm, rfl, rfl⟩, ⟨k0, n0, i0⟩, ok, on⟩ := I
  have hq6 : q ≤ 600 := by omega
  refine s_aloadn dL_law_873 rfl rfl ?_
  refine s_aloadn dL_law_874 rfl rfl ?_
  refine s_iload dL_law_875 rfl ?_
  refine s_iconst (v := 1) dL_law_877 (by decide) ?_
  refine s_iadd dL_law_878 ?_
  refine s_sald' (j := 9 * q + 1) dL_law_879 k0 i0 (la_ix (k := 1) hq6 (by decide)) (by rw [n0]; omega) (by rw [n0]; omega) ?_
  refine s_aloadn dL_law_880 rfl rfl ?_
  refine s_iload dL_law_881 rfl ?_
  refine s_iconst (v := 2) dL_law_883 (by decide) ?_
  refine s_iadd dL_law_884 ?_
  refine s_sald' (j := 9 * q + 2) dL_law_885 k0 i0 (la_ix (k := 2) hq6 (by decide)) (by rw [n0]; omega) (by rw [n0]; omega) ?_
  refine s_aloadn dL_law_886 rfl rfl ?_
  refine s_iload dL_law_887 rfl ?_
  refine s_iconst (v := 3) dL_law_889 (by decide) ?_
  refine s_iadd dL_law_890 ?_
  refine s_sald' (j := 9 * q + 3) dL_law_891 k0 i0 (la_ix (k := 3) hq6 (by decide)) (by rw [n0]; omega) (by rw [n0]; omega) ?_
  refine s_ifeq (tgt := 899) dL_law_892 (by decide) (fun cz => ?_) (fun cz => ?_)
  · have hz : (0 : Int32) = 0 ∨ (0 : Int32) = 1 := Or.inl rfl
    refine s_iconst (v := 0) dL_law_899 (by decide) ?_
    have R := q_vote (k := (s (9 * q + 1))) (o := (s (9 * q + 2))) (z := 0) hz hE hB
    have u : unl [(3, 1), (2, 2)] := by unfold unl; decide
    refine s_cw4G (n := 9) dL_law_900 rfl rfl (by decide) (by decide) (Nat.le_trans (Nat.le_of_ble_eq_true rfl) hbc) (Nat.le_trans (Nat.le_of_ble_eq_true rfl) hbs) (by decide) (m_L_vote hC hz R.1) (fun r S1 hr => ?_) (fun x S1 hr => LQ.x hr)
    obtain ⟨er, hP⟩ := LQV hr R.1 u
    subst er
    have po : Po oa S1 S1 := Or.inl rfl
    have g := PO.gp hP hm
    obtain ⟨hM1, ⟨k1, n1, i1⟩, ok1, on1⟩ := I0.mid g po
    refine s_istore dL_law_903 (by decide) ?_
    refine s_aloadn dL_law_905 rfl rfl ?_
    refine s_aloadn dL_law_906 rfl rfl ?_
    refine s_iload dL_law_907 rfl ?_
    refine s_iconst (v := 1) dL_law_909 (by decide) ?_
    refine s_iadd dL_law_910 ?_
    refine s_sald' (j := 9 * q + 1) dL_law_911 k1 i1 (la_ix (k := 1) hq6 (by decide)) (by rw [n1]; omega) (by rw [n1]; omega) ?_
    refine s_aloadn dL_law_912 rfl rfl ?_
    refine s_iload dL_law_913 rfl ?_
    refine s_iconst (v := 2) dL_law_915 (by decide) ?_
    refine s_iadd dL_law_916 ?_
    refine s_sald' (j := 9 * q + 2) dL_law_917 k1 i1 (la_ix (k := 2) hq6 (by decide)) (by rw [n1]; omega) (by rw [n1]; omega) ?_
    refine s_aloadn dL_law_918 rfl rfl ?_
    refine s_iload dL_law_919 rfl ?_
    refine s_iconst (v := 3) dL_law_921 (by decide) ?_
    refine s_iadd dL_law_922 ?_
    refine s_sald' (j := 9 * q + 3) dL_law_923 k1 i1 (la_ix (k := 3) hq6 (by decide)) (by rw [n1]; omega) (by rw [n1]; omega) ?_
    refine s_ifeq (tgt := 931) dL_law_924 (by decide) (fun _ => ?_) (fun cz2 => absurd cz cz2)
    refine s_iconst (v := 0) dL_law_931 (by decide) ?_
    refine s_cv3G (n := 107) dL_law_932 rfl (kv hM1.mm (by decide) rfl) rfl (by decide) (by decide) (Nat.zero_le _) (Nat.zero_le _) (by decide) (m_X4_vote hM1 hE.1.1 hB.1.1 hE.1.2.1 hB.1.2.1 hz) (fun r S3 hr3 => ?_) (fun x S3 hr3 => by have := hr3.1; cases this)
    obtain ⟨e3, hM3, f3⟩ := hr3
    cases e3
    refine s_aloadn dL_law_935 rfl rfl ?_
    refine s_cv0R (n := 98) dL_law_936 rfl (kv hM3.mm (by decide) rfl) rfl (by decide) (by decide) (Nat.zero_le _) (Nat.zero_le _) (by decide) (m_X4_thrown hM3) ?_
    refine s_iload dL_law_939 rfl ?_
    refine s_iceq (tgt := 946) dL_law_941 (by decide) (fun _ => ?_) (fun c0 => absurd rfl c0)
    refine s_goto (tgt := 1889) dL_law_946 (by decide) ?_
    obtain ⟨w', I3⟩ := I0.fin g po hM3 f3 R.2.1 (BD.up R.2.2 (by omega))
    exact s_sub (lo_has rfl rfl rfl rfl rfl) (la_b (Nat.le_of_ble_eq_true rfl)) (la_b (Nat.le_of_ble_eq_true rfl)) (kk _ _ _ _ I3)
  · have hz : (1 : Int32) = 0 ∨ (1 : Int32) = 1 := Or.inr rfl
    refine s_iconst (v := 1) dL_law_895 (by decide) ?_
    refine s_goto (tgt := 900) dL_law_896 (by decide) ?_
    have R := q_vote (k := (s (9 * q + 1))) (o := (s (9 * q + 2))) (z := 1) hz hE hB
    have u : unl [(3, 1), (2, 2)] := by unfold unl; decide
    refine s_cw4G (n := 9) dL_law_900 rfl rfl (by decide) (by decide) (Nat.le_trans (Nat.le_of_ble_eq_true rfl) hbc) (Nat.le_trans (Nat.le_of_ble_eq_true rfl) hbs) (by decide) (m_L_vote hC hz R.1) (fun r S1 hr => ?_) (fun x S1 hr => LQ.x hr)
    obtain ⟨er, hP⟩ := LQV hr R.1 u
    subst er
    have po : Po oa S1 S1 := Or.inl rfl
    have g := PO.gp hP hm
    obtain ⟨hM1, ⟨k1, n1, i1⟩, ok1, on1⟩ := I0.mid g po
    refine s_istore dL_law_903 (by decide) ?_
    refine s_aloadn dL_law_905 rfl rfl ?_
    refine s_aloadn dL_law_906 rfl rfl ?_
    refine s_iload dL_law_907 rfl ?_
    refine s_iconst (v := 1) dL_law_909 (by decide) ?_
    refine s_iadd dL_law_910 ?_
    refine s_sald' (j := 9 * q + 1) dL_law_911 k1 i1 (la_ix (k := 1) hq6 (by decide)) (by rw [n1]; omega) (by rw [n1]; omega) ?_
    refine s_aloadn dL_law_912 rfl rfl ?_
    refine s_iload dL_law_913 rfl ?_
    refine s_iconst (v := 2) dL_law_915 (by decide) ?_
    refine s_iadd dL_law_916 ?_
    refine s_sald' (j := 9 * q + 2) dL_law_917 k1 i1 (la_ix (k := 2) hq6 (by decide)) (by rw [n1]; omega) (by rw [n1]; omega) ?_
    refine s_aloadn dL_law_918 rfl rfl ?_
    refine s_iload dL_law_919 rfl ?_
    refine s_iconst (v := 3) dL_law_921 (by decide) ?_
    refine s_iadd dL_law_922 ?_
    refine s_sald' (j := 9 * q + 3) dL_law_923 k1 i1 (la_ix (k := 3) hq6 (by decide)) (by rw [n1]; omega) (by rw [n1]; omega) ?_
    refine s_ifeq (tgt := 931) dL_law_924 (by decide) (fun cz2 => absurd cz2 cz) (fun _ => ?_)
    refine s_iconst (v := 1) dL_law_927 (by decide) ?_
    refine s_goto (tgt := 932) dL_law_928 (by decide) ?_
    refine s_cv3G (n := 107) dL_law_932 rfl (kv hM1.mm (by decide) rfl) rfl (by decide) (by decide) (Nat.zero_le _) (Nat.zero_le _) (by decide) (m_X4_vote hM1 hE.1.1 hB.1.1 hE.1.2.1 hB.1.2.1 hz) (fun r S3 hr3 => ?_) (fun x S3 hr3 => by have := hr3.1; cases this)
    obtain ⟨e3, hM3, f3⟩ := hr3
    cases e3
    refine s_aloadn dL_law_935 rfl rfl ?_
    refine s_cv0R (n := 98) dL_law_936 rfl (kv hM3.mm (by decide) rfl) rfl (by decide) (by decide) (Nat.zero_le _) (Nat.zero_le _) (by decide) (m_X4_thrown hM3) ?_
    refine s_iload dL_law_939 rfl ?_
    refine s_iceq (tgt := 946) dL_law_941 (by decide) (fun _ => ?_) (fun c0 => absurd rfl c0)
    refine s_goto (tgt := 1889) dL_law_946 (by decide) ?_
    obtain ⟨w', I3⟩ := I0.fin g po hM3 f3 R.2.1 (BD.up R.2.2 (by omega))
    exact s_sub (lo_has rfl rfl rfl rfl rfl) (la_b (Nat.le_of_ble_eq_true rfl)) (la_b (Nat.le_of_ble_eq_true rfl)) (kk _ _ _ _ I3)
set_option maxHeartbeats 4000000 in
theorem c_L_settle {tm : Nat × Nat} {Q : Out → Sto → Prop} {sa oa xc xm len q : Nat} {s : Nat → Int32} {S : Sto} {w : CAd} {v : MAd} {c : CC} {m : MC} {bc bs : Nat} (I : LI tm sa oa xc xm len s q S w v c m) (hq : 9 * q + 9 ≤ len) (hl : len ≤ 4608) (hbc : 122 ≤ bc) (hbs : 7532 ≤ bs) (kk : ∀ S1 w1 c1 m1, LI tm sa oa xc xm len s (q + 1) S1 w1 v c1 m1 → Wp (Ev tm) tm M_L_law Q 1889 (lo0 sa oa xc xm q) [] (bc - 122) (bs - 7532) S1) : Wp (Ev tm) tm M_L_law Q 949 (lo0 sa oa xc xm q) [] bc bs S := by
  have I0 := I
  obtain ⟨⟨hC, hM⟩, ⟨hE, hB⟩, ⟨hm, rfl, rfl⟩, ⟨k0, n0, i0⟩, ok, on⟩ := I
  have hq6 : q ≤ 600 := by omega
  refine s_aloadn dL_law_949 rfl rfl ?_
  refine s_aloadn dL_law_950 rfl rfl ?_
  refine s_iload dL_law_951 rfl ?_
  refine s_iconst (v := 1) dL_law_953 (by decide) ?_
  refine s_iadd dL_law_954 ?_
  refine s_sald' (j := 9 * q + 1) dL_law_955 k0 i0 (la_ix (k := 1) hq6 (by decide)) (by rw [n0]; omega) (by rw [n0]; omega) ?_
  refine s_aloadn dL_law_956 rfl rfl ?_
  have R := q_settle (o := (s (9 * q + 1))) hE hB
  have u : unl [(3, 1), (2, 2)] := by unfold unl; decide
  refine s_cw3G (n := 10) dL_law_957 rfl rfl (by decide) (by decide) (Nat.le_trans (Nat.le_of_ble_eq_true rfl) hbc) (Nat.le_trans (Nat.le_of_ble_eq_true rfl) hbs) (by decide) (m_L_settle ok on hC hm R.1) (fun r S1 hr => ?_) (fun x S1 hr => LQ.x hr)
  obtain ⟨er, S2, hP, hv⟩ := LQI hr R.1 u
  subst er
  have po : Po oa S2 S1 := by
    rcases hv with ⟨-, e⟩ | ⟨-, e⟩
    · exact Or.inr ⟨_, e⟩
    · exact Or.inl e
  have g := PA.gp hP
  obtain ⟨hM1, ⟨k1, n1, i1⟩, ok1, on1⟩ := I0.mid g po
  refine s_istore dL_law_960 (by decide) ?_
  refine s_aloadn dL_law_962 rfl rfl ?_
  refine s_aloadn dL_law_963 rfl rfl ?_
  refine s_iload dL_law_964 rfl ?_
  refine s_iconst (v := 1) dL_law_966 (by decide) ?_
  refine s_iadd dL_law_967 ?_
  refine s_sald' (j := 9 * q + 1) dL_law_968 k1 i1 (la_ix (k := 1) hq6 (by decide)) (by rw [n1]; omega) (by rw [n1]; omega) ?_
  refine s_cv1G (n := 108) dL_law_969 rfl (kv hM1.mm (by decide) rfl) rfl (by decide) (by decide) (Nat.zero_le _) (Nat.zero_le _) (by decide) (m_X4_settle hM1 hE.1.1 hB.1.1 hE.1.2.1 hB.1.2.1 (hE.ks hB) (hE.bs hB) (hE.y hB) (hE.dd hB) (hE.yo hB) (hE.hz hB)) (fun r S3 hr3 => ?_) (fun x S3 hr3 => by have := hr3.1; cases this)
  obtain ⟨e3, hM3, f3⟩ := hr3
  cases e3
  refine s_istore dL_law_972 (by decide) ?_
  refine s_aloadn dL_law_974 rfl rfl ?_
  refine s_cv0R (n := 98) dL_law_975 rfl (kv hM3.mm (by decide) rfl) rfl (by decide) (by decide) (Nat.zero_le _) (Nat.zero_le _) (by decide) (m_X4_thrown hM3) ?_
  refine s_iload dL_law_978 rfl ?_
  refine s_iceq (tgt := 985) dL_law_980 (by decide) (fun _ => ?_) (fun c0 => absurd rfl c0)
  refine s_iload dL_law_985 rfl ?_
  refine s_ifne (tgt := 1002) dL_law_987 (by decide) (fun ct => ?_) (fun ct => ?_)
  · skip
    refine s_goto (tgt := 1889) dL_law_1002 (by decide) ?_
    obtain ⟨w', I3⟩ := I0.fin g po hM3 f3 R.2.1 (BD.up R.2.2 (by omega))
    exact s_sub (lo_has rfl rfl rfl rfl rfl) (la_b (Nat.le_of_ble_eq_true rfl)) (la_b (Nat.le_of_ble_eq_true rfl)) (kk _ _ _ _ I3)
  · obtain ⟨o1, o2, o3⟩ := I0.row g po f3
    rcases hv with ⟨-, eS⟩ | ⟨nt, -⟩
    · have ev := congrFun o3 0
      rw [eS] at ev
      have ev := ev.trans re_up1
      refine s_aloadn dL_law_990 rfl rfl ?_
      refine s_iconst (v := 0) dL_law_991 (by decide) ?_
      refine s_lald' (j := 0) dL_law_992 (Or.inr (Or.inr o1)) rfl (by rw [o2]; decide) (by rw [o2]; decide) ?_
      rw [ev]
      refine s_iload dL_law_993 rfl ?_
      refine s_i2l dL_law_995 ?_
      refine s_lceq (tgt := 1002) dL_law_996 dL_law_997 (by decide) (fun _ => ?_) (fun c0 => absurd rfl c0)
      refine s_goto (tgt := 1889) dL_law_1002 (by decide) ?_
      obtain ⟨w', I3⟩ := I0.fin g po hM3 f3 R.2.1 (BD.up R.2.2 (by omega))
      exact s_sub (lo_has rfl rfl rfl rfl rfl) (la_b (Nat.le_of_ble_eq_true rfl)) (la_b (Nat.le_of_ble_eq_true rfl)) (kk _ _ _ _ I3)
    · exact absurd ct nt
set_option maxHeartbeats 4000000 in
theorem c_L_thing {tm : Nat × Nat} {Q : Out → Sto → Prop} {sa oa xc xm len q : Nat} {s : Nat → Int32} {S : Sto} {w : CAd} {v : MAd} {c : CC} {m : MC} {bc bs : Nat} (I : LI tm sa oa xc xm len s q S w v c m) (hq : 9 * q + 9 ≤ len) (hl : len ≤ 4608) (hbc : 122 ≤ bc) (hbs : 7532 ≤ bs) (kk : ∀ S1 w1 c1 m1, LI tm sa oa xc xm len s (q + 1) S1 w1 v c1 m1 → Wp (Ev tm) tm M_L_law Q 1889 (lo0 sa oa xc xm q) [] (bc - 122) (bs - 7532) S1) : Wp (Ev tm) tm M_L_law Q 1005 (lo0 sa oa xc xm q) [] bc bs S := by
  have I0 := I
  obtain ⟨⟨hC, hM⟩, ⟨hE, hB⟩, ⟨hm, rfl, rfl⟩, ⟨k0, n0, i0⟩, ok, on⟩ := I
  have hq6 : q ≤ 600 := by omega
  refine s_aloadn dL_law_1005 rfl rfl ?_
  refine s_aloadn dL_law_1006 rfl rfl ?_
  refine s_iload dL_law_1007 rfl ?_
  refine s_iconst (v := 1) dL_law_1009 (by decide) ?_
  refine s_iadd dL_law_1010 ?_
  refine s_sald' (j := 9 * q + 1) dL_law_1011 k0 i0 (la_ix (k := 1) hq6 (by decide)) (by rw [n0]; omega) (by rw [n0]; omega) ?_
  refine s_aloadn dL_law_1012 rfl rfl ?_
  have R := q_thing (v := (s (9 * q + 1))) hE hB
  have u : unl [(1, 1), (2, 2)] := by unfold unl; decide
  refine s_cw3G (n := 11) dL_law_1013 rfl rfl (by decide) (by decide) (Nat.le_trans (Nat.le_of_ble_eq_true rfl) hbc) (Nat.le_trans (Nat.le_of_ble_eq_true rfl) hbs) (by decide) (m_L_thing ok on hC hm R.1) (fun r S1 hr => ?_) (fun x S1 hr => LQ.x hr)
  obtain ⟨er, S2, hP, hv⟩ := LQI hr R.1 u
  subst er
  have po : Po oa S2 S1 := by
    rcases hv with ⟨-, e⟩ | ⟨-, e⟩
    · exact Or.inr ⟨_, e⟩
    · exact Or.inl e
  have g := PG.gp hP
  obtain ⟨hM1, ⟨k1, n1, i1⟩, ok1, on1⟩ := I0.mid g po
  refine s_istore dL_law_1016 (by decide) ?_
  refine s_aloadn dL_law_1018 rfl rfl ?_
  refine s_aloadn dL_law_1019 rfl rfl ?_
  refine s_iload dL_law_1020 rfl ?_
  refine s_iconst (v := 1) dL_law_1022 (by decide) ?_
  refine s_iadd dL_law_1023 ?_
  refine s_sald' (j := 9 * q + 1) dL_law_1024 k1 i1 (la_ix (k := 1) hq6 (by decide)) (by rw [n1]; omega) (by rw [n1]; omega) ?_
  refine s_cv1G (n := 109) dL_law_1025 rfl (kv hM1.mm (by decide) rfl) rfl (by decide) (by decide) (Nat.zero_le _) (Nat.zero_le _) (by decide) (m_X4_thing hM1 hE.1.2.2.1 hB.1.2.2.1) (fun r S3 hr3 => ?_) (fun x S3 hr3 => by have := hr3.1; cases this)
  obtain ⟨e3, hM3, f3⟩ := hr3
  cases e3
  refine s_istore dL_law_1028 (by decide) ?_
  refine s_aloadn dL_law_1030 rfl rfl ?_
  refine s_cv0R (n := 98) dL_law_1031 rfl (kv hM3.mm (by decide) rfl) rfl (by decide) (by decide) (Nat.zero_le _) (Nat.zero_le _) (by decide) (m_X4_thrown hM3) ?_
  refine s_iload dL_law_1034 rfl ?_
  refine s_iceq (tgt := 1041) dL_law_1036 (by decide) (fun _ => ?_) (fun c0 => absurd rfl c0)
  refine s_iload dL_law_1041 rfl ?_
  refine s_ifne (tgt := 1058) dL_law_1043 (by decide) (fun ct => ?_) (fun ct => ?_)
  · skip
    refine s_goto (tgt := 1889) dL_law_1058 (by decide) ?_
    obtain ⟨w', I3⟩ := I0.fin g po hM3 f3 R.2.1 (BD.up R.2.2 (by omega))
    exact s_sub (lo_has rfl rfl rfl rfl rfl) (la_b (Nat.le_of_ble_eq_true rfl)) (la_b (Nat.le_of_ble_eq_true rfl)) (kk _ _ _ _ I3)
  · obtain ⟨o1, o2, o3⟩ := I0.row g po f3
    rcases hv with ⟨-, eS⟩ | ⟨nt, -⟩
    · have ev := congrFun o3 0
      rw [eS] at ev
      have ev := ev.trans re_up1
      refine s_aloadn dL_law_1046 rfl rfl ?_
      refine s_iconst (v := 0) dL_law_1047 (by decide) ?_
      refine s_lald' (j := 0) dL_law_1048 (Or.inr (Or.inr o1)) rfl (by rw [o2]; decide) (by rw [o2]; decide) ?_
      rw [ev]
      refine s_iload dL_law_1049 rfl ?_
      refine s_i2l dL_law_1051 ?_
      refine s_lceq (tgt := 1058) dL_law_1052 dL_law_1053 (by decide) (fun _ => ?_) (fun c0 => absurd rfl c0)
      refine s_goto (tgt := 1889) dL_law_1058 (by decide) ?_
      obtain ⟨w', I3⟩ := I0.fin g po hM3 f3 R.2.1 (BD.up R.2.2 (by omega))
      exact s_sub (lo_has rfl rfl rfl rfl rfl) (la_b (Nat.le_of_ble_eq_true rfl)) (la_b (Nat.le_of_ble_eq_true rfl)) (kk _ _ _ _ I3)
    · exact absurd ct nt
set_option maxHeartbeats 4000000 in
theorem c_L_sue {tm : Nat × Nat} {Q : Out → Sto → Prop} {sa oa xc xm len q : Nat} {s : Nat → Int32} {S : Sto} {w : CAd} {v : MAd} {c : CC} {m : MC} {bc bs : Nat} (I : LI tm sa oa xc xm len s q S w v c m) (hq : 9 * q + 9 ≤ len) (hl : len ≤ 4608) (hbc : 122 ≤ bc) (hbs : 7532 ≤ bs) (kk : ∀ S1 w1 c1 m1, LI tm sa oa xc xm len s (q + 1) S1 w1 v c1 m1 → Wp (Ev tm) tm M_L_law Q 1889 (lo0 sa oa xc xm q) [] (bc - 122) (bs - 7532) S1) : Wp (Ev tm) tm M_L_law Q 1061 (lo0 sa oa xc xm q) [] bc bs S := by
  have I0 := I
  obtain ⟨⟨hC, hM⟩, ⟨hE, hB⟩, ⟨hm, rfl, rfl⟩, ⟨k0, n0, i0⟩, ok, on⟩ := I
  have hq6 : q ≤ 600 := by omega
  refine s_aloadn dL_law_1061 rfl rfl ?_
  refine s_aloadn dL_law_1062 rfl rfl ?_
  refine s_iload dL_law_1063 rfl ?_
  refine s_iconst (v := 1) dL_law_1065 (by decide) ?_
  refine s_iadd dL_law_1066 ?_
  refine s_sald' (j := 9 * q + 1) dL_law_1067 k0 i0 (la_ix (k := 1) hq6 (by decide)) (by rw [n0]; omega) (by rw [n0]; omega) ?_
  have R := q_sue (k := (s (9 * q + 1))) hE hB
  have u : unl [(3, 1), (2, 2)] := by unfold unl; decide
  refine s_cw2G (n := 12) dL_law_1068 rfl rfl (by decide) (by decide) (Nat.le_trans (Nat.le_of_ble_eq_true rfl) hbc) (Nat.le_trans (Nat.le_of_ble_eq_true rfl) hbs) (by decide) (m_L_sue hC R.1) (fun r S1 hr => ?_) (fun x S1 hr => LQ.x hr)
  obtain ⟨er, hP⟩ := LQV hr R.1 u
  subst er
  have po : Po oa S1 S1 := Or.inl rfl
  have g := PO.gp hP hm
  obtain ⟨hM1, ⟨k1, n1, i1⟩, ok1, on1⟩ := I0.mid g po
  refine s_istore dL_law_1071 (by decide) ?_
  refine s_aloadn dL_law_1073 rfl rfl ?_
  refine s_aloadn dL_law_1074 rfl rfl ?_
  refine s_iload dL_law_1075 rfl ?_
  refine s_iconst (v := 1) dL_law_1077 (by decide) ?_
  refine s_iadd dL_law_1078 ?_
  refine s_sald' (j := 9 * q + 1) dL_law_1079 k1 i1 (la_ix (k := 1) hq6 (by decide)) (by rw [n1]; omega) (by rw [n1]; omega) ?_
  refine s_cv1G (n := 110) dL_law_1080 rfl (kv hM1.mm (by decide) rfl) rfl (by decide) (by decide) (Nat.zero_le _) (Nat.zero_le _) (by decide) (m_X4_sue hM1 hE.1.1 hB.1.1) (fun r S3 hr3 => ?_) (fun x S3 hr3 => by have := hr3.1; cases this)
  obtain ⟨e3, hM3, f3⟩ := hr3
  cases e3
  refine s_aloadn dL_law_1083 rfl rfl ?_
  refine s_cv0R (n := 98) dL_law_1084 rfl (kv hM3.mm (by decide) rfl) rfl (by decide) (by decide) (Nat.zero_le _) (Nat.zero_le _) (by decide) (m_X4_thrown hM3) ?_
  refine s_iload dL_law_1087 rfl ?_
  refine s_iceq (tgt := 1094) dL_law_1089 (by decide) (fun _ => ?_) (fun c0 => absurd rfl c0)
  refine s_goto (tgt := 1889) dL_law_1094 (by decide) ?_
  obtain ⟨w', I3⟩ := I0.fin g po hM3 f3 R.2.1 (BD.up R.2.2 (by omega))
  exact s_sub (lo_has rfl rfl rfl rfl rfl) (la_b (Nat.le_of_ble_eq_true rfl)) (la_b (Nat.le_of_ble_eq_true rfl)) (kk _ _ _ _ I3)
