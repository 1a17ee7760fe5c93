/-! THE LAW, 17: a step, case by case -/
theorem LW.up {tm : Nat × Nat} {th da wa t : Nat} {S : Sto} {w : CAd} {c : CC} (L : LW tm th da wa t S w c) (ht : t < 600) : LW tm th da wa (t + 1) S w c := ⟨L.1, L.2.1, L.2.2.1, L.2.2.2.up ht⟩
theorem nI_nz {n : Nat} (hn : n < 1000) (h : ¬ n = 0) : ¬ nI n = 0 := by
  intro e
  have := re_nI (show n < 2147483648 by omega)
  rw [e, show (0 : Int32).toInt = 0 from rfl] at this
  omega
theorem st_nn {n no nt t : Nat} {c : CC} (b : BD n no nt t c) {i : Nat} (hi : i < n) : ¬ (c.ci i 8).toInt64 < 0 := by
  rcases (b.at hi).2.2.2.2.2.2.2.1 with e | e | e <;> rw [e] <;> decide
set_option maxHeartbeats 8000000 in
theorem c_step_152 {tm : Nat × Nat} {S : Sto} {da wa t : Nat} {w : CAd} {c : CC} {x a b cl of : Int32} (L : LW tm w.th da wa t S w c) (ht : t < 600) (ha : 0 ≤ a.toInt) (hb : 0 ≤ b.toInt) : Wp (Ev tm) tm M_L_step (GL tm w.th da wa (t + 1) S) 152 [(0, .ref w.th), (1, .ref da), (2, .ref wa), (3, .int x), (4, .int a), (5, .int b), (6, .int cl), (7, .int of)] [] 420 16000 S := by
  obtain ⟨⟨hC, hm, -⟩, hD, hW, hI⟩ := L
  have hf : F12 S S := F12.rf
  have hn := hI.b.1.1
  have hno := hI.b.1.2.1
  have hnt := hI.b.1.2.2.1
  have k1 : rng (a - a / 5 * 5) 0 4 := by
    obtain ⟨y1, y2⟩ := rem_rng (a := a) ha (b := 5) (B := 5) rfl (by decide)
    exact rng_of y1 (by show _ ≤ (4 : Int); omega)
  have k2 : rng (b - b / 8 * 8) 0 7 := by
    obtain ⟨y1, y2⟩ := rem_rng (a := b) hb (b := 8) (B := 8) rfl (by decide)
    exact rng_of y1 (by show _ ≤ (7 : Int); omega)
  have k3 : rng (1 + ((b / 8) - (b / 8) / 1000000 * 1000000)) 1 1000000 := by
    obtain ⟨y1, y2⟩ := rem_rng (a := b / 8) (div_nn hb (b := 8) (B := 8) rfl (by decide)) (b := 1000000) (B := 1000000) rfl (by decide)
    have y3 := one_add y1 y2 (by decide)
    exact rng_of (by rw [y3]; show (1 : Int) ≤ _; omega) (by rw [y3]; show _ ≤ (1000000 : Int); omega)
  have k4 : rng ((a / 5) - (a / 5) / 1001 * 1001) 0 1000 := by
    obtain ⟨y1, y2⟩ := rem_rng (a := a / 5) (div_nn ha (b := 5) (B := 5) rfl (by decide)) (b := 1001) (B := 1001) rfl (by decide)
    exact rng_of y1 (by show _ ≤ (1000 : Int); omega)
  have k5 : rng (1 + ((a / 5005) - (a / 5005) / 30 * 30)) 1 30 := by
    obtain ⟨y1, y2⟩ := rem_rng (a := a / 5005) (div_nn ha (b := 5005) (B := 5005) rfl (by decide)) (b := 30) (B := 30) rfl (by decide)
    have y3 := one_add y1 y2 (by decide)
    exact rng_of (by rw [y3]; show (1 : Int) ≤ _; omega) (by rw [y3]; show _ ≤ (30 : Int); omega)
  have k6 : rng (b - b / 3 * 3) 0 2 := by
    obtain ⟨y1, y2⟩ := rem_rng (a := b) hb (b := 3) (B := 3) rfl (by decide)
    exact rng_of y1 (by show _ ≤ (2 : Int); omega)
  have k7 : (a - a / 5 * 5 = 1 ∧ rng (if a - a / 5 * 5 = 1 then (b - b / 8 * 8) - (b - b / 8 * 8) / 4 * 4 else -1) 0 3) ∨ (¬ a - a / 5 * 5 = 1 ∧ (if a - a / 5 * 5 = 1 then (b - b / 8 * 8) - (b - b / 8 * 8) / 4 * 4 else -1) = -1) := by
    by_cases h : a - a / 5 * 5 = 1
    · refine Or.inl ⟨h, ?_⟩
      rw [if_pos h]
      obtain ⟨y1, y2⟩ := rem_rng (a := b - b / 8 * 8) (re_ile.mp k2.1) (b := 4) (B := 4) rfl (by decide)
      exact rng_of y1 (by show _ ≤ (3 : Int); omega)
    · exact Or.inr ⟨h, if_neg h⟩
  refine s_aloadn dL_step_152 rfl rfl ?_
  refine s_iload dL_step_153 rfl ?_
  refine s_iconst (v := 5) dL_step_155 (by decide) ?_
  refine s_irem dL_step_156 (by decide) ?_
  refine s_iload dL_step_157 rfl ?_
  refine s_bipush (v := 8) dL_step_159 (by decide) ?_
  refine s_irem dL_step_161 (by decide) ?_
  refine s_iconst (v := 1) dL_step_162 (by decide) ?_
  refine s_iload dL_step_163 rfl ?_
  refine s_bipush (v := 8) dL_step_165 (by decide) ?_
  refine s_idiv dL_step_167 (by decide) ?_
  refine s_ldc (v := 1000000) dL_step_168 cstL_63 ?_
  refine s_irem dL_step_170 (by decide) ?_
  refine s_iadd dL_step_171 ?_
  refine s_iload dL_step_172 rfl ?_
  refine s_iconst (v := 5) dL_step_174 (by decide) ?_
  refine s_idiv dL_step_175 (by decide) ?_
  refine s_sipush (v := 1001) dL_step_176 (by decide) ?_
  refine s_irem dL_step_179 (by decide) ?_
  refine s_iconst (v := 1) dL_step_180 (by decide) ?_
  refine s_iload dL_step_181 rfl ?_
  refine s_sipush (v := 5005) dL_step_183 (by decide) ?_
  refine s_idiv dL_step_186 (by decide) ?_
  refine s_bipush (v := 30) dL_step_187 (by decide) ?_
  refine s_irem dL_step_189 (by decide) ?_
  refine s_iadd dL_step_190 ?_
  refine s_iload dL_step_191 rfl ?_
  refine s_iconst (v := 3) dL_step_193 (by decide) ?_
  refine s_irem dL_step_194 (by decide) ?_
  refine s_iload dL_step_195 rfl ?_
  refine s_bipush (v := 64) dL_step_197 (by decide) ?_
  refine s_idiv dL_step_199 (by decide) ?_
  refine s_iconst (v := 4) dL_step_200 (by decide) ?_
  refine s_irem dL_step_201 (by decide) ?_
  refine s_ifne (tgt := 209) dL_step_202 (by decide) (fun _ => ?_) (fun _ => ?_)
  · skip
    refine s_iconst (v := 0) dL_step_209 (by decide) ?_
    rcases p_claim (z := 0) hI (Or.inl rfl) k1 k2 k3 k4 k5 k6 k7 with ⟨e40, eF⟩ | ⟨hn4, c2, eF, hI2, t2, j2, a2, u1, u2, u3⟩
    · skip
      refine s_cw8G (n := 5) dL_step_210 rfl rfl (by decide) (by decide) (by decide) (by decide) (Nat.le_of_ble_eq_true rfl) (m_L_claims hC hm (Or.inl rfl) (R := .inl (some (.int (-2)))) (Or.inr ⟨by rw [eF], rfl⟩)) (fun r S5 hr5 => ?_) (fun x S2 hr => by have h := hr.1; cases h)
      obtain ⟨er, hp5⟩ := hr5
      cases er
      have g := PA.gp hp5
      rw [eF] at g
      dsimp only at g
      obtain ⟨w5, gt5, gn5, go5, gg5, hm5, hC5, fr5⟩ := g
      have hD5 := hD.fr fr5
      have hW5 := hW.fr fr5
      have hf5 := hf.fr fr5
      rw [← gt5]
      refine s_istore dL_step_213 (by decide) ?_
      refine s_aloadn dL_step_215 rfl rfl ?_
      refine s_iconst (v := 0) dL_step_216 (by decide) ?_
      refine s_dup2 dL_step_217 rfl rfl ?_
      refine s_ialdv (j := 0) dL_step_218 hD5.1 hD5.2.2.1 rfl (by rw [hD5.2.1]; decide) (by rw [hD5.2.1]; decide) ?_
      refine s_iload dL_step_219 rfl ?_
      refine s_bipush (v := (-2)) dL_step_221 (by decide) ?_
      refine s_icne (tgt := 230) dL_step_223 (by decide) (fun c => absurd rfl c) (fun _ => ?_)
      refine s_iconst (v := 0) dL_step_226 (by decide) ?_
      refine s_goto (tgt := 231) dL_step_227 (by decide) ?_
      refine s_iadd dL_step_231 ?_
      refine s_iast' (j := 0) dL_step_232 hD5.1 rfl (by rw [hD5.2.1]; decide) (by rw [hD5.2.1]; decide) ?_
      have hC6 := hC5.I6 (k := 0) (y := (nI w.n) + 0) hD5.1
      have hW6 := hW5.I (da := da) (k := 0) (y := (nI w.n) + 0)
      have hf6 := hf5.I (k := 0) (v := (nI w.n) + 0) hD5.1
      have hD6 := hD5.p0 (y := (nI w.n) + 0)
      refine s_iload dL_step_233 rfl ?_
      refine s_bipush (v := (-2)) dL_step_235 (by decide) ?_
      refine s_icne (tgt := 256) dL_step_237 (by decide) (fun c => absurd rfl c) (fun _ => ?_)
      refine s_aloadn dL_step_240 rfl rfl ?_
      refine s_iconst (v := 0) dL_step_241 (by decide) ?_
      refine s_ialdv (j := 0) dL_step_242 hD6.1 hD6.2.2.1 rfl (by rw [hD6.2.1]; decide) (by rw [hD6.2.1]; decide) ?_
      refine s_bipush (v := 40) dL_step_243 (by decide) ?_
      refine s_icne (tgt := 252) dL_step_245 (by decide) (fun c => absurd (by rw [e40]; rfl) c) (fun c_245 => ?_)
      refine s_iconst (v := 1) dL_step_248 (by decide) ?_
      refine s_goto (tgt := 320) dL_step_249 (by decide) ?_
      exact s_reti dL_step_320 rfl (nr_bool (by decide)) ⟨rfl, ⟨w5, c, LW.of hC6 hm5 rfl gn5 go5 gg5 hD6 (Int32.add_zero _) rfl rfl rfl rfl hW6 rfl (hI.up ht)⟩, hf6⟩
    · skip
      refine s_cw8G (n := 5) dL_step_210 rfl rfl (by decide) (by decide) (by decide) (by decide) (Nat.le_of_ble_eq_true rfl) (m_L_claims hC hm (Or.inl rfl) (R := .inl (some (.int (nI w.n)))) (Or.inl ⟨_, by rw [eF], rfl⟩)) (fun r S7 hr7 => ?_) (fun x S2 hr => by have h := hr.1; cases h)
      obtain ⟨er, hp7⟩ := hr7
      cases er
      have g := PA.gp hp7
      rw [eF] at g
      dsimp only at g
      obtain ⟨w7, gt7, gn7, go7, gg7, hm7, hC7, fr7⟩ := g
      have hD7 := hD.fr fr7
      have hW7 := hW.fr fr7
      have hf7 := hf.fr fr7
      rw [← gt7]
      have him : inr (nI w.n) w7.n := by rw [gn7]; exact inr_lt2 (by omega) (Nat.lt_succ_self _)
      have hix : ix (nI w.n) = w.n := re_ixnI (by omega)
      refine s_istore dL_step_213 (by decide) ?_
      refine s_aloadn dL_step_215 rfl rfl ?_
      refine s_iconst (v := 0) dL_step_216 (by decide) ?_
      refine s_dup2 dL_step_217 rfl rfl ?_
      refine s_ialdv (j := 0) dL_step_218 hD7.1 hD7.2.2.1 rfl (by rw [hD7.2.1]; decide) (by rw [hD7.2.1]; decide) ?_
      refine s_iload dL_step_219 rfl ?_
      refine s_bipush (v := (-2)) dL_step_221 (by decide) ?_
      refine s_icne (tgt := 230) dL_step_223 (by decide) (fun c_223 => ?_) (fun c => absurd c (nI_ne (by omega) (by decide)))
      refine s_iconst (v := 1) dL_step_230 (by decide) ?_
      refine s_iadd dL_step_231 ?_
      refine s_iast' (j := 0) dL_step_232 hD7.1 rfl (by rw [hD7.2.1]; decide) (by rw [hD7.2.1]; decide) ?_
      have hC8 := hC7.I6 (k := 0) (y := (nI w.n) + 1) hD7.1
      have hW8 := hW7.I (da := da) (k := 0) (y := (nI w.n) + 1)
      have hf8 := hf7.I (k := 0) (v := (nI w.n) + 1) hD7.1
      have hD8 := hD7.p0 (y := (nI w.n) + 1)
      refine s_iload dL_step_233 rfl ?_
      refine s_bipush (v := (-2)) dL_step_235 (by decide) ?_
      refine s_icne (tgt := 256) dL_step_237 (by decide) (fun c_237 => ?_) (fun c => absurd c (nI_ne (by omega) (by decide)))
      refine s_iload dL_step_256 rfl ?_
      refine s_aloadn dL_step_258 rfl rfl ?_
      refine s_iconst (v := 0) dL_step_259 (by decide) ?_
      refine s_ialdv (j := 0) dL_step_260 hD8.1 hD8.2.2.1 rfl (by rw [hD8.2.1]; decide) (by rw [hD8.2.1]; decide) ?_
      refine s_iconst (v := 1) dL_step_261 (by decide) ?_
      refine s_isub dL_step_262 ?_
      refine s_icne (tgt := 319) dL_step_263 (by decide) (fun c => absurd nI_m c) (fun c_263 => ?_)
      refine s_aloadn dL_step_266 rfl rfl ?_
      refine s_iload dL_step_267 rfl ?_
      refine s_iconst (v := 0) dL_step_269 (by decide) ?_
      refine s_q2 (n := 70) dL_step_270 rfl (kv hC8.th (by decide) rfl) rfl (by decide) (by decide) (by decide) (by decide) (Nat.le_of_ble_eq_true rfl) (r_X3_ofClaim hC8) ((a_oc0 him).trans (by rw [hix])) ?_
      refine s_lconst (v := 0) dL_step_273 (by decide) ?_
      refine s_lcne (tgt := 319) dL_step_274 dL_step_275 (by decide) (fun c => absurd (by rw [u1]; rfl) c) (fun c_274 => ?_)
      refine s_aloadn dL_step_278 rfl rfl ?_
      refine s_iload dL_step_279 rfl ?_
      refine s_iconst (v := 1) dL_step_281 (by decide) ?_
      refine s_q2 (n := 70) dL_step_282 rfl (kv hC8.th (by decide) rfl) rfl (by decide) (by decide) (by decide) (by decide) (Nat.le_of_ble_eq_true rfl) (r_X3_ofClaim hC8) ((a_oc1 him).trans (by rw [hix])) ?_
      refine s_iconst (v := 1) dL_step_285 (by decide) ?_
      refine s_iload dL_step_286 rfl ?_
      refine s_bipush (v := 8) dL_step_288 (by decide) ?_
      refine s_idiv dL_step_290 (by decide) ?_
      refine s_ldc (v := 1000000) dL_step_291 cstL_63 ?_
      refine s_irem dL_step_293 (by decide) ?_
      refine s_iadd dL_step_294 ?_
      refine s_i2l dL_step_295 ?_
      refine s_lcne (tgt := 319) dL_step_296 dL_step_297 (by decide) (fun c => absurd u2 c) (fun c_296 => ?_)
      refine s_aloadn dL_step_300 rfl rfl ?_
      refine s_iload dL_step_301 rfl ?_
      refine s_bipush (v := 7) dL_step_303 (by decide) ?_
      refine s_q2 (n := 70) dL_step_305 rfl (kv hC8.th (by decide) rfl) rfl (by decide) (by decide) (by decide) (by decide) (Nat.le_of_ble_eq_true rfl) (r_X3_ofClaim hC8) ((a_oc7 him).trans (by rw [hix])) ?_
      refine s_ldc2 (v := (-1)) dL_step_308 cslL_71 ?_
      refine s_lcne (tgt := 319) dL_step_311 dL_step_312 (by decide) (fun c => absurd (by rw [u3]; rfl) c) (fun c_311 => ?_)
      refine s_iconst (v := 1) dL_step_315 (by decide) ?_
      refine s_goto (tgt := 320) dL_step_316 (by decide) ?_
      exact s_reti dL_step_320 rfl (nr_bool (by decide)) ⟨rfl, ⟨w7, c2, LW.of hC8 hm7 rfl gn7 go7 gg7 hD8 (re_cnt (show w.n < 600 by omega)).2 rfl rfl (by rw [t2]) (by rw [t2]) hW8 (by rw [j2, a2]) (hI2.up ht)⟩, hf8⟩
  · skip
    refine s_iconst (v := 1) dL_step_205 (by decide) ?_
    refine s_goto (tgt := 210) dL_step_206 (by decide) ?_
    rcases p_claim (z := 1) hI (Or.inr rfl) k1 k2 k3 k4 k5 k6 k7 with ⟨e40, eF⟩ | ⟨hn4, c2, eF, hI2, t2, j2, a2, u1, u2, u3⟩
    · skip
      refine s_cw8G (n := 5) dL_step_210 rfl rfl (by decide) (by decide) (by decide) (by decide) (Nat.le_of_ble_eq_true rfl) (m_L_claims hC hm (Or.inr rfl) (R := .inl (some (.int (-2)))) (Or.inr ⟨by rw [eF], rfl⟩)) (fun r S9 hr9 => ?_) (fun x S2 hr => by have h := hr.1; cases h)
      obtain ⟨er, hp9⟩ := hr9
      cases er
      have g := PA.gp hp9
      rw [eF] at g
      dsimp only at g
      obtain ⟨w9, gt9, gn9, go9, gg9, hm9, hC9, fr9⟩ := g
      have hD9 := hD.fr fr9
      have hW9 := hW.fr fr9
      have hf9 := hf.fr fr9
      rw [← gt9]
      refine s_istore dL_step_213 (by decide) ?_
      refine s_aloadn dL_step_215 rfl rfl ?_
      refine s_iconst (v := 0) dL_step_216 (by decide) ?_
      refine s_dup2 dL_step_217 rfl rfl ?_
      refine s_ialdv (j := 0) dL_step_218 hD9.1 hD9.2.2.1 rfl (by rw [hD9.2.1]; decide) (by rw [hD9.2.1]; decide) ?_
      refine s_iload dL_step_219 rfl ?_
      refine s_bipush (v := (-2)) dL_step_221 (by decide) ?_
      refine s_icne (tgt := 230) dL_step_223 (by decide) (fun c => absurd rfl c) (fun _ => ?_)
      refine s_iconst (v := 0) dL_step_226 (by decide) ?_
      refine s_goto (tgt := 231) dL_step_227 (by decide) ?_
      refine s_iadd dL_step_231 ?_
      refine s_iast' (j := 0) dL_step_232 hD9.1 rfl (by rw [hD9.2.1]; decide) (by rw [hD9.2.1]; decide) ?_
      have hC10 := hC9.I6 (k := 0) (y := (nI w.n) + 0) hD9.1
      have hW10 := hW9.I (da := da) (k := 0) (y := (nI w.n) + 0)
      have hf10 := hf9.I (k := 0) (v := (nI w.n) + 0) hD9.1
      have hD10 := hD9.p0 (y := (nI w.n) + 0)
      refine s_iload dL_step_233 rfl ?_
      refine s_bipush (v := (-2)) dL_step_235 (by decide) ?_
      refine s_icne (tgt := 256) dL_step_237 (by decide) (fun c => absurd rfl c) (fun _ => ?_)
      refine s_aloadn dL_step_240 rfl rfl ?_
      refine s_iconst (v := 0) dL_step_241 (by decide) ?_
      refine s_ialdv (j := 0) dL_step_242 hD10.1 hD10.2.2.1 rfl (by rw [hD10.2.1]; decide) (by rw [hD10.2.1]; decide) ?_
      refine s_bipush (v := 40) dL_step_243 (by decide) ?_
      refine s_icne (tgt := 252) dL_step_245 (by decide) (fun c => absurd (by rw [e40]; rfl) c) (fun c_245 => ?_)
      refine s_iconst (v := 1) dL_step_248 (by decide) ?_
      refine s_goto (tgt := 320) dL_step_249 (by decide) ?_
      exact s_reti dL_step_320 rfl (nr_bool (by decide)) ⟨rfl, ⟨w9, c, LW.of hC10 hm9 rfl gn9 go9 gg9 hD10 (Int32.add_zero _) rfl rfl rfl rfl hW10 rfl (hI.up ht)⟩, hf10⟩
    · skip
      refine s_cw8G (n := 5) dL_step_210 rfl rfl (by decide) (by decide) (by decide) (by decide) (Nat.le_of_ble_eq_true rfl) (m_L_claims hC hm (Or.inr rfl) (R := .inl (some (.int (nI w.n)))) (Or.inl ⟨_, by rw [eF], rfl⟩)) (fun r S11 hr11 => ?_) (fun x S2 hr => by have h := hr.1; cases h)
      obtain ⟨er, hp11⟩ := hr11
      cases er
      have g := PA.gp hp11
      rw [eF] at g
      dsimp only at g
      obtain ⟨w11, gt11, gn11, go11, gg11, hm11, hC11, fr11⟩ := g
      have hD11 := hD.fr fr11
      have hW11 := hW.fr fr11
      have hf11 := hf.fr fr11
      rw [← gt11]
      have him : inr (nI w.n) w11.n := by rw [gn11]; exact inr_lt2 (by omega) (Nat.lt_succ_self _)
      have hix : ix (nI w.n) = w.n := re_ixnI (by omega)
      refine s_istore dL_step_213 (by decide) ?_
      refine s_aloadn dL_step_215 rfl rfl ?_
      refine s_iconst (v := 0) dL_step_216 (by decide) ?_
      refine s_dup2 dL_step_217 rfl rfl ?_
      refine s_ialdv (j := 0) dL_step_218 hD11.1 hD11.2.2.1 rfl (by rw [hD11.2.1]; decide) (by rw [hD11.2.1]; decide) ?_
      refine s_iload dL_step_219 rfl ?_
      refine s_bipush (v := (-2)) dL_step_221 (by decide) ?_
      refine s_icne (tgt := 230) dL_step_223 (by decide) (fun c_223 => ?_) (fun c => absurd c (nI_ne (by omega) (by decide)))
      refine s_iconst (v := 1) dL_step_230 (by decide) ?_
      refine s_iadd dL_step_231 ?_
      refine s_iast' (j := 0) dL_step_232 hD11.1 rfl (by rw [hD11.2.1]; decide) (by rw [hD11.2.1]; decide) ?_
      have hC12 := hC11.I6 (k := 0) (y := (nI w.n) + 1) hD11.1
      have hW12 := hW11.I (da := da) (k := 0) (y := (nI w.n) + 1)
      have hf12 := hf11.I (k := 0) (v := (nI w.n) + 1) hD11.1
      have hD12 := hD11.p0 (y := (nI w.n) + 1)
      refine s_iload dL_step_233 rfl ?_
      refine s_bipush (v := (-2)) dL_step_235 (by decide) ?_
      refine s_icne (tgt := 256) dL_step_237 (by decide) (fun c_237 => ?_) (fun c => absurd c (nI_ne (by omega) (by decide)))
      refine s_iload dL_step_256 rfl ?_
      refine s_aloadn dL_step_258 rfl rfl ?_
      refine s_iconst (v := 0) dL_step_259 (by decide) ?_
      refine s_ialdv (j := 0) dL_step_260 hD12.1 hD12.2.2.1 rfl (by rw [hD12.2.1]; decide) (by rw [hD12.2.1]; decide) ?_
      refine s_iconst (v := 1) dL_step_261 (by decide) ?_
      refine s_isub dL_step_262 ?_
      refine s_icne (tgt := 319) dL_step_263 (by decide) (fun c => absurd nI_m c) (fun c_263 => ?_)
      refine s_aloadn dL_step_266 rfl rfl ?_
      refine s_iload dL_step_267 rfl ?_
      refine s_iconst (v := 0) dL_step_269 (by decide) ?_
      refine s_q2 (n := 70) dL_step_270 rfl (kv hC12.th (by decide) rfl) rfl (by decide) (by decide) (by decide) (by decide) (Nat.le_of_ble_eq_true rfl) (r_X3_ofClaim hC12) ((a_oc0 him).trans (by rw [hix])) ?_
      refine s_lconst (v := 0) dL_step_273 (by decide) ?_
      refine s_lcne (tgt := 319) dL_step_274 dL_step_275 (by decide) (fun c => absurd (by rw [u1]; rfl) c) (fun c_274 => ?_)
      refine s_aloadn dL_step_278 rfl rfl ?_
      refine s_iload dL_step_279 rfl ?_
      refine s_iconst (v := 1) dL_step_281 (by decide) ?_
      refine s_q2 (n := 70) dL_step_282 rfl (kv hC12.th (by decide) rfl) rfl (by decide) (by decide) (by decide) (by decide) (Nat.le_of_ble_eq_true rfl) (r_X3_ofClaim hC12) ((a_oc1 him).trans (by rw [hix])) ?_
      refine s_iconst (v := 1) dL_step_285 (by decide) ?_
      refine s_iload dL_step_286 rfl ?_
      refine s_bipush (v := 8) dL_step_288 (by decide) ?_
      refine s_idiv dL_step_290 (by decide) ?_
      refine s_ldc (v := 1000000) dL_step_291 cstL_63 ?_
      refine s_irem dL_step_293 (by decide) ?_
      refine s_iadd dL_step_294 ?_
      refine s_i2l dL_step_295 ?_
      refine s_lcne (tgt := 319) dL_step_296 dL_step_297 (by decide) (fun c => absurd u2 c) (fun c_296 => ?_)
      refine s_aloadn dL_step_300 rfl rfl ?_
      refine s_iload dL_step_301 rfl ?_
      refine s_bipush (v := 7) dL_step_303 (by decide) ?_
      refine s_q2 (n := 70) dL_step_305 rfl (kv hC12.th (by decide) rfl) rfl (by decide) (by decide) (by decide) (by decide) (Nat.le_of_ble_eq_true rfl) (r_X3_ofClaim hC12) ((a_oc7 him).trans (by rw [hix])) ?_
      refine s_ldc2 (v := (-1)) dL_step_308 cslL_71 ?_
      refine s_lcne (tgt := 319) dL_step_311 dL_step_312 (by decide) (fun c => absurd (by rw [u3]; rfl) c) (fun c_311 => ?_)
      refine s_iconst (v := 1) dL_step_315 (by decide) ?_
      refine s_goto (tgt := 320) dL_step_316 (by decide) ?_
      exact s_reti dL_step_320 rfl (nr_bool (by decide)) ⟨rfl, ⟨w11, c2, LW.of hC12 hm11 rfl gn11 go11 gg11 hD12 (re_cnt (show w.n < 600 by omega)).2 rfl rfl (by rw [t2]) (by rw [t2]) hW12 (by rw [j2, a2]) (hI2.up ht)⟩, hf12⟩
set_option maxHeartbeats 8000000 in
theorem c_step_321 {tm : Nat × Nat} {S : Sto} {da wa t : Nat} {w : CAd} {c : CC} {x a b cl of : Int32} (L : LW tm w.th da wa t S w c) (ht : t < 600) (ha : 0 ≤ a.toInt) (hb : 0 ≤ b.toInt) (hcl : inr cl w.n) : Wp (Ev tm) tm M_L_step (GL tm w.th da wa (t + 1) S) 321 [(0, .ref w.th), (1, .ref da), (2, .ref wa), (3, .int x), (4, .int a), (5, .int b), (6, .int cl), (7, .int of)] [] 420 16000 S := by
  obtain ⟨⟨hC, hm, -⟩, hD, hW, hI⟩ := L
  have hf : F12 S S := F12.rf
  have hn := hI.b.1.1
  have hno := hI.b.1.2.1
  have hnt := hI.b.1.2.2.1
  have k1 : rng (1 + (b - b / 1000000 * 1000000)) 1 1000000 := by
    obtain ⟨y1, y2⟩ := rem_rng (a := b) hb (b := 1000000) (B := 1000000) rfl (by decide)
    have y3 := one_add y1 y2 (by decide)
    exact rng_of (by rw [y3]; show (1 : Int) ≤ _; omega) (by rw [y3]; show _ ≤ (1000000 : Int); omega)
  refine s_aloadn dL_step_321 rfl rfl ?_
  refine s_iconst (v := 1) dL_step_322 (by decide) ?_
  refine s_q1 (n := 71) dL_step_323 rfl (kv hC.th (by decide) rfl) rfl (by decide) (by decide) (by decide) (by decide) (Nat.le_of_ble_eq_true rfl) (r_X3_ofState hC) (a_os1) ?_
  refine s_lstore dL_step_326 (by decide) ?_
  refine s_aloadn dL_step_328 rfl rfl ?_
  refine s_iload dL_step_329 rfl ?_
  refine s_iconst (v := 5) dL_step_331 (by decide) ?_
  refine s_q2 (n := 70) dL_step_332 rfl (kv hC.th (by decide) rfl) rfl (by decide) (by decide) (by decide) (by decide) (Nat.le_of_ble_eq_true rfl) (r_X3_ofClaim hC) (a_oc5 hcl) ?_
  refine s_lstore dL_step_335 (by decide) ?_
  refine s_iconst (v := 1) dL_step_337 (by decide) ?_
  refine s_iload dL_step_338 rfl ?_
  refine s_ldc (v := 1000000) dL_step_340 cstL_63 ?_
  refine s_irem dL_step_342 (by decide) ?_
  refine s_iadd dL_step_343 ?_
  refine s_istore dL_step_344 (by decide) ?_
  refine s_aloadn dL_step_346 rfl rfl ?_
  refine s_iload dL_step_347 rfl ?_
  refine s_iload dL_step_349 rfl ?_
  rcases p_pledge (x := 1 + (b - b / 1000000 * 1000000)) hI ht hcl k1 with ⟨hz, eF⟩ | ⟨c2, eF, hI2, t2, j2, a2, nv⟩
  · skip
    refine s_cw3G (n := 6) dL_step_351 rfl rfl (by decide) (by decide) (by decide) (by decide) (Nat.le_of_ble_eq_true rfl) (m_L_pledges hC (R := .inl (some (.long (-2)))) (Or.inr ⟨by rw [eF], rfl⟩)) (fun r S13 hr13 => ?_) (fun x S2 hr => by have h := hr.1; cases h)
    obtain ⟨er, hp13⟩ := hr13
    cases er
    have g := PO.gp hp13 hm
    rw [eF] at g
    dsimp only at g
    obtain ⟨w13, gt13, gn13, go13, gg13, hm13, hC13, fr13⟩ := g
    have hD13 := hD.fr fr13
    have hW13 := hW.fr fr13
    have hf13 := hf.fr fr13
    rw [← gt13]
    have hk2 : inr cl w13.n := by rw [gn13]; exact hcl
    refine s_lstore dL_step_354 (by decide) ?_
    refine s_lload dL_step_356 rfl ?_
    refine s_ldc2 (v := (-2)) dL_step_358 cslL_24 ?_
    refine s_lcne (tgt := 405) dL_step_361 dL_step_362 (by decide) (fun c => absurd rfl c) (fun _ => ?_)
    refine s_aloadn dL_step_365 rfl rfl ?_
    refine s_iconst (v := 1) dL_step_366 (by decide) ?_
    refine s_q1 (n := 71) dL_step_367 rfl (kv hC13.th (by decide) rfl) rfl (by decide) (by decide) (by decide) (by decide) (Nat.le_of_ble_eq_true rfl) (r_X3_ofState hC13) (a_os1) ?_
    refine s_lload dL_step_370 rfl ?_
    refine s_lcne (tgt := 401) dL_step_372 dL_step_373 (by decide) (fun c => absurd rfl c) (fun c_372 => ?_)
    refine s_lload dL_step_376 rfl ?_
    refine s_iload dL_step_378 rfl ?_
    refine s_i2l dL_step_380 ?_
    refine s_lclt (tgt := 397) dL_step_381 dL_step_382 (by decide) (fun _ => ?_) (fun c_381 => ?_)
    · skip
      refine s_iconst (v := 1) dL_step_397 (by decide) ?_
      refine s_goto (tgt := 437) dL_step_398 (by decide) ?_
      exact s_reti dL_step_437 rfl (nr_bool (by decide)) ⟨rfl, ⟨w13, c, LW.of hC13 hm13 rfl gn13 go13 gg13 hD13 rfl rfl rfl rfl rfl hW13 rfl (hI.up ht)⟩, hf13⟩
    · skip
      refine s_aloadn dL_step_385 rfl rfl ?_
      refine s_iload dL_step_386 rfl ?_
      refine s_iconst (v := 0) dL_step_388 (by decide) ?_
      refine s_q2 (n := 70) dL_step_389 rfl (kv hC13.th (by decide) rfl) rfl (by decide) (by decide) (by decide) (by decide) (Nat.le_of_ble_eq_true rfl) (r_X3_ofClaim hC13) (a_oc0 hk2) ?_
      refine s_lconst (v := 0) dL_step_392 (by decide) ?_
      refine s_lcle (tgt := 401) dL_step_393 dL_step_394 (by decide) (fun c => absurd c (hz.elim (fun e => absurd e c_381) (fun e => st_pos hI.b (re_inl (by omega) hcl) e))) (fun c_393 => ?_)
      refine s_iconst (v := 1) dL_step_397 (by decide) ?_
      refine s_goto (tgt := 437) dL_step_398 (by decide) ?_
      exact s_reti dL_step_437 rfl (nr_bool (by decide)) ⟨rfl, ⟨w13, c, LW.of hC13 hm13 rfl gn13 go13 gg13 hD13 rfl rfl rfl rfl rfl hW13 rfl (hI.up ht)⟩, hf13⟩
  · skip
    refine s_cw3G (n := 6) dL_step_351 rfl rfl (by decide) (by decide) (by decide) (by decide) (Nat.le_of_ble_eq_true rfl) (m_L_pledges hC (R := .inl (some (.long (c.cj (ix cl) 10 + (1 + (b - b / 1000000 * 1000000)).toInt64)))) (Or.inl ⟨_, by rw [eF], rfl⟩)) (fun r S14 hr14 => ?_) (fun x S2 hr => by have h := hr.1; cases h)
    obtain ⟨er, hp14⟩ := hr14
    cases er
    have g := PO.gp hp14 hm
    rw [eF] at g
    dsimp only at g
    obtain ⟨w14, gt14, gn14, go14, gg14, hm14, hC14, fr14⟩ := g
    have hD14 := hD.fr fr14
    have hW14 := hW.fr fr14
    have hf14 := hf.fr fr14
    rw [← gt14]
    refine s_lstore dL_step_354 (by decide) ?_
    refine s_lload dL_step_356 rfl ?_
    refine s_ldc2 (v := (-2)) dL_step_358 cslL_24 ?_
    refine s_lcne (tgt := 405) dL_step_361 dL_step_362 (by decide) (fun c_361 => ?_) (fun c => absurd c nv)
    refine s_lload dL_step_405 rfl ?_
    refine s_lload dL_step_407 rfl ?_
    refine s_iload dL_step_409 rfl ?_
    refine s_i2l dL_step_411 ?_
    refine s_ladd dL_step_412 ?_
    refine s_lcne (tgt := 436) dL_step_413 dL_step_414 (by decide) (fun c => absurd rfl c) (fun c_413 => ?_)
    refine s_aloadn dL_step_417 rfl rfl ?_
    refine s_iconst (v := 1) dL_step_418 (by decide) ?_
    refine s_q1 (n := 71) dL_step_419 rfl (kv hC14.th (by decide) rfl) rfl (by decide) (by decide) (by decide) (by decide) (Nat.le_of_ble_eq_true rfl) (r_X3_ofState hC14) (a_os1) ?_
    refine s_lload dL_step_422 rfl ?_
    refine s_iload dL_step_424 rfl ?_
    refine s_i2l dL_step_426 ?_
    refine s_lsub dL_step_427 ?_
    refine s_lcne (tgt := 436) dL_step_428 dL_step_429 (by decide) (fun c => absurd j2 c) (fun c_428 => ?_)
    refine s_iconst (v := 1) dL_step_432 (by decide) ?_
    refine s_goto (tgt := 437) dL_step_433 (by decide) ?_
    exact s_reti dL_step_437 rfl (nr_bool (by decide)) ⟨rfl, ⟨w14, c2, LW.of hC14 hm14 rfl gn14 go14 gg14 hD14 rfl rfl rfl (by rw [t2]) (by rw [t2]) hW14 (by rw [j2, a2]; grind) hI2⟩, hf14⟩
set_option maxHeartbeats 8000000 in
theorem c_step_438 {tm : Nat × Nat} {S : Sto} {da wa t : Nat} {w : CAd} {c : CC} {x a b cl of : Int32} (L : LW tm w.th da wa t S w c) (ht : t < 600) (ha : 0 ≤ a.toInt) (hb : 0 ≤ b.toInt) (hcl : inr cl w.n) : Wp (Ev tm) tm M_L_step (GL tm w.th da wa (t + 1) S) 438 [(0, .ref w.th), (1, .ref da), (2, .ref wa), (3, .int x), (4, .int a), (5, .int b), (6, .int cl), (7, .int of)] [] 420 16000 S := by
  obtain ⟨⟨hC, hm, -⟩, hD, hW, hI⟩ := L
  have hf : F12 S S := F12.rf
  have hn := hI.b.1.1
  have hno := hI.b.1.2.1
  have hnt := hI.b.1.2.2.1
  obtain ⟨c2, eF, hI2, t2, j2, a2, eF2⟩ := p_reveal hI hcl
  rcases eF with eF | eF
  · skip
    refine s_aloadn dL_step_438 rfl rfl ?_
    refine s_iload dL_step_439 rfl ?_
    refine s_cw2G (n := 7) dL_step_441 rfl rfl (by decide) (by decide) (by decide) (by decide) (Nat.le_of_ble_eq_true rfl) (m_L_reveals hC (R := .inl (some (.long (-2)))) (Or.inr ⟨by rw [eF], rfl⟩)) (fun r S15 hr15 => ?_) (fun x S2 hr => by have h := hr.1; cases h)
    obtain ⟨er, hp15⟩ := hr15
    cases er
    have g := PO.gp hp15 hm
    rw [eF] at g
    dsimp only at g
    obtain ⟨w15, gt15, gn15, go15, gg15, hm15, hC15, fr15⟩ := g
    have hD15 := hD.fr fr15
    have hW15 := hW.fr fr15
    have hf15 := hf.fr fr15
    rw [← gt15]
    have eF3 : f_X3_reveal w15.n c2 cl = (.inr 2, c2) := by rw [gn15]; exact eF2
    refine s_lstore dL_step_444 (by decide) ?_
    refine s_lload dL_step_446 rfl ?_
    refine s_ldc2 (v := (-2)) dL_step_448 cslL_24 ?_
    refine s_lceq (tgt := 466) dL_step_451 dL_step_452 (by decide) (fun _ => ?_) (fun c => absurd c (by decide))
    refine s_aloadn dL_step_466 rfl rfl ?_
    refine s_iload dL_step_467 rfl ?_
    refine s_cw2G (n := 7) dL_step_469 rfl rfl (by decide) (by decide) (by decide) (by decide) (Nat.le_of_ble_eq_true rfl) (m_L_reveals hC15 (R := .inl (some (.long (-2)))) (Or.inr ⟨by rw [eF3], rfl⟩)) (fun r S16 hr16 => ?_) (fun x S2 hr => by have h := hr.1; cases h)
    obtain ⟨er, hp16⟩ := hr16
    cases er
    have g := PO.gp hp16 hm15
    rw [eF3] at g
    dsimp only at g
    obtain ⟨w16, gt16, gn16, go16, gg16, hm16, hC16, fr16⟩ := g
    have hD16 := hD15.fr fr16
    have hW16 := hW15.fr fr16
    have hf16 := hf15.fr fr16
    rw [← gt16]
    refine s_ldc2 (v := (-2)) dL_step_472 cslL_24 ?_
    refine s_lcne (tgt := 483) dL_step_475 dL_step_476 (by decide) (fun c => absurd rfl c) (fun _ => ?_)
    refine s_iconst (v := 1) dL_step_479 (by decide) ?_
    refine s_goto (tgt := 484) dL_step_480 (by decide) ?_
    exact s_reti dL_step_484 rfl (nr_bool (by decide)) ⟨rfl, ⟨w16, c2, LW.of hC16 hm16 rfl (gn16.trans gn15) (go16.trans go15) (gg16.trans gg15) hD16 rfl rfl rfl (by rw [t2]) (by rw [t2]) hW16 (by rw [j2, a2]) (hI2.up ht)⟩, hf16⟩
  · skip
    refine s_aloadn dL_step_438 rfl rfl ?_
    refine s_iload dL_step_439 rfl ?_
    refine s_cw2G (n := 7) dL_step_441 rfl rfl (by decide) (by decide) (by decide) (by decide) (Nat.le_of_ble_eq_true rfl) (m_L_reveals hC (R := .inl (some (.long (f_X3_debt w.n c2)))) (Or.inl ⟨_, by rw [eF], rfl⟩)) (fun r S17 hr17 => ?_) (fun x S2 hr => by have h := hr.1; cases h)
    obtain ⟨er, hp17⟩ := hr17
    cases er
    have g := PO.gp hp17 hm
    rw [eF] at g
    dsimp only at g
    obtain ⟨w17, gt17, gn17, go17, gg17, hm17, hC17, fr17⟩ := g
    have hD17 := hD.fr fr17
    have hW17 := hW.fr fr17
    have hf17 := hf.fr fr17
    rw [← gt17]
    have eF3 : f_X3_reveal w17.n c2 cl = (.inr 2, c2) := by rw [gn17]; exact eF2
    refine s_lstore dL_step_444 (by decide) ?_
    refine s_lload dL_step_446 rfl ?_
    refine s_ldc2 (v := (-2)) dL_step_448 cslL_24 ?_
    refine s_lceq (tgt := 466) dL_step_451 dL_step_452 (by decide) (fun c => absurd c (by have := (re_debtb hI2.b (fun _ _ => (show ix (c2.ti 3) ≤ 60 by rw [re_ix]; have := hI2.b.2.1; omega)) w.n (Nat.le_refl _)).1; change 0 ≤ (f_X3_debt w.n c2).toInt at this; rw [re_eq, show (-2 : Int64).toInt = -2 from rfl]; omega)) (fun c_451 => ?_)
    refine s_lload dL_step_455 rfl ?_
    refine s_aloadn dL_step_457 rfl rfl ?_
    refine s_iconst (v := 3) dL_step_458 (by decide) ?_
    refine s_q1 (n := 71) dL_step_459 rfl (kv hC17.th (by decide) rfl) rfl (by decide) (by decide) (by decide) (by decide) (Nat.le_of_ble_eq_true rfl) (r_X3_ofState hC17) (a_os3) ?_
    refine s_lcne (tgt := 483) dL_step_462 dL_step_463 (by decide) (fun c => absurd (by rw [gn17]) c) (fun c_462 => ?_)
    refine s_aloadn dL_step_466 rfl rfl ?_
    refine s_iload dL_step_467 rfl ?_
    refine s_cw2G (n := 7) dL_step_469 rfl rfl (by decide) (by decide) (by decide) (by decide) (Nat.le_of_ble_eq_true rfl) (m_L_reveals hC17 (R := .inl (some (.long (-2)))) (Or.inr ⟨by rw [eF3], rfl⟩)) (fun r S18 hr18 => ?_) (fun x S2 hr => by have h := hr.1; cases h)
    obtain ⟨er, hp18⟩ := hr18
    cases er
    have g := PO.gp hp18 hm17
    rw [eF3] at g
    dsimp only at g
    obtain ⟨w18, gt18, gn18, go18, gg18, hm18, hC18, fr18⟩ := g
    have hD18 := hD17.fr fr18
    have hW18 := hW17.fr fr18
    have hf18 := hf17.fr fr18
    rw [← gt18]
    refine s_ldc2 (v := (-2)) dL_step_472 cslL_24 ?_
    refine s_lcne (tgt := 483) dL_step_475 dL_step_476 (by decide) (fun c => absurd rfl c) (fun _ => ?_)
    refine s_iconst (v := 1) dL_step_479 (by decide) ?_
    refine s_goto (tgt := 484) dL_step_480 (by decide) ?_
    exact s_reti dL_step_484 rfl (nr_bool (by decide)) ⟨rfl, ⟨w18, c2, LW.of hC18 hm18 rfl (gn18.trans gn17) (go18.trans go17) (gg18.trans gg17) hD18 rfl rfl rfl (by rw [t2]) (by rw [t2]) hW18 (by rw [j2, a2]) (hI2.up ht)⟩, hf18⟩
set_option maxHeartbeats 8000000 in
theorem c_step_485 {tm : Nat × Nat} {S : Sto} {da wa t : Nat} {w : CAd} {c : CC} {x a b cl of : Int32} (L : LW tm w.th da wa t S w c) (ht : t < 600) (ha : 0 ≤ a.toInt) (hb : 0 ≤ b.toInt) : Wp (Ev tm) tm M_L_step (GL tm w.th da wa (t + 1) S) 485 [(0, .ref w.th), (1, .ref da), (2, .ref wa), (3, .int x), (4, .int a), (5, .int b), (6, .int cl), (7, .int of)] [] 420 16000 S := by
  obtain ⟨⟨hC, hm, -⟩, hD, hW, hI⟩ := L
  have hf : F12 S S := F12.rf
  have hn := hI.b.1.1
  have hno := hI.b.1.2.1
  have hnt := hI.b.1.2.2.1
  have k1 : rng ((a - a / 2001 * 2001) - 1000) (-1000) 1000 := by
    obtain ⟨y1, y2⟩ := rem_rng ha (b := 2001) (B := 2001) rfl (by decide)
    have y3 : (a - a / 2001 * 2001 - 1000).toInt = (a - a / 2001 * 2001).toInt - 1000 := by
      rw [re_isub (by rw [show (1000 : Int32).toInt = 1000 from rfl]; omega) (by rw [show (1000 : Int32).toInt = 1000 from rfl]; omega)]; rfl
    exact rng_of (by rw [y3]; show (-1000 : Int) ≤ _; omega) (by rw [y3]; show _ ≤ (1000 : Int); omega)
  have k2 : rng ((b - b / 401 * 401) - 200) (-200) 200 := by
    obtain ⟨y1, y2⟩ := rem_rng hb (b := 401) (B := 401) rfl (by decide)
    have y3 : (b - b / 401 * 401 - 200).toInt = (b - b / 401 * 401).toInt - 200 := by
      rw [re_isub (by rw [show (200 : Int32).toInt = 200 from rfl]; omega) (by rw [show (200 : Int32).toInt = 200 from rfl]; omega)]; rfl
    exact rng_of (by rw [y3]; show (-200 : Int) ≤ _; omega) (by rw [y3]; show _ ≤ (200 : Int); omega)
  have k3 : rng (b - b / 3000001 * 3000001) 0 10000000 := by
    obtain ⟨y1, y2⟩ := rem_rng hb (b := 3000001) (B := 3000001) rfl (by decide)
    exact rng_of y1 (by show _ ≤ (10000000 : Int); omega)
  obtain ⟨c2, eF, hI2, t7, t11, j2, a2⟩ := p_economy hI k1 k2 k3
  refine s_aloadn dL_step_485 rfl rfl ?_
  refine s_iconst (v := 3) dL_step_486 (by decide) ?_
  refine s_iload dL_step_487 rfl ?_
  refine s_sipush (v := 401) dL_step_489 (by decide) ?_
  refine s_irem dL_step_492 (by decide) ?_
  refine s_sipush (v := 200) dL_step_493 (by decide) ?_
  refine s_isub dL_step_496 ?_
  refine s_iast' (j := 3) dL_step_497 hD.1 rfl (by rw [hD.2.1]; decide) (by rw [hD.2.1]; decide) ?_
  have hC19 := hC.I6 (k := 3) (y := (b - b / 401 * 401) - 200) hD.1
  have hW19 := hW.I (da := da) (k := 3) (y := (b - b / 401 * 401) - 200)
  have hf19 := hf.I (k := 3) (v := (b - b / 401 * 401) - 200) hD.1
  have hD19 := hD.p3 (y := (b - b / 401 * 401) - 200)
  refine s_aloadn dL_step_498 rfl rfl ?_
  refine s_iconst (v := 0) dL_step_499 (by decide) ?_
  refine s_dup2 dL_step_500 rfl rfl ?_
  refine s_laldv (j := 0) dL_step_501 hW19.1 hW19.2.2 rfl (by rw [hW19.2.1]; decide) (by rw [hW19.2.1]; decide) ?_
  refine s_iload dL_step_502 rfl ?_
  refine s_ldc (v := 3000001) dL_step_504 cstL_84 ?_
  refine s_irem dL_step_506 (by decide) ?_
  refine s_i2l dL_step_507 ?_
  refine s_ladd dL_step_508 ?_
  refine s_last' (j := 0) dL_step_509 (Or.inr (Or.inr hW19.1)) rfl (by rw [hW19.2.1]; decide) (by rw [hW19.2.1]; decide) ?_
  have hC20 := hC19.J11 (k := 0) (y := (c.tj 4 + sA c w.n) + ((b - b / 3000001 * 3000001).toInt64)) hW19.1
  have hD20 := hD19.J (wa := wa) (x := (c.tj 4 + sA c w.n) + ((b - b / 3000001 * 3000001).toInt64))
  have hf20 := hf19.J (k := 0) (v := (c.tj 4 + sA c w.n) + ((b - b / 3000001 * 3000001).toInt64)) hW19.1
  have hW20 := hW19.p (x := (c.tj 4 + sA c w.n) + ((b - b / 3000001 * 3000001).toInt64))
  refine s_aloadn dL_step_510 rfl rfl ?_
  refine s_iconst (v := 1) dL_step_511 (by decide) ?_
  refine s_q1 (n := 71) dL_step_512 rfl (kv hC20.th (by decide) rfl) rfl (by decide) (by decide) (by decide) (by decide) (Nat.le_of_ble_eq_true rfl) (r_X3_ofState hC20) (a_os1) ?_
  refine s_lstore dL_step_515 (by decide) ?_
  refine s_aloadn dL_step_517 rfl rfl ?_
  refine s_iload dL_step_518 rfl ?_
  refine s_sipush (v := 2001) dL_step_520 (by decide) ?_
  refine s_irem dL_step_523 (by decide) ?_
  refine s_sipush (v := 1000) dL_step_524 (by decide) ?_
  refine s_isub dL_step_527 ?_
  refine s_aloadn dL_step_528 rfl rfl ?_
  refine s_iconst (v := 3) dL_step_529 (by decide) ?_
  refine s_ialdv (j := 3) dL_step_530 hD20.1 hD20.2.2.2.2.2.1 rfl (by rw [hD20.2.1]; decide) (by rw [hD20.2.1]; decide) ?_
  refine s_iload dL_step_531 rfl ?_
  refine s_ldc (v := 3000001) dL_step_533 cstL_84 ?_
  refine s_irem dL_step_535 (by decide) ?_
  refine s_cv3G (n := 72) dL_step_536 rfl (kv hC20.th (by decide) rfl) rfl (by decide) (by decide) (by decide) (by decide) (Nat.le_of_ble_eq_true rfl) (m_X3_economy hC20) (fun r S21 hr21 => ?_) (fun x S2 hr => by have h := hr.1; rw [eF] at h; cases h)
  have er := hr21.1
  have hC21 := hr21.2.1
  have fr21 := hr21.2.2
  rw [eF] at er hC21
  dsimp only at er hC21
  cases er
  have hD21 := hD20.fr fr21
  have hW21 := hW20.fr fr21
  have hf21 := hf20.fr fr21
  refine s_lload dL_step_539 rfl ?_
  refine s_iload dL_step_541 rfl ?_
  refine s_ldc (v := 3000001) dL_step_543 cstL_84 ?_
  refine s_irem dL_step_545 (by decide) ?_
  refine s_i2l dL_step_546 ?_
  refine s_ladd dL_step_547 ?_
  refine s_lcne (tgt := 556) dL_step_548 dL_step_549 (by decide) (fun c => absurd rfl c) (fun c_548 => ?_)
  refine s_iconst (v := 1) dL_step_552 (by decide) ?_
  refine s_goto (tgt := 557) dL_step_553 (by decide) ?_
  exact s_reti dL_step_557 rfl (nr_bool (by decide)) ⟨rfl, ⟨w, c2, LW.of hC21 hm rfl rfl rfl rfl hD21 rfl rfl rfl t7.symm t11.symm hW21 (by rw [j2, a2]; grind) (hI2.up ht)⟩, hf21⟩
set_option maxHeartbeats 8000000 in
theorem c_step_558 {tm : Nat × Nat} {S : Sto} {da wa t : Nat} {w : CAd} {c : CC} {x a b cl of : Int32} (L : LW tm w.th da wa t S w c) (ht : t < 600) (ha : 0 ≤ a.toInt) (hb : 0 ≤ b.toInt) : Wp (Ev tm) tm M_L_step (GL tm w.th da wa (t + 1) S) 558 [(0, .ref w.th), (1, .ref da), (2, .ref wa), (3, .int x), (4, .int a), (5, .int b), (6, .int cl), (7, .int of)] [] 420 16000 S := by
  obtain ⟨⟨hC, hm, -⟩, hD, hW, hI⟩ := L
  have hf : F12 S S := F12.rf
  have hn := hI.b.1.1
  have hno := hI.b.1.2.1
  have hnt := hI.b.1.2.2.1
  have k1 : inr (a - a / 5 * 5) 5 := by
    obtain ⟨y1, y2⟩ := rem_rng ha (b := 5) (B := 5) rfl (by decide)
    exact inr_of (by decide) y1 y2
  have k2 : rng (b - b / 1501 * 1501) 0 1500 := by
    obtain ⟨y1, y2⟩ := rem_rng (a := b) hb (b := 1501) (B := 1501) rfl (by decide)
    exact rng_of y1 (by show _ ≤ (1500 : Int); omega)
  by_cases hz : b - b / 2 * 2 = 0
  · obtain ⟨v, c2, hv, eF, hI2, t7, t11, j2, a2, eF2⟩ := p_moratorium (z := 1) hI (Or.inr rfl) k1
    rcases hv with rfl | rfl
    · skip
      refine s_aloadn dL_step_558 rfl rfl ?_
      refine s_iload dL_step_559 rfl ?_
      refine s_iconst (v := 5) dL_step_561 (by decide) ?_
      refine s_irem dL_step_562 (by decide) ?_
      refine s_iload dL_step_563 rfl ?_
      refine s_iconst (v := 2) dL_step_565 (by decide) ?_
      refine s_irem dL_step_566 (by decide) ?_
      refine s_ifne (tgt := 574) dL_step_567 (by decide) (fun c => absurd hz c) (fun c_567 => ?_)
      refine s_iconst (v := 1) dL_step_570 (by decide) ?_
      refine s_goto (tgt := 575) dL_step_571 (by decide) ?_
      refine s_cv2G (n := 73) dL_step_575 rfl (kv hC.th (by decide) rfl) rfl (by decide) (by decide) (by decide) (by decide) (Nat.le_of_ble_eq_true rfl) (m_X3_moratorium hC (Or.inr rfl)) (fun r S22 hr22 => ?_) (fun x S2 hr => by have h := hr.1; rw [eF] at h; cases h)
      have er := hr22.1
      have hC22 := hr22.2.1
      have fr22 := hr22.2.2
      rw [eF] at er hC22
      dsimp only at er hC22
      cases er
      have hD22 := hD.fr fr22
      have hW22 := hW.fr fr22
      have hf22 := hf.fr fr22
      refine s_istore dL_step_578 (by decide) ?_
      refine s_aloadn dL_step_580 rfl rfl ?_
      refine s_iload dL_step_581 rfl ?_
      refine s_iconst (v := 5) dL_step_583 (by decide) ?_
      refine s_irem dL_step_584 (by decide) ?_
      refine s_iload dL_step_585 rfl ?_
      refine s_iconst (v := 2) dL_step_587 (by decide) ?_
      refine s_irem dL_step_588 (by decide) ?_
      refine s_ifne (tgt := 596) dL_step_589 (by decide) (fun c => absurd hz c) (fun c_589 => ?_)
      refine s_iconst (v := 1) dL_step_592 (by decide) ?_
      refine s_goto (tgt := 597) dL_step_593 (by decide) ?_
      refine s_cv2G (n := 73) dL_step_597 rfl (kv hC22.th (by decide) rfl) rfl (by decide) (by decide) (by decide) (by decide) (Nat.le_of_ble_eq_true rfl) (m_X3_moratorium hC22 (Or.inr rfl)) (fun r S23 hr23 => ?_) (fun x S2 hr => by have h := hr.1; rw [eF2] at h; cases h)
      have er := hr23.1
      have hC23 := hr23.2.1
      have fr23 := hr23.2.2
      rw [eF2] at er hC23
      dsimp only at er hC23
      cases er
      have hD23 := hD22.fr fr23
      have hW23 := hW22.fr fr23
      have hf23 := hf22.fr fr23
      refine s_ifne (tgt := 625) dL_step_600 (by decide) (fun c => absurd rfl c) (fun _ => ?_)
      refine s_iload dL_step_603 rfl ?_
      refine s_ifne (tgt := 621) dL_step_605 (by decide) (fun c => absurd rfl c) (fun _ => ?_)
      refine s_aloadn dL_step_608 rfl rfl ?_
      refine s_iload dL_step_609 rfl ?_
      refine s_sipush (v := 1501) dL_step_611 (by decide) ?_
      refine s_irem dL_step_614 (by decide) ?_
      obtain ⟨c3, eF3, n8, hI3, v7, v11, w2, w3⟩ := p_discount hI2 k2
      refine s_cv1G (n := 74) dL_step_615 rfl (kv hC23.th (by decide) rfl) rfl (by decide) (by decide) (by decide) (by decide) (Nat.le_of_ble_eq_true rfl) (m_X3_discount hC23) (fun r S24 hr24 => ?_) (fun x S2 hr => by have h := hr.1; rw [eF3] at h; cases h)
      have er := hr24.1
      have hC24 := hr24.2.1
      have fr24 := hr24.2.2
      rw [eF3] at er hC24
      dsimp only at er hC24
      cases er
      have hD24 := hD23.fr fr24
      have hW24 := hW23.fr fr24
      have hf24 := hf23.fr fr24
      refine s_iflt (tgt := 625) dL_step_618 (by decide) (fun c => absurd c (by rw [re_ilt]; rw [re_ile] at n8; omega)) (fun c_618 => ?_)
      refine s_iconst (v := 1) dL_step_621 (by decide) ?_
      refine s_goto (tgt := 626) dL_step_622 (by decide) ?_
      exact s_reti dL_step_626 rfl (nr_bool (by decide)) ⟨rfl, ⟨w, c3, LW.of hC24 hm rfl rfl rfl rfl hD24 rfl rfl rfl (v7.trans t7).symm (v11.trans t11).symm hW24 (by rw [w2, w3, j2, a2]) (hI3.up ht)⟩, hf24⟩
    · skip
      refine s_aloadn dL_step_558 rfl rfl ?_
      refine s_iload dL_step_559 rfl ?_
      refine s_iconst (v := 5) dL_step_561 (by decide) ?_
      refine s_irem dL_step_562 (by decide) ?_
      refine s_iload dL_step_563 rfl ?_
      refine s_iconst (v := 2) dL_step_565 (by decide) ?_
      refine s_irem dL_step_566 (by decide) ?_
      refine s_ifne (tgt := 574) dL_step_567 (by decide) (fun c => absurd hz c) (fun c_567 => ?_)
      refine s_iconst (v := 1) dL_step_570 (by decide) ?_
      refine s_goto (tgt := 575) dL_step_571 (by decide) ?_
      refine s_cv2G (n := 73) dL_step_575 rfl (kv hC.th (by decide) rfl) rfl (by decide) (by decide) (by decide) (by decide) (Nat.le_of_ble_eq_true rfl) (m_X3_moratorium hC (Or.inr rfl)) (fun r S25 hr25 => ?_) (fun x S2 hr => by have h := hr.1; rw [eF] at h; cases h)
      have er := hr25.1
      have hC25 := hr25.2.1
      have fr25 := hr25.2.2
      rw [eF] at er hC25
      dsimp only at er hC25
      cases er
      have hD25 := hD.fr fr25
      have hW25 := hW.fr fr25
      have hf25 := hf.fr fr25
      refine s_istore dL_step_578 (by decide) ?_
      refine s_aloadn dL_step_580 rfl rfl ?_
      refine s_iload dL_step_581 rfl ?_
      refine s_iconst (v := 5) dL_step_583 (by decide) ?_
      refine s_irem dL_step_584 (by decide) ?_
      refine s_iload dL_step_585 rfl ?_
      refine s_iconst (v := 2) dL_step_587 (by decide) ?_
      refine s_irem dL_step_588 (by decide) ?_
      refine s_ifne (tgt := 596) dL_step_589 (by decide) (fun c => absurd hz c) (fun c_589 => ?_)
      refine s_iconst (v := 1) dL_step_592 (by decide) ?_
      refine s_goto (tgt := 597) dL_step_593 (by decide) ?_
      refine s_cv2G (n := 73) dL_step_597 rfl (kv hC25.th (by decide) rfl) rfl (by decide) (by decide) (by decide) (by decide) (Nat.le_of_ble_eq_true rfl) (m_X3_moratorium hC25 (Or.inr rfl)) (fun r S26 hr26 => ?_) (fun x S2 hr => by have h := hr.1; rw [eF2] at h; cases h)
      have er := hr26.1
      have hC26 := hr26.2.1
      have fr26 := hr26.2.2
      rw [eF2] at er hC26
      dsimp only at er hC26
      cases er
      have hD26 := hD25.fr fr26
      have hW26 := hW25.fr fr26
      have hf26 := hf25.fr fr26
      refine s_ifne (tgt := 625) dL_step_600 (by decide) (fun c => absurd rfl c) (fun _ => ?_)
      refine s_iload dL_step_603 rfl ?_
      refine s_ifne (tgt := 621) dL_step_605 (by decide) (fun _ => ?_) (fun c => absurd c (by decide))
      refine s_iconst (v := 1) dL_step_621 (by decide) ?_
      refine s_goto (tgt := 626) dL_step_622 (by decide) ?_
      exact s_reti dL_step_626 rfl (nr_bool (by decide)) ⟨rfl, ⟨w, c2, LW.of hC26 hm rfl rfl rfl rfl hD26 rfl rfl rfl t7.symm t11.symm hW26 (by rw [j2, a2]) (hI2.up ht)⟩, hf26⟩
  · obtain ⟨v, c2, hv, eF, hI2, t7, t11, j2, a2, eF2⟩ := p_moratorium (z := 0) hI (Or.inl rfl) k1
    rcases hv with rfl | rfl
    · skip
      refine s_aloadn dL_step_558 rfl rfl ?_
      refine s_iload dL_step_559 rfl ?_
      refine s_iconst (v := 5) dL_step_561 (by decide) ?_
      refine s_irem dL_step_562 (by decide) ?_
      refine s_iload dL_step_563 rfl ?_
      refine s_iconst (v := 2) dL_step_565 (by decide) ?_
      refine s_irem dL_step_566 (by decide) ?_
      refine s_ifne (tgt := 574) dL_step_567 (by decide) (fun c_567 => ?_) (fun c => absurd c hz)
      refine s_iconst (v := 0) dL_step_574 (by decide) ?_
      refine s_cv2G (n := 73) dL_step_575 rfl (kv hC.th (by decide) rfl) rfl (by decide) (by decide) (by decide) (by decide) (Nat.le_of_ble_eq_true rfl) (m_X3_moratorium hC (Or.inl rfl)) (fun r S27 hr27 => ?_) (fun x S2 hr => by have h := hr.1; rw [eF] at h; cases h)
      have er := hr27.1
      have hC27 := hr27.2.1
      have fr27 := hr27.2.2
      rw [eF] at er hC27
      dsimp only at er hC27
      cases er
      have hD27 := hD.fr fr27
      have hW27 := hW.fr fr27
      have hf27 := hf.fr fr27
      refine s_istore dL_step_578 (by decide) ?_
      refine s_aloadn dL_step_580 rfl rfl ?_
      refine s_iload dL_step_581 rfl ?_
      refine s_iconst (v := 5) dL_step_583 (by decide) ?_
      refine s_irem dL_step_584 (by decide) ?_
      refine s_iload dL_step_585 rfl ?_
      refine s_iconst (v := 2) dL_step_587 (by decide) ?_
      refine s_irem dL_step_588 (by decide) ?_
      refine s_ifne (tgt := 596) dL_step_589 (by decide) (fun c_589 => ?_) (fun c => absurd c hz)
      refine s_iconst (v := 0) dL_step_596 (by decide) ?_
      refine s_cv2G (n := 73) dL_step_597 rfl (kv hC27.th (by decide) rfl) rfl (by decide) (by decide) (by decide) (by decide) (Nat.le_of_ble_eq_true rfl) (m_X3_moratorium hC27 (Or.inl rfl)) (fun r S28 hr28 => ?_) (fun x S2 hr => by have h := hr.1; rw [eF2] at h; cases h)
      have er := hr28.1
      have hC28 := hr28.2.1
      have fr28 := hr28.2.2
      rw [eF2] at er hC28
      dsimp only at er hC28
      cases er
      have hD28 := hD27.fr fr28
      have hW28 := hW27.fr fr28
      have hf28 := hf27.fr fr28
      refine s_ifne (tgt := 625) dL_step_600 (by decide) (fun c => absurd rfl c) (fun _ => ?_)
      refine s_iload dL_step_603 rfl ?_
      refine s_ifne (tgt := 621) dL_step_605 (by decide) (fun c => absurd rfl c) (fun _ => ?_)
      refine s_aloadn dL_step_608 rfl rfl ?_
      refine s_iload dL_step_609 rfl ?_
      refine s_sipush (v := 1501) dL_step_611 (by decide) ?_
      refine s_irem dL_step_614 (by decide) ?_
      obtain ⟨c3, eF3, n8, hI3, v7, v11, w2, w3⟩ := p_discount hI2 k2
      refine s_cv1G (n := 74) dL_step_615 rfl (kv hC28.th (by decide) rfl) rfl (by decide) (by decide) (by decide) (by decide) (Nat.le_of_ble_eq_true rfl) (m_X3_discount hC28) (fun r S29 hr29 => ?_) (fun x S2 hr => by have h := hr.1; rw [eF3] at h; cases h)
      have er := hr29.1
      have hC29 := hr29.2.1
      have fr29 := hr29.2.2
      rw [eF3] at er hC29
      dsimp only at er hC29
      cases er
      have hD29 := hD28.fr fr29
      have hW29 := hW28.fr fr29
      have hf29 := hf28.fr fr29
      refine s_iflt (tgt := 625) dL_step_618 (by decide) (fun c => absurd c (by rw [re_ilt]; rw [re_ile] at n8; omega)) (fun c_618 => ?_)
      refine s_iconst (v := 1) dL_step_621 (by decide) ?_
      refine s_goto (tgt := 626) dL_step_622 (by decide) ?_
      exact s_reti dL_step_626 rfl (nr_bool (by decide)) ⟨rfl, ⟨w, c3, LW.of hC29 hm rfl rfl rfl rfl hD29 rfl rfl rfl (v7.trans t7).symm (v11.trans t11).symm hW29 (by rw [w2, w3, j2, a2]) (hI3.up ht)⟩, hf29⟩
    · skip
      refine s_aloadn dL_step_558 rfl rfl ?_
      refine s_iload dL_step_559 rfl ?_
      refine s_iconst (v := 5) dL_step_561 (by decide) ?_
      refine s_irem dL_step_562 (by decide) ?_
      refine s_iload dL_step_563 rfl ?_
      refine s_iconst (v := 2) dL_step_565 (by decide) ?_
      refine s_irem dL_step_566 (by decide) ?_
      refine s_ifne (tgt := 574) dL_step_567 (by decide) (fun c_567 => ?_) (fun c => absurd c hz)
      refine s_iconst (v := 0) dL_step_574 (by decide) ?_
      refine s_cv2G (n := 73) dL_step_575 rfl (kv hC.th (by decide) rfl) rfl (by decide) (by decide) (by decide) (by decide) (Nat.le_of_ble_eq_true rfl) (m_X3_moratorium hC (Or.inl rfl)) (fun r S30 hr30 => ?_) (fun x S2 hr => by have h := hr.1; rw [eF] at h; cases h)
      have er := hr30.1
      have hC30 := hr30.2.1
      have fr30 := hr30.2.2
      rw [eF] at er hC30
      dsimp only at er hC30
      cases er
      have hD30 := hD.fr fr30
      have hW30 := hW.fr fr30
      have hf30 := hf.fr fr30
      refine s_istore dL_step_578 (by decide) ?_
      refine s_aloadn dL_step_580 rfl rfl ?_
      refine s_iload dL_step_581 rfl ?_
      refine s_iconst (v := 5) dL_step_583 (by decide) ?_
      refine s_irem dL_step_584 (by decide) ?_
      refine s_iload dL_step_585 rfl ?_
      refine s_iconst (v := 2) dL_step_587 (by decide) ?_
      refine s_irem dL_step_588 (by decide) ?_
      refine s_ifne (tgt := 596) dL_step_589 (by decide) (fun c_589 => ?_) (fun c => absurd c hz)
      refine s_iconst (v := 0) dL_step_596 (by decide) ?_
      refine s_cv2G (n := 73) dL_step_597 rfl (kv hC30.th (by decide) rfl) rfl (by decide) (by decide) (by decide) (by decide) (Nat.le_of_ble_eq_true rfl) (m_X3_moratorium hC30 (Or.inl rfl)) (fun r S31 hr31 => ?_) (fun x S2 hr => by have h := hr.1; rw [eF2] at h; cases h)
      have er := hr31.1
      have hC31 := hr31.2.1
      have fr31 := hr31.2.2
      rw [eF2] at er hC31
      dsimp only at er hC31
      cases er
      have hD31 := hD30.fr fr31
      have hW31 := hW30.fr fr31
      have hf31 := hf30.fr fr31
      refine s_ifne (tgt := 625) dL_step_600 (by decide) (fun c => absurd rfl c) (fun _ => ?_)
      refine s_iload dL_step_603 rfl ?_
      refine s_ifne (tgt := 621) dL_step_605 (by decide) (fun _ => ?_) (fun c => absurd c (by decide))
      refine s_iconst (v := 1) dL_step_621 (by decide) ?_
      refine s_goto (tgt := 626) dL_step_622 (by decide) ?_
      exact s_reti dL_step_626 rfl (nr_bool (by decide)) ⟨rfl, ⟨w, c2, LW.of hC31 hm rfl rfl rfl rfl hD31 rfl rfl rfl t7.symm t11.symm hW31 (by rw [j2, a2]) (hI2.up ht)⟩, hf31⟩
set_option maxHeartbeats 8000000 in
theorem c_step_627 {tm : Nat × Nat} {S : Sto} {da wa t : Nat} {w : CAd} {c : CC} {x a b cl of : Int32} (L : LW tm w.th da wa t S w c) (ht : t < 600) (ha : 0 ≤ a.toInt) (hb : 0 ≤ b.toInt) : Wp (Ev tm) tm M_L_step (GL tm w.th da wa (t + 1) S) 627 [(0, .ref w.th), (1, .ref da), (2, .ref wa), (3, .int x), (4, .int a), (5, .int b), (6, .int cl), (7, .int of)] [] 420 16000 S := by
  obtain ⟨⟨hC, hm, -⟩, hD, hW, hI⟩ := L
  have hf : F12 S S := F12.rf
  have hn := hI.b.1.1
  have hno := hI.b.1.2.1
  have hnt := hI.b.1.2.2.1
  by_cases hz : w.no = 0
  · skip
    refine s_aloadn dL_step_627 rfl rfl ?_
    refine s_iconst (v := 1) dL_step_628 (by decide) ?_
    refine s_ialdv (j := 1) dL_step_629 hD.1 hD.2.2.2.1 rfl (by rw [hD.2.1]; decide) (by rw [hD.2.1]; decide) ?_
    refine s_ifne (tgt := 645) dL_step_630 (by decide) (fun c => absurd (by rw [hz]; rfl) c) (fun c_630 => ?_)
    refine s_aloadn dL_step_633 rfl rfl ?_
    refine s_aloadn dL_step_634 rfl rfl ?_
    refine s_iload dL_step_635 rfl ?_
    refine s_iload dL_step_637 rfl ?_
    refine s_cs4G (n := 31) dL_step_639 rfl rfl (by decide) (by decide) (by decide) (by decide) (Nat.le_of_ble_eq_true rfl) (m_L_isOffered ⟨⟨hC, hm, rfl⟩, hD, hW, hI⟩ ha hb) (fun r S32 hr => ?_) (fun x S2 hr => by have h := hr.1; cases h)
    obtain ⟨er, ⟨w32, c32, L32⟩, f32⟩ := hr
    cases er
    refine s_goto (tgt := 651) dL_step_642 (by decide) ?_
    exact s_reti dL_step_651 rfl (nr_bool (by decide)) ⟨rfl, ⟨w32, c32, L32.up ht⟩, hf.tr f32⟩
  · skip
    refine s_aloadn dL_step_627 rfl rfl ?_
    refine s_iconst (v := 1) dL_step_628 (by decide) ?_
    refine s_ialdv (j := 1) dL_step_629 hD.1 hD.2.2.2.1 rfl (by rw [hD.2.1]; decide) (by rw [hD.2.1]; decide) ?_
    refine s_ifne (tgt := 645) dL_step_630 (by decide) (fun c_630 => ?_) (fun c => absurd c (nI_nz (by omega) hz))
    refine s_aloadn dL_step_645 rfl rfl ?_
    refine s_aloadn dL_step_646 rfl rfl ?_
    refine s_aloadn dL_step_647 rfl rfl ?_
    refine s_cs3G (n := 23) dL_step_648 rfl rfl (by decide) (by decide) (by decide) (by decide) (Nat.le_of_ble_eq_true rfl) (m_L_isYear ⟨⟨hC, hm, rfl⟩, hD, hW, hI⟩) (fun r S33 hr => ?_) (fun x S2 hr => by have h := hr.1; cases h)
    obtain ⟨er, ⟨w33, c33, L33⟩, f33⟩ := hr
    cases er
    exact s_reti dL_step_651 rfl (nr_bool (by decide)) ⟨rfl, ⟨w33, c33, L33.up ht⟩, hf.tr f33⟩
set_option maxHeartbeats 8000000 in
theorem c_step_652 {tm : Nat × Nat} {S : Sto} {da wa t : Nat} {w : CAd} {c : CC} {x a b cl of : Int32} (L : LW tm w.th da wa t S w c) (ht : t < 600) (ha : 0 ≤ a.toInt) (hb : 0 ≤ b.toInt) : Wp (Ev tm) tm M_L_step (GL tm w.th da wa (t + 1) S) 652 [(0, .ref w.th), (1, .ref da), (2, .ref wa), (3, .int x), (4, .int a), (5, .int b), (6, .int cl), (7, .int of)] [] 420 16000 S := by
  obtain ⟨⟨hC, hm, -⟩, hD, hW, hI⟩ := L
  have hf : F12 S S := F12.rf
  have hn := hI.b.1.1
  have hno := hI.b.1.2.1
  have hnt := hI.b.1.2.2.1
  refine s_aloadn dL_step_652 rfl rfl ?_
  refine s_aloadn dL_step_653 rfl rfl ?_
  refine s_iload dL_step_654 rfl ?_
  refine s_iload dL_step_656 rfl ?_
  refine s_cs4G (n := 31) dL_step_658 rfl rfl (by decide) (by decide) (by decide) (by decide) (Nat.le_of_ble_eq_true rfl) (m_L_isOffered ⟨⟨hC, hm, rfl⟩, hD, hW, hI⟩ ha hb) (fun r S34 hr => ?_) (fun x S2 hr => by have h := hr.1; cases h)
  obtain ⟨er, ⟨w34, c34, L34⟩, f34⟩ := hr
  cases er
  exact s_reti dL_step_661 rfl (nr_bool (by decide)) ⟨rfl, ⟨w34, c34, L34.up ht⟩, hf.tr f34⟩
set_option maxHeartbeats 8000000 in
theorem c_step_662 {tm : Nat × Nat} {S : Sto} {da wa t : Nat} {w : CAd} {c : CC} {x a b cl of : Int32} (L : LW tm w.th da wa t S w c) (ht : t < 600) (ha : 0 ≤ a.toInt) (hb : 0 ≤ b.toInt) (hcl : inr cl w.n) (hof : inr of w.no) : Wp (Ev tm) tm M_L_step (GL tm w.th da wa (t + 1) S) 662 [(0, .ref w.th), (1, .ref da), (2, .ref wa), (3, .int x), (4, .int a), (5, .int b), (6, .int cl), (7, .int of)] [] 420 16000 S := by
  obtain ⟨⟨hC, hm, -⟩, hD, hW, hI⟩ := L
  have hf : F12 S S := F12.rf
  have hn := hI.b.1.1
  have hno := hI.b.1.2.1
  have hnt := hI.b.1.2.2.1
  refine s_aloadn dL_step_662 rfl rfl ?_
  refine s_aloadn dL_step_663 rfl rfl ?_
  refine s_iload dL_step_664 rfl ?_
  refine s_iload dL_step_666 rfl ?_
  refine s_cs4G (n := 24) dL_step_668 rfl rfl (by decide) (by decide) (by decide) (by decide) (Nat.le_of_ble_eq_true rfl) (m_L_isAccepted ⟨⟨hC, hm, rfl⟩, hD, hW, hI⟩ hcl hof) (fun r S35 hr => ?_) (fun x S2 hr => by have h := hr.1; cases h)
  obtain ⟨er, ⟨w35, c35, L35⟩, f35⟩ := hr
  cases er
  exact s_reti dL_step_671 rfl (nr_bool (by decide)) ⟨rfl, ⟨w35, c35, L35.up ht⟩, hf.tr f35⟩
set_option maxHeartbeats 8000000 in
theorem c_step_672 {tm : Nat × Nat} {S : Sto} {da wa t : Nat} {w : CAd} {c : CC} {x a b cl of : Int32} (L : LW tm w.th da wa t S w c) (ht : t < 600) (ha : 0 ≤ a.toInt) (hb : 0 ≤ b.toInt) (hcl : inr cl w.n) (hof : inr of w.no) : Wp (Ev tm) tm M_L_step (GL tm w.th da wa (t + 1) S) 672 [(0, .ref w.th), (1, .ref da), (2, .ref wa), (3, .int x), (4, .int a), (5, .int b), (6, .int cl), (7, .int of)] [] 420 16000 S := by
  obtain ⟨⟨hC, hm, -⟩, hD, hW, hI⟩ := L
  have hf : F12 S S := F12.rf
  have hn := hI.b.1.1
  have hno := hI.b.1.2.1
  have hnt := hI.b.1.2.2.1
  refine s_aloadn dL_step_672 rfl rfl ?_
  refine s_iload dL_step_673 rfl ?_
  refine s_iload dL_step_675 rfl ?_
  refine s_iload dL_step_677 rfl ?_
  refine s_bipush (v := 16) dL_step_679 (by decide) ?_
  refine s_idiv dL_step_681 (by decide) ?_
  refine s_iconst (v := 4) dL_step_682 (by decide) ?_
  refine s_irem dL_step_683 (by decide) ?_
  refine s_ifle (tgt := 691) dL_step_684 (by decide) (fun _ => ?_) (fun _ => ?_)
  · skip
    refine s_iconst (v := 0) dL_step_691 (by decide) ?_
    obtain ⟨c2, eF, hI2, t2, j2, a2⟩ := p_vote (z := 0) hI (Or.inl rfl) hcl hof
    rcases eF with eF | eF
    · skip
      refine s_cw4G (n := 0) dL_step_692 rfl rfl (by decide) (by decide) (by decide) (by decide) (Nat.le_of_ble_eq_true rfl) (m_L_votes hC (Or.inl rfl) (R := .inl (some (.int 0))) (Or.inr ⟨by rw [eF], rfl⟩)) (fun r S36 hr36 => ?_) (fun x S2 hr => by have h := hr.1; cases h)
      obtain ⟨er, hp36⟩ := hr36
      cases er
      have g := PO.gp hp36 hm
      rw [eF] at g
      dsimp only at g
      obtain ⟨w36, gt36, gn36, go36, gg36, hm36, hC36, fr36⟩ := g
      have hD36 := hD.fr fr36
      have hW36 := hW.fr fr36
      have hf36 := hf.fr fr36
      rw [← gt36]
      have hk2 : inr cl w36.n := by rw [gn36]; exact hcl
      refine s_ifne (tgt := 710) dL_step_695 (by decide) (fun c => absurd rfl c) (fun _ => ?_)
      refine s_aloadn dL_step_698 rfl rfl ?_
      refine s_iload dL_step_699 rfl ?_
      refine s_iconst (v := 0) dL_step_701 (by decide) ?_
      refine s_q2 (n := 70) dL_step_702 rfl (kv hC36.th (by decide) rfl) rfl (by decide) (by decide) (by decide) (by decide) (Nat.le_of_ble_eq_true rfl) (r_X3_ofClaim hC36) (a_oc0 hk2) ?_
      refine s_lconst (v := 0) dL_step_705 (by decide) ?_
      refine s_lclt (tgt := 714) dL_step_706 dL_step_707 (by decide) (fun c => absurd c (st_nn hI2.b (re_inl (by omega) hcl))) (fun c_706 => ?_)
      refine s_iconst (v := 1) dL_step_710 (by decide) ?_
      refine s_goto (tgt := 715) dL_step_711 (by decide) ?_
      exact s_reti dL_step_715 rfl (nr_bool (by decide)) ⟨rfl, ⟨w36, c2, LW.of hC36 hm36 rfl gn36 go36 gg36 hD36 rfl rfl rfl (by rw [t2]) (by rw [t2]) hW36 (by rw [j2, a2]) (hI2.up ht)⟩, hf36⟩
    · skip
      refine s_cw4G (n := 0) dL_step_692 rfl rfl (by decide) (by decide) (by decide) (by decide) (Nat.le_of_ble_eq_true rfl) (m_L_votes hC (Or.inl rfl) (R := .inl (some (.int 1))) (Or.inl ⟨by rw [eF], rfl⟩)) (fun r S37 hr37 => ?_) (fun x S2 hr => by have h := hr.1; cases h)
      obtain ⟨er, hp37⟩ := hr37
      cases er
      have g := PO.gp hp37 hm
      rw [eF] at g
      dsimp only at g
      obtain ⟨w37, gt37, gn37, go37, gg37, hm37, hC37, fr37⟩ := g
      have hD37 := hD.fr fr37
      have hW37 := hW.fr fr37
      have hf37 := hf.fr fr37
      rw [← gt37]
      have hk2 : inr cl w37.n := by rw [gn37]; exact hcl
      refine s_ifne (tgt := 710) dL_step_695 (by decide) (fun _ => ?_) (fun c => absurd c (by decide))
      refine s_iconst (v := 1) dL_step_710 (by decide) ?_
      refine s_goto (tgt := 715) dL_step_711 (by decide) ?_
      exact s_reti dL_step_715 rfl (nr_bool (by decide)) ⟨rfl, ⟨w37, c2, LW.of hC37 hm37 rfl gn37 go37 gg37 hD37 rfl rfl rfl (by rw [t2]) (by rw [t2]) hW37 (by rw [j2, a2]) (hI2.up ht)⟩, hf37⟩
  · skip
    refine s_iconst (v := 1) dL_step_687 (by decide) ?_
    refine s_goto (tgt := 692) dL_step_688 (by decide) ?_
    obtain ⟨c2, eF, hI2, t2, j2, a2⟩ := p_vote (z := 1) hI (Or.inr rfl) hcl hof
    rcases eF with eF | eF
    · skip
      refine s_cw4G (n := 0) dL_step_692 rfl rfl (by decide) (by decide) (by decide) (by decide) (Nat.le_of_ble_eq_true rfl) (m_L_votes hC (Or.inr rfl) (R := .inl (some (.int 0))) (Or.inr ⟨by rw [eF], rfl⟩)) (fun r S38 hr38 => ?_) (fun x S2 hr => by have h := hr.1; cases h)
      obtain ⟨er, hp38⟩ := hr38
      cases er
      have g := PO.gp hp38 hm
      rw [eF] at g
      dsimp only at g
      obtain ⟨w38, gt38, gn38, go38, gg38, hm38, hC38, fr38⟩ := g
      have hD38 := hD.fr fr38
      have hW38 := hW.fr fr38
      have hf38 := hf.fr fr38
      rw [← gt38]
      have hk2 : inr cl w38.n := by rw [gn38]; exact hcl
      refine s_ifne (tgt := 710) dL_step_695 (by decide) (fun c => absurd rfl c) (fun _ => ?_)
      refine s_aloadn dL_step_698 rfl rfl ?_
      refine s_iload dL_step_699 rfl ?_
      refine s_iconst (v := 0) dL_step_701 (by decide) ?_
      refine s_q2 (n := 70) dL_step_702 rfl (kv hC38.th (by decide) rfl) rfl (by decide) (by decide) (by decide) (by decide) (Nat.le_of_ble_eq_true rfl) (r_X3_ofClaim hC38) (a_oc0 hk2) ?_
      refine s_lconst (v := 0) dL_step_705 (by decide) ?_
      refine s_lclt (tgt := 714) dL_step_706 dL_step_707 (by decide) (fun c => absurd c (st_nn hI2.b (re_inl (by omega) hcl))) (fun c_706 => ?_)
      refine s_iconst (v := 1) dL_step_710 (by decide) ?_
      refine s_goto (tgt := 715) dL_step_711 (by decide) ?_
      exact s_reti dL_step_715 rfl (nr_bool (by decide)) ⟨rfl, ⟨w38, c2, LW.of hC38 hm38 rfl gn38 go38 gg38 hD38 rfl rfl rfl (by rw [t2]) (by rw [t2]) hW38 (by rw [j2, a2]) (hI2.up ht)⟩, hf38⟩
    · skip
      refine s_cw4G (n := 0) dL_step_692 rfl rfl (by decide) (by decide) (by decide) (by decide) (Nat.le_of_ble_eq_true rfl) (m_L_votes hC (Or.inr rfl) (R := .inl (some (.int 1))) (Or.inl ⟨by rw [eF], rfl⟩)) (fun r S39 hr39 => ?_) (fun x S2 hr => by have h := hr.1; cases h)
      obtain ⟨er, hp39⟩ := hr39
      cases er
      have g := PO.gp hp39 hm
      rw [eF] at g
      dsimp only at g
      obtain ⟨w39, gt39, gn39, go39, gg39, hm39, hC39, fr39⟩ := g
      have hD39 := hD.fr fr39
      have hW39 := hW.fr fr39
      have hf39 := hf.fr fr39
      rw [← gt39]
      have hk2 : inr cl w39.n := by rw [gn39]; exact hcl
      refine s_ifne (tgt := 710) dL_step_695 (by decide) (fun _ => ?_) (fun c => absurd c (by decide))
      refine s_iconst (v := 1) dL_step_710 (by decide) ?_
      refine s_goto (tgt := 715) dL_step_711 (by decide) ?_
      exact s_reti dL_step_715 rfl (nr_bool (by decide)) ⟨rfl, ⟨w39, c2, LW.of hC39 hm39 rfl gn39 go39 gg39 hD39 rfl rfl rfl (by rw [t2]) (by rw [t2]) hW39 (by rw [j2, a2]) (hI2.up ht)⟩, hf39⟩
set_option maxHeartbeats 8000000 in
theorem c_step_716 {tm : Nat × Nat} {S : Sto} {da wa t : Nat} {w : CAd} {c : CC} {x a b cl of : Int32} (L : LW tm w.th da wa t S w c) (ht : t < 600) (ha : 0 ≤ a.toInt) (hb : 0 ≤ b.toInt) (hof : inr of w.no) : Wp (Ev tm) tm M_L_step (GL tm w.th da wa (t + 1) S) 716 [(0, .ref w.th), (1, .ref da), (2, .ref wa), (3, .int x), (4, .int a), (5, .int b), (6, .int cl), (7, .int of)] [] 420 16000 S := by
  obtain ⟨⟨hC, hm, -⟩, hD, hW, hI⟩ := L
  have hf : F12 S S := F12.rf
  have hn := hI.b.1.1
  have hno := hI.b.1.2.1
  have hnt := hI.b.1.2.2.1
  refine s_aloadn dL_step_716 rfl rfl ?_
  refine s_iload dL_step_717 rfl ?_
  refine s_iconst (v := 0) dL_step_719 (by decide) ?_
  refine s_iconst (v := 2) dL_step_720 (by decide) ?_
  rcases p_settle hI hof with eF | ⟨s, c2, hs, eF, hI2, t2, j2, a2, v3⟩
  · skip
    refine s_cw4G (n := 1) dL_step_721 rfl rfl (by decide) (by decide) (by decide) (by decide) (Nat.le_of_ble_eq_true rfl) (m_L_acts2 hC hm (R := .inl (some (.int (-2)))) (Or.inr ⟨by rw [eF], rfl⟩)) (fun r S40 hr40 => ?_) (fun x S2 hr => by have h := hr.1; cases h)
    obtain ⟨er, hp40⟩ := hr40
    cases er
    have g := PA.gp hp40
    rw [eF] at g
    dsimp only at g
    obtain ⟨w40, gt40, gn40, go40, gg40, hm40, hC40, fr40⟩ := g
    have hD40 := hD.fr fr40
    have hW40 := hW.fr fr40
    have hf40 := hf.fr fr40
    rw [← gt40]
    refine s_istore dL_step_724 (by decide) ?_
    refine s_aloadn dL_step_726 rfl rfl ?_
    refine s_iconst (v := 0) dL_step_727 (by decide) ?_
    refine s_dup2 dL_step_728 rfl rfl ?_
    refine s_ialdv (j := 0) dL_step_729 hD40.1 hD40.2.2.1 rfl (by rw [hD40.2.1]; decide) (by rw [hD40.2.1]; decide) ?_
    refine s_iload dL_step_730 rfl ?_
    refine s_bipush (v := (-2)) dL_step_732 (by decide) ?_
    refine s_icne (tgt := 741) dL_step_734 (by decide) (fun c => absurd rfl c) (fun _ => ?_)
    refine s_iconst (v := 0) dL_step_737 (by decide) ?_
    refine s_goto (tgt := 743) dL_step_738 (by decide) ?_
    refine s_iadd dL_step_743 ?_
    refine s_iast' (j := 0) dL_step_744 hD40.1 rfl (by rw [hD40.2.1]; decide) (by rw [hD40.2.1]; decide) ?_
    have hC41 := hC40.I6 (k := 0) (y := (nI w.n) + 0) hD40.1
    have hW41 := hW40.I (da := da) (k := 0) (y := (nI w.n) + 0)
    have hf41 := hf40.I (k := 0) (v := (nI w.n) + 0) hD40.1
    have hD41 := hD40.p0 (y := (nI w.n) + 0)
    refine s_iload dL_step_745 rfl ?_
    refine s_bipush (v := (-2)) dL_step_747 (by decide) ?_
    refine s_iceq (tgt := 773) dL_step_749 (by decide) (fun _ => ?_) (fun c => absurd c (by decide))
    refine s_iconst (v := 1) dL_step_773 (by decide) ?_
    refine s_goto (tgt := 778) dL_step_774 (by decide) ?_
    exact s_reti dL_step_778 rfl (nr_bool (by decide)) ⟨rfl, ⟨w40, c, LW.of hC41 hm40 rfl gn40 go40 gg40 hD41 (Int32.add_zero _) rfl rfl rfl rfl hW41 rfl (hI.up ht)⟩, hf41⟩
  · skip
    refine s_cw4G (n := 1) dL_step_721 rfl rfl (by decide) (by decide) (by decide) (by decide) (Nat.le_of_ble_eq_true rfl) (m_L_acts2 hC hm (R := .inl (some (.int (nI s)))) (Or.inl ⟨_, by rw [eF], rfl⟩)) (fun r S42 hr42 => ?_) (fun x S2 hr => by have h := hr.1; cases h)
    obtain ⟨er, hp42⟩ := hr42
    cases er
    have g := PA.gp hp42
    rw [eF] at g
    dsimp only at g
    obtain ⟨w42, gt42, gn42, go42, gg42, hm42, hC42, fr42⟩ := g
    have hD42 := hD.fr fr42
    have hW42 := hW.fr fr42
    have hf42 := hf.fr fr42
    rw [← gt42]
    have ho2 : inr of w42.no := by rw [go42]; exact hof
    have hI2' : IV w42.n w42.no w42.nt t c2 := by rw [gn42, go42, gg42]; exact hI2
    obtain ⟨c3, eF2, hI3, t3, j3, a3, v4⟩ := p_settle0 hI2' ho2 v3
    refine s_istore dL_step_724 (by decide) ?_
    refine s_aloadn dL_step_726 rfl rfl ?_
    refine s_iconst (v := 0) dL_step_727 (by decide) ?_
    refine s_dup2 dL_step_728 rfl rfl ?_
    refine s_ialdv (j := 0) dL_step_729 hD42.1 hD42.2.2.1 rfl (by rw [hD42.2.1]; decide) (by rw [hD42.2.1]; decide) ?_
    refine s_iload dL_step_730 rfl ?_
    refine s_bipush (v := (-2)) dL_step_732 (by decide) ?_
    refine s_icne (tgt := 741) dL_step_734 (by decide) (fun c_734 => ?_) (fun c => absurd c (nI_ne (by omega) (by decide)))
    refine s_iload dL_step_741 rfl ?_
    refine s_iadd dL_step_743 ?_
    refine s_iast' (j := 0) dL_step_744 hD42.1 rfl (by rw [hD42.2.1]; decide) (by rw [hD42.2.1]; decide) ?_
    have hC43 := hC42.I6 (k := 0) (y := (nI w.n) + (nI s)) hD42.1
    have hW43 := hW42.I (da := da) (k := 0) (y := (nI w.n) + (nI s))
    have hf43 := hf42.I (k := 0) (v := (nI w.n) + (nI s)) hD42.1
    have hD43 := hD42.p0 (y := (nI w.n) + (nI s))
    refine s_iload dL_step_745 rfl ?_
    refine s_bipush (v := (-2)) dL_step_747 (by decide) ?_
    refine s_iceq (tgt := 773) dL_step_749 (by decide) (fun c => absurd c (nI_ne (by omega) (by decide))) (fun c_749 => ?_)
    refine s_aloadn dL_step_752 rfl rfl ?_
    refine s_iload dL_step_753 rfl ?_
    refine s_iconst (v := 0) dL_step_755 (by decide) ?_
    refine s_iconst (v := 2) dL_step_756 (by decide) ?_
    refine s_cw4G (n := 1) dL_step_757 rfl rfl (by decide) (by decide) (by decide) (by decide) (Nat.le_of_ble_eq_true rfl) (m_L_acts2 hC43 hm42 (R := .inl (some (.int 0))) (Or.inl ⟨_, by rw [eF2], rfl⟩)) (fun r S44 hr44 => ?_) (fun x S2 hr => by have h := hr.1; cases h)
    obtain ⟨er, hp44⟩ := hr44
    cases er
    have g := PA.gp hp44
    rw [eF2] at g
    dsimp only at g
    obtain ⟨w44, gt44, gn44, go44, gg44, hm44, hC44, fr44⟩ := g
    have hD44 := hD43.fr fr44
    have hW44 := hW43.fr fr44
    have hf44 := hf43.fr fr44
    rw [← gt44]
    have ho3 : inr of w44.no := by rw [go44]; exact ho2
    refine s_ifne (tgt := 777) dL_step_760 (by decide) (fun c => absurd rfl c) (fun _ => ?_)
    refine s_aloadn dL_step_763 rfl rfl ?_
    refine s_iload dL_step_764 rfl ?_
    refine s_iconst (v := (-1)) dL_step_766 (by decide) ?_
    refine s_q2 (n := 49) dL_step_767 rfl (kv hC44.th (by decide) rfl) rfl (by decide) (by decide) (by decide) (by decide) (Nat.le_of_ble_eq_true rfl) (r_X3_passes hC44) (a_pas ho3) ?_
    refine s_ifne (tgt := 777) dL_step_770 (by decide) (fun c => absurd (by rw [gn44]; exact v4) c) (fun c_770 => ?_)
    refine s_iconst (v := 1) dL_step_773 (by decide) ?_
    refine s_goto (tgt := 778) dL_step_774 (by decide) ?_
    exact s_reti dL_step_778 rfl (nr_bool (by decide)) ⟨rfl, ⟨w44, c3, LW.of hC44 hm44 rfl (gn44.trans gn42) (go44.trans go42) (gg44.trans gg42) hD44 (nI_add _ _) rfl rfl (by rw [t3, t2]) (by rw [t3, t2]) hW44 (by rw [j3, ← gn42, a3, gn42, j2, a2]) (by have h := hI3.up ht; rw [gn42, go42, gg42] at h; exact h)⟩, hf44⟩
set_option maxHeartbeats 8000000 in
theorem c_step_779 {tm : Nat × Nat} {S : Sto} {da wa t : Nat} {w : CAd} {c : CC} {x a b cl of : Int32} (L : LW tm w.th da wa t S w c) (ht : t < 600) (ha : 0 ≤ a.toInt) (hb : 0 ≤ b.toInt) : Wp (Ev tm) tm M_L_step (GL tm w.th da wa (t + 1) S) 779 [(0, .ref w.th), (1, .ref da), (2, .ref wa), (3, .int x), (4, .int a), (5, .int b), (6, .int cl), (7, .int of)] [] 420 16000 S := by
  obtain ⟨⟨hC, hm, -⟩, hD, hW, hI⟩ := L
  have hf : F12 S S := F12.rf
  have hn := hI.b.1.1
  have hno := hI.b.1.2.1
  have hnt := hI.b.1.2.2.1
  have k1 : rng (1 + (b - b / 1000000 * 1000000)) 1 1000000 := by
    obtain ⟨y1, y2⟩ := rem_rng (a := b) hb (b := 1000000) (B := 1000000) rfl (by decide)
    have y3 := one_add y1 y2 (by decide)
    exact rng_of (by rw [y3]; show (1 : Int) ≤ _; omega) (by rw [y3]; show _ ≤ (1000000 : Int); omega)
  refine s_aloadn dL_step_779 rfl rfl ?_
  refine s_iconst (v := 1) dL_step_780 (by decide) ?_
  refine s_iload dL_step_781 rfl ?_
  refine s_ldc (v := 1000000) dL_step_783 cstL_63 ?_
  refine s_irem dL_step_785 (by decide) ?_
  refine s_iadd dL_step_786 ?_
  refine s_iconst (v := 0) dL_step_787 (by decide) ?_
  refine s_iconst (v := 3) dL_step_788 (by decide) ?_
  rcases p_thing (v := 1 + (b - b / 1000000 * 1000000)) hI k1 with ⟨e10, eF⟩ | ⟨h10, c2, eF, hI2, t2, j2, a2⟩
  · skip
    refine s_cw4G (n := 1) dL_step_789 rfl rfl (by decide) (by decide) (by decide) (by decide) (Nat.le_of_ble_eq_true rfl) (m_L_acts3 hC hm (R := .inl (some (.int (-2)))) (Or.inr ⟨by rw [eF], rfl⟩)) (fun r S45 hr45 => ?_) (fun x S2 hr => by have h := hr.1; cases h)
    obtain ⟨er, hp45⟩ := hr45
    cases er
    have g := PG.gp hp45
    rw [eF] at g
    dsimp only at g
    obtain ⟨w45, gt45, gn45, go45, gg45, hm45, hC45, fr45⟩ := g
    have hD45 := hD.fr fr45
    have hW45 := hW.fr fr45
    have hf45 := hf.fr fr45
    rw [← gt45]
    refine s_istore dL_step_792 (by decide) ?_
    refine s_aloadn dL_step_794 rfl rfl ?_
    refine s_iconst (v := 2) dL_step_795 (by decide) ?_
    refine s_dup2 dL_step_796 rfl rfl ?_
    refine s_ialdv (j := 2) dL_step_797 hD45.1 hD45.2.2.2.2.1 rfl (by rw [hD45.2.1]; decide) (by rw [hD45.2.1]; decide) ?_
    refine s_iload dL_step_798 rfl ?_
    refine s_bipush (v := (-2)) dL_step_800 (by decide) ?_
    refine s_icne (tgt := 809) dL_step_802 (by decide) (fun c => absurd rfl c) (fun _ => ?_)
    refine s_iconst (v := 0) dL_step_805 (by decide) ?_
    refine s_goto (tgt := 810) dL_step_806 (by decide) ?_
    refine s_iadd dL_step_810 ?_
    refine s_iast' (j := 2) dL_step_811 hD45.1 rfl (by rw [hD45.2.1]; decide) (by rw [hD45.2.1]; decide) ?_
    have hC46 := hC45.I6 (k := 2) (y := (nI w.nt) + 0) hD45.1
    have hW46 := hW45.I (da := da) (k := 2) (y := (nI w.nt) + 0)
    have hf46 := hf45.I (k := 2) (v := (nI w.nt) + 0) hD45.1
    have hD46 := hD45.p2 (y := (nI w.nt) + 0)
    refine s_iload dL_step_812 rfl ?_
    refine s_bipush (v := (-2)) dL_step_814 (by decide) ?_
    refine s_icne (tgt := 835) dL_step_816 (by decide) (fun c => absurd rfl c) (fun _ => ?_)
    refine s_aloadn dL_step_819 rfl rfl ?_
    refine s_iconst (v := 2) dL_step_820 (by decide) ?_
    refine s_ialdv (j := 2) dL_step_821 hD46.1 hD46.2.2.2.2.1 rfl (by rw [hD46.2.1]; decide) (by rw [hD46.2.1]; decide) ?_
    refine s_bipush (v := 10) dL_step_822 (by decide) ?_
    refine s_icne (tgt := 831) dL_step_824 (by decide) (fun c => absurd (by rw [e10]; rfl) c) (fun c_824 => ?_)
    refine s_iconst (v := 1) dL_step_827 (by decide) ?_
    refine s_goto (tgt := 850) dL_step_828 (by decide) ?_
    exact s_reti dL_step_850 rfl (nr_bool (by decide)) ⟨rfl, ⟨w45, c, LW.of hC46 hm45 rfl gn45 go45 gg45 hD46 rfl rfl (Int32.add_zero _) rfl rfl hW46 rfl (hI.up ht)⟩, hf46⟩
  · skip
    refine s_cw4G (n := 1) dL_step_789 rfl rfl (by decide) (by decide) (by decide) (by decide) (Nat.le_of_ble_eq_true rfl) (m_L_acts3 hC hm (R := .inl (some (.int (nI w.nt)))) (Or.inl ⟨_, by rw [eF], rfl⟩)) (fun r S47 hr47 => ?_) (fun x S2 hr => by have h := hr.1; cases h)
    obtain ⟨er, hp47⟩ := hr47
    cases er
    have g := PG.gp hp47
    rw [eF] at g
    dsimp only at g
    obtain ⟨w47, gt47, gn47, go47, gg47, hm47, hC47, fr47⟩ := g
    have hD47 := hD.fr fr47
    have hW47 := hW.fr fr47
    have hf47 := hf.fr fr47
    rw [← gt47]
    refine s_istore dL_step_792 (by decide) ?_
    refine s_aloadn dL_step_794 rfl rfl ?_
    refine s_iconst (v := 2) dL_step_795 (by decide) ?_
    refine s_dup2 dL_step_796 rfl rfl ?_
    refine s_ialdv (j := 2) dL_step_797 hD47.1 hD47.2.2.2.2.1 rfl (by rw [hD47.2.1]; decide) (by rw [hD47.2.1]; decide) ?_
    refine s_iload dL_step_798 rfl ?_
    refine s_bipush (v := (-2)) dL_step_800 (by decide) ?_
    refine s_icne (tgt := 809) dL_step_802 (by decide) (fun c_802 => ?_) (fun c => absurd c (nI_ne (by omega) (by decide)))
    refine s_iconst (v := 1) dL_step_809 (by decide) ?_
    refine s_iadd dL_step_810 ?_
    refine s_iast' (j := 2) dL_step_811 hD47.1 rfl (by rw [hD47.2.1]; decide) (by rw [hD47.2.1]; decide) ?_
    have hC48 := hC47.I6 (k := 2) (y := (nI w.nt) + 1) hD47.1
    have hW48 := hW47.I (da := da) (k := 2) (y := (nI w.nt) + 1)
    have hf48 := hf47.I (k := 2) (v := (nI w.nt) + 1) hD47.1
    have hD48 := hD47.p2 (y := (nI w.nt) + 1)
    refine s_iload dL_step_812 rfl ?_
    refine s_bipush (v := (-2)) dL_step_814 (by decide) ?_
    refine s_icne (tgt := 835) dL_step_816 (by decide) (fun c_816 => ?_) (fun c => absurd c (nI_ne (by omega) (by decide)))
    refine s_iload dL_step_835 rfl ?_
    refine s_aloadn dL_step_837 rfl rfl ?_
    refine s_iconst (v := 2) dL_step_838 (by decide) ?_
    refine s_ialdv (j := 2) dL_step_839 hD48.1 hD48.2.2.2.2.1 rfl (by rw [hD48.2.1]; decide) (by rw [hD48.2.1]; decide) ?_
    refine s_iconst (v := 1) dL_step_840 (by decide) ?_
    refine s_isub dL_step_841 ?_
    refine s_icne (tgt := 849) dL_step_842 (by decide) (fun c => absurd nI_m c) (fun c_842 => ?_)
    refine s_iconst (v := 1) dL_step_845 (by decide) ?_
    refine s_goto (tgt := 850) dL_step_846 (by decide) ?_
    exact s_reti dL_step_850 rfl (nr_bool (by decide)) ⟨rfl, ⟨w47, c2, LW.of hC48 hm47 rfl gn47 go47 gg47 hD48 rfl rfl (re_cnt (show w.nt < 600 by omega)).2 (by rw [t2]) (by rw [t2]) hW48 (by rw [j2, a2]) (hI2.up ht)⟩, hf48⟩
set_option maxHeartbeats 8000000 in
theorem c_step_851 {tm : Nat × Nat} {S : Sto} {da wa t : Nat} {w : CAd} {c : CC} {x a b cl of : Int32} (L : LW tm w.th da wa t S w c) (ht : t < 600) (ha : 0 ≤ a.toInt) (hb : 0 ≤ b.toInt) (hcl : inr cl w.n) : Wp (Ev tm) tm M_L_step (GL tm w.th da wa (t + 1) S) 851 [(0, .ref w.th), (1, .ref da), (2, .ref wa), (3, .int x), (4, .int a), (5, .int b), (6, .int cl), (7, .int of)] [] 420 16000 S := by
  obtain ⟨⟨hC, hm, -⟩, hD, hW, hI⟩ := L
  have hf : F12 S S := F12.rf
  have hn := hI.b.1.1
  have hno := hI.b.1.2.1
  have hnt := hI.b.1.2.2.1
  rcases p_sue hI hcl with ⟨⟨y1, y2, y3⟩, c2, eF, hI2, t2, j2, a2, u1⟩ | ⟨hno2, eF⟩
  · skip
    refine s_aloadn dL_step_851 rfl rfl ?_
    refine s_iload dL_step_852 rfl ?_
    refine s_bipush (v := 6) dL_step_854 (by decide) ?_
    refine s_q2 (n := 70) dL_step_856 rfl (kv hC.th (by decide) rfl) rfl (by decide) (by decide) (by decide) (by decide) (Nat.le_of_ble_eq_true rfl) (r_X3_ofClaim hC) (a_oc6 hcl) ?_
    refine s_lstore dL_step_859 (by decide) ?_
    refine s_aloadn dL_step_861 rfl rfl ?_
    refine s_iload dL_step_862 rfl ?_
    refine s_iconst (v := 0) dL_step_864 (by decide) ?_
    refine s_q2 (n := 70) dL_step_865 rfl (kv hC.th (by decide) rfl) rfl (by decide) (by decide) (by decide) (by decide) (Nat.le_of_ble_eq_true rfl) (r_X3_ofClaim hC) (a_oc0 hcl) ?_
    refine s_lconst (v := 0) dL_step_868 (by decide) ?_
    refine s_lcne (tgt := 896) dL_step_869 dL_step_870 (by decide) (fun c => absurd (st_zero.mpr y1) c) (fun c_869 => ?_)
    refine s_aloadn dL_step_873 rfl rfl ?_
    refine s_iload dL_step_874 rfl ?_
    refine s_iconst (v := 2) dL_step_876 (by decide) ?_
    refine s_q2 (n := 70) dL_step_877 rfl (kv hC.th (by decide) rfl) rfl (by decide) (by decide) (by decide) (by decide) (Nat.le_of_ble_eq_true rfl) (r_X3_ofClaim hC) (a_oc2 hcl) ?_
    refine s_lconst (v := 0) dL_step_880 (by decide) ?_
    refine s_lcle (tgt := 896) dL_step_881 dL_step_882 (by decide) (fun c => absurd c (by rw [re_le]; rw [re_lt] at y2; omega)) (fun c_881 => ?_)
    refine s_lload dL_step_885 rfl ?_
    refine s_lconst (v := 0) dL_step_887 (by decide) ?_
    refine s_lcne (tgt := 896) dL_step_888 dL_step_889 (by decide) (fun c => absurd (st_zero.mpr y3) c) (fun c_888 => ?_)
    refine s_iconst (v := 1) dL_step_892 (by decide) ?_
    refine s_goto (tgt := 897) dL_step_893 (by decide) ?_
    refine s_istore dL_step_897 (by decide) ?_
    refine s_aloadn dL_step_899 rfl rfl ?_
    refine s_iload dL_step_900 rfl ?_
    refine s_cw2G (n := 2) dL_step_902 rfl rfl (by decide) (by decide) (by decide) (by decide) (Nat.le_of_ble_eq_true rfl) (m_L_sues hC (R := .inl (some (.int 1))) (Or.inl ⟨by rw [eF], rfl⟩)) (fun r S49 hr49 => ?_) (fun x S2 hr => by have h := hr.1; cases h)
    obtain ⟨er, hp49⟩ := hr49
    cases er
    have g := PO.gp hp49 hm
    rw [eF] at g
    dsimp only at g
    obtain ⟨w49, gt49, gn49, go49, gg49, hm49, hC49, fr49⟩ := g
    have hD49 := hD.fr fr49
    have hW49 := hW.fr fr49
    have hf49 := hf.fr fr49
    rw [← gt49]
    have hk2 : inr cl w49.n := by rw [gn49]; exact hcl
    refine s_iload dL_step_905 rfl ?_
    refine s_icne (tgt := 937) dL_step_907 (by decide) (fun c => absurd rfl c) (fun _ => ?_)
    refine s_aloadn dL_step_910 rfl rfl ?_
    refine s_iload dL_step_911 rfl ?_
    refine s_bipush (v := 6) dL_step_913 (by decide) ?_
    refine s_q2 (n := 70) dL_step_915 rfl (kv hC49.th (by decide) rfl) rfl (by decide) (by decide) (by decide) (by decide) (Nat.le_of_ble_eq_true rfl) (r_X3_ofClaim hC49) (a_oc6 hk2) ?_
    refine s_iload dL_step_918 rfl ?_
    refine s_ifeq (tgt := 927) dL_step_920 (by decide) (fun c => absurd c (by decide)) (fun _ => ?_)
    refine s_lconst (v := 1) dL_step_923 (by decide) ?_
    refine s_goto (tgt := 929) dL_step_924 (by decide) ?_
    refine s_lcne (tgt := 937) dL_step_929 dL_step_930 (by decide) (fun c => absurd (by rw [u1]; rfl) c) (fun c_929 => ?_)
    refine s_iconst (v := 1) dL_step_933 (by decide) ?_
    refine s_goto (tgt := 938) dL_step_934 (by decide) ?_
    exact s_reti dL_step_938 rfl (nr_bool (by decide)) ⟨rfl, ⟨w49, c2, LW.of hC49 hm49 rfl gn49 go49 gg49 hD49 rfl rfl rfl (by rw [t2]) (by rw [t2]) hW49 (by rw [j2, a2]) (hI2.up ht)⟩, hf49⟩
  · skip
    refine s_aloadn dL_step_851 rfl rfl ?_
    refine s_iload dL_step_852 rfl ?_
    refine s_bipush (v := 6) dL_step_854 (by decide) ?_
    refine s_q2 (n := 70) dL_step_856 rfl (kv hC.th (by decide) rfl) rfl (by decide) (by decide) (by decide) (by decide) (Nat.le_of_ble_eq_true rfl) (r_X3_ofClaim hC) (a_oc6 hcl) ?_
    refine s_lstore dL_step_859 (by decide) ?_
    refine s_aloadn dL_step_861 rfl rfl ?_
    refine s_iload dL_step_862 rfl ?_
    refine s_iconst (v := 0) dL_step_864 (by decide) ?_
    refine s_q2 (n := 70) dL_step_865 rfl (kv hC.th (by decide) rfl) rfl (by decide) (by decide) (by decide) (by decide) (Nat.le_of_ble_eq_true rfl) (r_X3_ofClaim hC) (a_oc0 hcl) ?_
    refine s_lconst (v := 0) dL_step_868 (by decide) ?_
    refine s_lcne (tgt := 896) dL_step_869 dL_step_870 (by decide) (fun c_869 => ?_) (fun c_869 => ?_)
    · skip
      refine s_iconst (v := 0) dL_step_896 (by decide) ?_
      refine s_istore dL_step_897 (by decide) ?_
      refine s_aloadn dL_step_899 rfl rfl ?_
      refine s_iload dL_step_900 rfl ?_
      refine s_cw2G (n := 2) dL_step_902 rfl rfl (by decide) (by decide) (by decide) (by decide) (Nat.le_of_ble_eq_true rfl) (m_L_sues hC (R := .inl (some (.int 0))) (Or.inr ⟨by rw [eF], rfl⟩)) (fun r S50 hr50 => ?_) (fun x S2 hr => by have h := hr.1; cases h)
      obtain ⟨er, hp50⟩ := hr50
      cases er
      have g := PO.gp hp50 hm
      rw [eF] at g
      dsimp only at g
      obtain ⟨w50, gt50, gn50, go50, gg50, hm50, hC50, fr50⟩ := g
      have hD50 := hD.fr fr50
      have hW50 := hW.fr fr50
      have hf50 := hf.fr fr50
      rw [← gt50]
      have hk2 : inr cl w50.n := by rw [gn50]; exact hcl
      refine s_iload dL_step_905 rfl ?_
      refine s_icne (tgt := 937) dL_step_907 (by decide) (fun c => absurd rfl c) (fun _ => ?_)
      refine s_aloadn dL_step_910 rfl rfl ?_
      refine s_iload dL_step_911 rfl ?_
      refine s_bipush (v := 6) dL_step_913 (by decide) ?_
      refine s_q2 (n := 70) dL_step_915 rfl (kv hC50.th (by decide) rfl) rfl (by decide) (by decide) (by decide) (by decide) (Nat.le_of_ble_eq_true rfl) (r_X3_ofClaim hC50) (a_oc6 hk2) ?_
      refine s_iload dL_step_918 rfl ?_
      refine s_ifeq (tgt := 927) dL_step_920 (by decide) (fun _ => ?_) (fun c => absurd c (by decide))
      refine s_lload dL_step_927 rfl ?_
      refine s_lcne (tgt := 937) dL_step_929 dL_step_930 (by decide) (fun c => absurd rfl c) (fun c_929 => ?_)
      refine s_iconst (v := 1) dL_step_933 (by decide) ?_
      refine s_goto (tgt := 938) dL_step_934 (by decide) ?_
      exact s_reti dL_step_938 rfl (nr_bool (by decide)) ⟨rfl, ⟨w50, c, LW.of hC50 hm50 rfl gn50 go50 gg50 hD50 rfl rfl rfl rfl rfl hW50 rfl (hI.up ht)⟩, hf50⟩
    · skip
      refine s_aloadn dL_step_873 rfl rfl ?_
      refine s_iload dL_step_874 rfl ?_
      refine s_iconst (v := 2) dL_step_876 (by decide) ?_
      refine s_q2 (n := 70) dL_step_877 rfl (kv hC.th (by decide) rfl) rfl (by decide) (by decide) (by decide) (by decide) (Nat.le_of_ble_eq_true rfl) (r_X3_ofClaim hC) (a_oc2 hcl) ?_
      refine s_lconst (v := 0) dL_step_880 (by decide) ?_
      refine s_lcle (tgt := 896) dL_step_881 dL_step_882 (by decide) (fun c_881 => ?_) (fun c_881 => ?_)
      · skip
        refine s_iconst (v := 0) dL_step_896 (by decide) ?_
        refine s_istore dL_step_897 (by decide) ?_
        refine s_aloadn dL_step_899 rfl rfl ?_
        refine s_iload dL_step_900 rfl ?_
        refine s_cw2G (n := 2) dL_step_902 rfl rfl (by decide) (by decide) (by decide) (by decide) (Nat.le_of_ble_eq_true rfl) (m_L_sues hC (R := .inl (some (.int 0))) (Or.inr ⟨by rw [eF], rfl⟩)) (fun r S51 hr51 => ?_) (fun x S2 hr => by have h := hr.1; cases h)
        obtain ⟨er, hp51⟩ := hr51
        cases er
        have g := PO.gp hp51 hm
        rw [eF] at g
        dsimp only at g
        obtain ⟨w51, gt51, gn51, go51, gg51, hm51, hC51, fr51⟩ := g
        have hD51 := hD.fr fr51
        have hW51 := hW.fr fr51
        have hf51 := hf.fr fr51
        rw [← gt51]
        have hk2 : inr cl w51.n := by rw [gn51]; exact hcl
        refine s_iload dL_step_905 rfl ?_
        refine s_icne (tgt := 937) dL_step_907 (by decide) (fun c => absurd rfl c) (fun _ => ?_)
        refine s_aloadn dL_step_910 rfl rfl ?_
        refine s_iload dL_step_911 rfl ?_
        refine s_bipush (v := 6) dL_step_913 (by decide) ?_
        refine s_q2 (n := 70) dL_step_915 rfl (kv hC51.th (by decide) rfl) rfl (by decide) (by decide) (by decide) (by decide) (Nat.le_of_ble_eq_true rfl) (r_X3_ofClaim hC51) (a_oc6 hk2) ?_
        refine s_iload dL_step_918 rfl ?_
        refine s_ifeq (tgt := 927) dL_step_920 (by decide) (fun _ => ?_) (fun c => absurd c (by decide))
        refine s_lload dL_step_927 rfl ?_
        refine s_lcne (tgt := 937) dL_step_929 dL_step_930 (by decide) (fun c => absurd rfl c) (fun c_929 => ?_)
        refine s_iconst (v := 1) dL_step_933 (by decide) ?_
        refine s_goto (tgt := 938) dL_step_934 (by decide) ?_
        exact s_reti dL_step_938 rfl (nr_bool (by decide)) ⟨rfl, ⟨w51, c, LW.of hC51 hm51 rfl gn51 go51 gg51 hD51 rfl rfl rfl rfl rfl hW51 rfl (hI.up ht)⟩, hf51⟩
      · skip
        refine s_lload dL_step_885 rfl ?_
        refine s_lconst (v := 0) dL_step_887 (by decide) ?_
        refine s_lcne (tgt := 896) dL_step_888 dL_step_889 (by decide) (fun c_888 => ?_) (fun c => absurd ⟨st_zero.mp c_869, by rw [re_lt]; rw [re_le] at c_881; omega, st_zero.mp c⟩ hno2)
        refine s_iconst (v := 0) dL_step_896 (by decide) ?_
        refine s_istore dL_step_897 (by decide) ?_
        refine s_aloadn dL_step_899 rfl rfl ?_
        refine s_iload dL_step_900 rfl ?_
        refine s_cw2G (n := 2) dL_step_902 rfl rfl (by decide) (by decide) (by decide) (by decide) (Nat.le_of_ble_eq_true rfl) (m_L_sues hC (R := .inl (some (.int 0))) (Or.inr ⟨by rw [eF], rfl⟩)) (fun r S52 hr52 => ?_) (fun x S2 hr => by have h := hr.1; cases h)
        obtain ⟨er, hp52⟩ := hr52
        cases er
        have g := PO.gp hp52 hm
        rw [eF] at g
        dsimp only at g
        obtain ⟨w52, gt52, gn52, go52, gg52, hm52, hC52, fr52⟩ := g
        have hD52 := hD.fr fr52
        have hW52 := hW.fr fr52
        have hf52 := hf.fr fr52
        rw [← gt52]
        have hk2 : inr cl w52.n := by rw [gn52]; exact hcl
        refine s_iload dL_step_905 rfl ?_
        refine s_icne (tgt := 937) dL_step_907 (by decide) (fun c => absurd rfl c) (fun _ => ?_)
        refine s_aloadn dL_step_910 rfl rfl ?_
        refine s_iload dL_step_911 rfl ?_
        refine s_bipush (v := 6) dL_step_913 (by decide) ?_
        refine s_q2 (n := 70) dL_step_915 rfl (kv hC52.th (by decide) rfl) rfl (by decide) (by decide) (by decide) (by decide) (Nat.le_of_ble_eq_true rfl) (r_X3_ofClaim hC52) (a_oc6 hk2) ?_
        refine s_iload dL_step_918 rfl ?_
        refine s_ifeq (tgt := 927) dL_step_920 (by decide) (fun _ => ?_) (fun c => absurd c (by decide))
        refine s_lload dL_step_927 rfl ?_
        refine s_lcne (tgt := 937) dL_step_929 dL_step_930 (by decide) (fun c => absurd rfl c) (fun c_929 => ?_)
        refine s_iconst (v := 1) dL_step_933 (by decide) ?_
        refine s_goto (tgt := 938) dL_step_934 (by decide) ?_
        exact s_reti dL_step_938 rfl (nr_bool (by decide)) ⟨rfl, ⟨w52, c, LW.of hC52 hm52 rfl gn52 go52 gg52 hD52 rfl rfl rfl rfl rfl hW52 rfl (hI.up ht)⟩, hf52⟩
set_option maxHeartbeats 8000000 in
theorem c_step_939 {tm : Nat × Nat} {S : Sto} {da wa t : Nat} {w : CAd} {c : CC} {x a b cl of : Int32} (L : LW tm w.th da wa t S w c) (ht : t < 600) (ha : 0 ≤ a.toInt) (hb : 0 ≤ b.toInt) (hcl : inr cl w.n) : Wp (Ev tm) tm M_L_step (GL tm w.th da wa (t + 1) S) 939 [(0, .ref w.th), (1, .ref da), (2, .ref wa), (3, .int x), (4, .int a), (5, .int b), (6, .int cl), (7, .int of)] [] 420 16000 S := by
  obtain ⟨⟨hC, hm, -⟩, hD, hW, hI⟩ := L
  have hf : F12 S S := F12.rf
  have hn := hI.b.1.1
  have hno := hI.b.1.2.1
  have hnt := hI.b.1.2.2.1
  by_cases hz : w.nt = 0
  · skip
    refine s_aloadn dL_step_939 rfl rfl ?_
    refine s_iconst (v := 2) dL_step_940 (by decide) ?_
    refine s_ialdv (j := 2) dL_step_941 hD.1 hD.2.2.2.2.1 rfl (by rw [hD.2.1]; decide) (by rw [hD.2.1]; decide) ?_
    refine s_ifeq (tgt := 963) dL_step_942 (by decide) (fun c_942 => ?_) (fun c => absurd (by rw [hz]; rfl) c)
    refine s_iconst (v := 1) dL_step_963 (by decide) ?_
    refine s_goto (tgt := 968) dL_step_964 (by decide) ?_
    exact s_reti dL_step_968 rfl (nr_bool (by decide)) ⟨rfl, ⟨w, c, LW.of hC hm rfl rfl rfl rfl hD rfl rfl rfl rfl rfl hW rfl (hI.up ht)⟩, hf⟩
  · skip
    have hg : inr (b - b / nI w.nt * nI w.nt) w.nt := by
      obtain ⟨y1, y2⟩ := rem_rng hb (re_nI (show w.nt < 2147483648 by omega)) (by omega)
      exact inr_of (by omega) y1 y2
    refine s_aloadn dL_step_939 rfl rfl ?_
    refine s_iconst (v := 2) dL_step_940 (by decide) ?_
    refine s_ialdv (j := 2) dL_step_941 hD.1 hD.2.2.2.2.1 rfl (by rw [hD.2.1]; decide) (by rw [hD.2.1]; decide) ?_
    refine s_ifeq (tgt := 963) dL_step_942 (by decide) (fun c => absurd c (nI_nz (by omega) hz)) (fun c_942 => ?_)
    refine s_aloadn dL_step_945 rfl rfl ?_
    refine s_aloadn dL_step_946 rfl rfl ?_
    refine s_iload dL_step_947 rfl ?_
    refine s_iload dL_step_949 rfl ?_
    refine s_aloadn dL_step_951 rfl rfl ?_
    refine s_iconst (v := 2) dL_step_952 (by decide) ?_
    refine s_ialdv (j := 2) dL_step_953 hD.1 hD.2.2.2.2.1 rfl (by rw [hD.2.1]; decide) (by rw [hD.2.1]; decide) ?_
    refine s_irem dL_step_954 (nI_nz (by omega) hz) ?_
    refine s_iload dL_step_955 rfl ?_
    refine s_cs5G (n := 25) dL_step_957 rfl rfl (by decide) (by decide) (by decide) (by decide) (Nat.le_of_ble_eq_true rfl) (m_L_isSeized ⟨⟨hC, hm, rfl⟩, hD, hW, hI⟩ hcl hg) (fun r S53 hr => ?_) (fun x S2 hr => by have h := hr.1; cases h)
    obtain ⟨er, ⟨w53, c53, L53⟩, f53⟩ := hr
    cases er
    refine s_ifeq (tgt := 967) dL_step_960 (by decide) (fun c => absurd c (by decide)) (fun _ => ?_)
    refine s_iconst (v := 1) dL_step_963 (by decide) ?_
    refine s_goto (tgt := 968) dL_step_964 (by decide) ?_
    exact s_reti dL_step_968 rfl (nr_bool (by decide)) ⟨rfl, ⟨w53, c53, L53.up ht⟩, hf.tr f53⟩
set_option maxHeartbeats 8000000 in
theorem c_step_969 {tm : Nat × Nat} {S : Sto} {da wa t : Nat} {w : CAd} {c : CC} {x a b cl of : Int32} (L : LW tm w.th da wa t S w c) (ht : t < 600) (ha : 0 ≤ a.toInt) (hb : 0 ≤ b.toInt) : Wp (Ev tm) tm M_L_step (GL tm w.th da wa (t + 1) S) 969 [(0, .ref w.th), (1, .ref da), (2, .ref wa), (3, .int x), (4, .int a), (5, .int b), (6, .int cl), (7, .int of)] [] 420 16000 S := by
  obtain ⟨⟨hC, hm, -⟩, hD, hW, hI⟩ := L
  have hf : F12 S S := F12.rf
  have hn := hI.b.1.1
  have hno := hI.b.1.2.1
  have hnt := hI.b.1.2.2.1
  have k1 : rng (1 + (b - b / 1000000 * 1000000)) 1 1000000 := by
    obtain ⟨y1, y2⟩ := rem_rng (a := b) hb (b := 1000000) (B := 1000000) rfl (by decide)
    have y3 := one_add y1 y2 (by decide)
    exact rng_of (by rw [y3]; show (1 : Int) ≤ _; omega) (by rw [y3]; show _ ≤ (1000000 : Int); omega)
  have k3 : rng (1 + (a - a / 10 * 10)) 1 10 := by
    obtain ⟨y1, y2⟩ := rem_rng (a := a) ha (b := 10) (B := 10) rfl (by decide)
    have y3 := one_add y1 y2 (by decide)
    exact rng_of (by rw [y3]; show (1 : Int) ≤ _; omega) (by rw [y3]; show _ ≤ (10 : Int); omega)
  have k2 : rng ((a - a / 401 * 401) - 200) (-200) 200 := by
    obtain ⟨y1, y2⟩ := rem_rng ha (b := 401) (B := 401) rfl (by decide)
    have y3 : (a - a / 401 * 401 - 200).toInt = (a - a / 401 * 401).toInt - 200 := by
      rw [re_isub (by rw [show (200 : Int32).toInt = 200 from rfl]; omega) (by rw [show (200 : Int32).toInt = 200 from rfl]; omega)]; rfl
    exact rng_of (by rw [y3]; show (-200 : Int) ≤ _; omega) (by rw [y3]; show _ ≤ (200 : Int); omega)
  obtain ⟨c2, eF, hI2, t7, t11, t13, j2, a2⟩ := p_programme hI k1 k2 k3
  refine s_aloadn dL_step_969 rfl rfl ?_
  refine s_iconst (v := 4) dL_step_970 (by decide) ?_
  refine s_iconst (v := 1) dL_step_971 (by decide) ?_
  refine s_iload dL_step_972 rfl ?_
  refine s_ldc (v := 1000000) dL_step_974 cstL_63 ?_
  refine s_irem dL_step_976 (by decide) ?_
  refine s_iadd dL_step_977 ?_
  refine s_iast' (j := 4) dL_step_978 hD.1 rfl (by rw [hD.2.1]; decide) (by rw [hD.2.1]; decide) ?_
  have hC54 := hC.I6 (k := 4) (y := 1 + (b - b / 1000000 * 1000000)) hD.1
  have hW54 := hW.I (da := da) (k := 4) (y := 1 + (b - b / 1000000 * 1000000))
  have hf54 := hf.I (k := 4) (v := 1 + (b - b / 1000000 * 1000000)) hD.1
  have hD54 := hD.p4 (y := 1 + (b - b / 1000000 * 1000000))
  refine s_aloadn dL_step_979 rfl rfl ?_
  refine s_aloadn dL_step_980 rfl rfl ?_
  refine s_iconst (v := 4) dL_step_981 (by decide) ?_
  refine s_ialdv (j := 4) dL_step_982 hD54.1 hD54.2.2.2.2.2.2 rfl (by rw [hD54.2.1]; decide) (by rw [hD54.2.1]; decide) ?_
  refine s_iload dL_step_983 rfl ?_
  refine s_sipush (v := 401) dL_step_985 (by decide) ?_
  refine s_irem dL_step_988 (by decide) ?_
  refine s_sipush (v := 200) dL_step_989 (by decide) ?_
  refine s_isub dL_step_992 ?_
  refine s_iconst (v := 1) dL_step_993 (by decide) ?_
  refine s_iload dL_step_994 rfl ?_
  refine s_bipush (v := 10) dL_step_996 (by decide) ?_
  refine s_irem dL_step_998 (by decide) ?_
  refine s_iadd dL_step_999 ?_
  refine s_cv3G (n := 51) dL_step_1000 rfl (kv hC54.th (by decide) rfl) rfl (by decide) (by decide) (by decide) (by decide) (Nat.le_of_ble_eq_true rfl) (m_X3_programme hC54) (fun r S55 hr55 => ?_) (fun x S2 hr => by have h := hr.1; rw [eF] at h; cases h)
  have er := hr55.1
  have hC55 := hr55.2.1
  have fr55 := hr55.2.2
  rw [eF] at er hC55
  dsimp only at er hC55
  cases er
  have hD55 := hD54.fr fr55
  have hW55 := hW54.fr fr55
  have hf55 := hf54.fr fr55
  refine s_aloadn dL_step_1003 rfl rfl ?_
  refine s_iconst (v := 4) dL_step_1004 (by decide) ?_
  refine s_q1 (n := 71) dL_step_1005 rfl (kv hC55.th (by decide) rfl) rfl (by decide) (by decide) (by decide) (by decide) (Nat.le_of_ble_eq_true rfl) (r_X3_ofState hC55) (a_os4) ?_
  refine s_iconst (v := 1) dL_step_1008 (by decide) ?_
  refine s_iload dL_step_1009 rfl ?_
  refine s_bipush (v := 10) dL_step_1011 (by decide) ?_
  refine s_irem dL_step_1013 (by decide) ?_
  refine s_iadd dL_step_1014 ?_
  refine s_i2l dL_step_1015 ?_
  refine s_lcne (tgt := 1024) dL_step_1016 dL_step_1017 (by decide) (fun c => absurd (by rw [t13]) c) (fun c_1016 => ?_)
  refine s_iconst (v := 1) dL_step_1020 (by decide) ?_
  refine s_goto (tgt := 1025) dL_step_1021 (by decide) ?_
  exact s_reti dL_step_1025 rfl (nr_bool (by decide)) ⟨rfl, ⟨w, c2, LW.of hC55 hm rfl rfl rfl rfl hD55 rfl rfl rfl t7.symm t11.symm hW55 (by rw [j2, a2]) (hI2.up ht)⟩, hf55⟩
set_option maxHeartbeats 8000000 in
theorem c_step_1026 {tm : Nat × Nat} {S : Sto} {da wa t : Nat} {w : CAd} {c : CC} {x a b cl of : Int32} (L : LW tm w.th da wa t S w c) (ht : t < 600) (ha : 0 ≤ a.toInt) (hb : 0 ≤ b.toInt) : Wp (Ev tm) tm M_L_step (GL tm w.th da wa (t + 1) S) 1026 [(0, .ref w.th), (1, .ref da), (2, .ref wa), (3, .int x), (4, .int a), (5, .int b), (6, .int cl), (7, .int of)] [] 420 16000 S := by
  obtain ⟨⟨hC, hm, -⟩, hD, hW, hI⟩ := L
  have hf : F12 S S := F12.rf
  have hn := hI.b.1.1
  have hno := hI.b.1.2.1
  have hnt := hI.b.1.2.2.1
  have k1 : rng (a - a / 8 * 8) 0 7 := by
    obtain ⟨y1, y2⟩ := rem_rng ha (b := 8) (B := 8) rfl (by decide)
    exact rng_of y1 (by show _ ≤ (7 : Int); omega)
  have k2 : inr (a - a / 5 * 5) 5 := by
    obtain ⟨y1, y2⟩ := rem_rng ha (b := 5) (B := 5) rfl (by decide)
    exact inr_of (by decide) y1 y2
  by_cases hz : b - b / 3 * 3 ≤ 0
  · obtain ⟨v, c2, hv, eF, hI2, t7, t11, j2, a2, eF2⟩ := p_assure (z := 0) hI (Or.inl rfl) k1
    rcases hv with rfl | rfl
    · skip
      refine s_aloadn dL_step_1026 rfl rfl ?_
      refine s_iload dL_step_1027 rfl ?_
      refine s_bipush (v := 8) dL_step_1029 (by decide) ?_
      refine s_irem dL_step_1031 (by decide) ?_
      refine s_iload dL_step_1032 rfl ?_
      refine s_iconst (v := 3) dL_step_1034 (by decide) ?_
      refine s_irem dL_step_1035 (by decide) ?_
      refine s_ifle (tgt := 1043) dL_step_1036 (by decide) (fun c_1036 => ?_) (fun c => absurd hz c)
      refine s_iconst (v := 0) dL_step_1043 (by decide) ?_
      refine s_cv2G (n := 52) dL_step_1044 rfl (kv hC.th (by decide) rfl) rfl (by decide) (by decide) (by decide) (by decide) (Nat.le_of_ble_eq_true rfl) (m_X3_assure hC (Or.inl rfl)) (fun r S56 hr56 => ?_) (fun x S2 hr => by have h := hr.1; rw [eF] at h; cases h)
      have er := hr56.1
      have hC56 := hr56.2.1
      have fr56 := hr56.2.2
      rw [eF] at er hC56
      dsimp only at er hC56
      cases er
      have hD56 := hD.fr fr56
      have hW56 := hW.fr fr56
      have hf56 := hf.fr fr56
      refine s_istore dL_step_1047 (by decide) ?_
      refine s_aloadn dL_step_1049 rfl rfl ?_
      refine s_iload dL_step_1050 rfl ?_
      refine s_bipush (v := 8) dL_step_1052 (by decide) ?_
      refine s_irem dL_step_1054 (by decide) ?_
      refine s_iload dL_step_1055 rfl ?_
      refine s_iconst (v := 3) dL_step_1057 (by decide) ?_
      refine s_irem dL_step_1058 (by decide) ?_
      refine s_ifle (tgt := 1066) dL_step_1059 (by decide) (fun c_1059 => ?_) (fun c => absurd hz c)
      refine s_iconst (v := 0) dL_step_1066 (by decide) ?_
      refine s_cv2G (n := 52) dL_step_1067 rfl (kv hC56.th (by decide) rfl) rfl (by decide) (by decide) (by decide) (by decide) (Nat.le_of_ble_eq_true rfl) (m_X3_assure hC56 (Or.inl rfl)) (fun r S57 hr57 => ?_) (fun x S2 hr => by have h := hr.1; rw [eF2] at h; cases h)
      have er := hr57.1
      have hC57 := hr57.2.1
      have fr57 := hr57.2.2
      rw [eF2] at er hC57
      dsimp only at er hC57
      cases er
      have hD57 := hD56.fr fr57
      have hW57 := hW56.fr fr57
      have hf57 := hf56.fr fr57
      refine s_ifne (tgt := 1105) dL_step_1070 (by decide) (fun c => absurd rfl c) (fun _ => ?_)
      refine s_aloadn dL_step_1073 rfl rfl ?_
      refine s_aloadn dL_step_1074 rfl rfl ?_
      refine s_aloadn dL_step_1075 rfl rfl ?_
      have LL : LW tm w.th da wa t S57 w c2 := LW.of hC57 hm rfl rfl rfl rfl hD57 rfl rfl rfl t7.symm t11.symm hW57 (by rw [j2, a2]) hI2
      refine s_cs3G (n := 26) dL_step_1076 rfl rfl (by decide) (by decide) (by decide) (by decide) (Nat.le_of_ble_eq_true rfl) (m_L_isReviewed LL) (fun r S58 hr => ?_) (fun x S2 hr => by have h := hr.1; cases h)
      obtain ⟨er, ⟨w58, c58, L58⟩, f58⟩ := hr
      cases er
      refine s_ifeq (tgt := 1105) dL_step_1079 (by decide) (fun c => absurd c (by decide)) (fun _ => ?_)
      refine s_iload dL_step_1082 rfl ?_
      refine s_ifne (tgt := 1101) dL_step_1084 (by decide) (fun c => absurd rfl c) (fun _ => ?_)
      refine s_aloadn dL_step_1087 rfl rfl ?_
      refine s_iload dL_step_1088 rfl ?_
      refine s_iconst (v := 5) dL_step_1090 (by decide) ?_
      refine s_irem dL_step_1091 (by decide) ?_
      have LK := L58
      obtain ⟨⟨hCk, hmk, gtk⟩, hDk, hWk, hIk⟩ := LK
      rw [← gtk]
      refine s_q1 (n := 53) dL_step_1092 rfl (kv hCk.th (by decide) rfl) rfl (by decide) (by decide) (by decide) (by decide) (Nat.le_of_ble_eq_true rfl) (r_X3_effort hCk) (a_eff k2) ?_
      refine s_sipush (v := 10000) dL_step_1095 (by decide) ?_
      refine s_icgt (tgt := 1105) dL_step_1098 (by decide) (fun c => absurd c (by have h := p_effort hIk (kd := a - a / 5 * 5); rw [re_ilt]; rw [re_ile] at h; omega)) (fun c_1098 => ?_)
      refine s_iconst (v := 1) dL_step_1101 (by decide) ?_
      refine s_goto (tgt := 1106) dL_step_1102 (by decide) ?_
      exact s_reti dL_step_1106 rfl (nr_bool (by decide)) ⟨rfl, ⟨w58, c58, by rw [gtk]; exact L58.up ht⟩, hf57.tr f58⟩
    · skip
      refine s_aloadn dL_step_1026 rfl rfl ?_
      refine s_iload dL_step_1027 rfl ?_
      refine s_bipush (v := 8) dL_step_1029 (by decide) ?_
      refine s_irem dL_step_1031 (by decide) ?_
      refine s_iload dL_step_1032 rfl ?_
      refine s_iconst (v := 3) dL_step_1034 (by decide) ?_
      refine s_irem dL_step_1035 (by decide) ?_
      refine s_ifle (tgt := 1043) dL_step_1036 (by decide) (fun c_1036 => ?_) (fun c => absurd hz c)
      refine s_iconst (v := 0) dL_step_1043 (by decide) ?_
      refine s_cv2G (n := 52) dL_step_1044 rfl (kv hC.th (by decide) rfl) rfl (by decide) (by decide) (by decide) (by decide) (Nat.le_of_ble_eq_true rfl) (m_X3_assure hC (Or.inl rfl)) (fun r S59 hr59 => ?_) (fun x S2 hr => by have h := hr.1; rw [eF] at h; cases h)
      have er := hr59.1
      have hC59 := hr59.2.1
      have fr59 := hr59.2.2
      rw [eF] at er hC59
      dsimp only at er hC59
      cases er
      have hD59 := hD.fr fr59
      have hW59 := hW.fr fr59
      have hf59 := hf.fr fr59
      refine s_istore dL_step_1047 (by decide) ?_
      refine s_aloadn dL_step_1049 rfl rfl ?_
      refine s_iload dL_step_1050 rfl ?_
      refine s_bipush (v := 8) dL_step_1052 (by decide) ?_
      refine s_irem dL_step_1054 (by decide) ?_
      refine s_iload dL_step_1055 rfl ?_
      refine s_iconst (v := 3) dL_step_1057 (by decide) ?_
      refine s_irem dL_step_1058 (by decide) ?_
      refine s_ifle (tgt := 1066) dL_step_1059 (by decide) (fun c_1059 => ?_) (fun c => absurd hz c)
      refine s_iconst (v := 0) dL_step_1066 (by decide) ?_
      refine s_cv2G (n := 52) dL_step_1067 rfl (kv hC59.th (by decide) rfl) rfl (by decide) (by decide) (by decide) (by decide) (Nat.le_of_ble_eq_true rfl) (m_X3_assure hC59 (Or.inl rfl)) (fun r S60 hr60 => ?_) (fun x S2 hr => by have h := hr.1; rw [eF2] at h; cases h)
      have er := hr60.1
      have hC60 := hr60.2.1
      have fr60 := hr60.2.2
      rw [eF2] at er hC60
      dsimp only at er hC60
      cases er
      have hD60 := hD59.fr fr60
      have hW60 := hW59.fr fr60
      have hf60 := hf59.fr fr60
      refine s_ifne (tgt := 1105) dL_step_1070 (by decide) (fun c => absurd rfl c) (fun _ => ?_)
      refine s_aloadn dL_step_1073 rfl rfl ?_
      refine s_aloadn dL_step_1074 rfl rfl ?_
      refine s_aloadn dL_step_1075 rfl rfl ?_
      have LL : LW tm w.th da wa t S60 w c2 := LW.of hC60 hm rfl rfl rfl rfl hD60 rfl rfl rfl t7.symm t11.symm hW60 (by rw [j2, a2]) hI2
      refine s_cs3G (n := 26) dL_step_1076 rfl rfl (by decide) (by decide) (by decide) (by decide) (Nat.le_of_ble_eq_true rfl) (m_L_isReviewed LL) (fun r S61 hr => ?_) (fun x S2 hr => by have h := hr.1; cases h)
      obtain ⟨er, ⟨w61, c61, L61⟩, f61⟩ := hr
      cases er
      refine s_ifeq (tgt := 1105) dL_step_1079 (by decide) (fun c => absurd c (by decide)) (fun _ => ?_)
      refine s_iload dL_step_1082 rfl ?_
      refine s_ifne (tgt := 1101) dL_step_1084 (by decide) (fun _ => ?_) (fun c => absurd c (by decide))
      refine s_iconst (v := 1) dL_step_1101 (by decide) ?_
      refine s_goto (tgt := 1106) dL_step_1102 (by decide) ?_
      exact s_reti dL_step_1106 rfl (nr_bool (by decide)) ⟨rfl, ⟨w61, c61, L61.up ht⟩, hf60.tr f61⟩
  · obtain ⟨v, c2, hv, eF, hI2, t7, t11, j2, a2, eF2⟩ := p_assure (z := 1) hI (Or.inr rfl) k1
    rcases hv with rfl | rfl
    · skip
      refine s_aloadn dL_step_1026 rfl rfl ?_
      refine s_iload dL_step_1027 rfl ?_
      refine s_bipush (v := 8) dL_step_1029 (by decide) ?_
      refine s_irem dL_step_1031 (by decide) ?_
      refine s_iload dL_step_1032 rfl ?_
      refine s_iconst (v := 3) dL_step_1034 (by decide) ?_
      refine s_irem dL_step_1035 (by decide) ?_
      refine s_ifle (tgt := 1043) dL_step_1036 (by decide) (fun c => absurd c hz) (fun c_1036 => ?_)
      refine s_iconst (v := 1) dL_step_1039 (by decide) ?_
      refine s_goto (tgt := 1044) dL_step_1040 (by decide) ?_
      refine s_cv2G (n := 52) dL_step_1044 rfl (kv hC.th (by decide) rfl) rfl (by decide) (by decide) (by decide) (by decide) (Nat.le_of_ble_eq_true rfl) (m_X3_assure hC (Or.inr rfl)) (fun r S62 hr62 => ?_) (fun x S2 hr => by have h := hr.1; rw [eF] at h; cases h)
      have er := hr62.1
      have hC62 := hr62.2.1
      have fr62 := hr62.2.2
      rw [eF] at er hC62
      dsimp only at er hC62
      cases er
      have hD62 := hD.fr fr62
      have hW62 := hW.fr fr62
      have hf62 := hf.fr fr62
      refine s_istore dL_step_1047 (by decide) ?_
      refine s_aloadn dL_step_1049 rfl rfl ?_
      refine s_iload dL_step_1050 rfl ?_
      refine s_bipush (v := 8) dL_step_1052 (by decide) ?_
      refine s_irem dL_step_1054 (by decide) ?_
      refine s_iload dL_step_1055 rfl ?_
      refine s_iconst (v := 3) dL_step_1057 (by decide) ?_
      refine s_irem dL_step_1058 (by decide) ?_
      refine s_ifle (tgt := 1066) dL_step_1059 (by decide) (fun c => absurd c hz) (fun c_1059 => ?_)
      refine s_iconst (v := 1) dL_step_1062 (by decide) ?_
      refine s_goto (tgt := 1067) dL_step_1063 (by decide) ?_
      refine s_cv2G (n := 52) dL_step_1067 rfl (kv hC62.th (by decide) rfl) rfl (by decide) (by decide) (by decide) (by decide) (Nat.le_of_ble_eq_true rfl) (m_X3_assure hC62 (Or.inr rfl)) (fun r S63 hr63 => ?_) (fun x S2 hr => by have h := hr.1; rw [eF2] at h; cases h)
      have er := hr63.1
      have hC63 := hr63.2.1
      have fr63 := hr63.2.2
      rw [eF2] at er hC63
      dsimp only at er hC63
      cases er
      have hD63 := hD62.fr fr63
      have hW63 := hW62.fr fr63
      have hf63 := hf62.fr fr63
      refine s_ifne (tgt := 1105) dL_step_1070 (by decide) (fun c => absurd rfl c) (fun _ => ?_)
      refine s_aloadn dL_step_1073 rfl rfl ?_
      refine s_aloadn dL_step_1074 rfl rfl ?_
      refine s_aloadn dL_step_1075 rfl rfl ?_
      have LL : LW tm w.th da wa t S63 w c2 := LW.of hC63 hm rfl rfl rfl rfl hD63 rfl rfl rfl t7.symm t11.symm hW63 (by rw [j2, a2]) hI2
      refine s_cs3G (n := 26) dL_step_1076 rfl rfl (by decide) (by decide) (by decide) (by decide) (Nat.le_of_ble_eq_true rfl) (m_L_isReviewed LL) (fun r S64 hr => ?_) (fun x S2 hr => by have h := hr.1; cases h)
      obtain ⟨er, ⟨w64, c64, L64⟩, f64⟩ := hr
      cases er
      refine s_ifeq (tgt := 1105) dL_step_1079 (by decide) (fun c => absurd c (by decide)) (fun _ => ?_)
      refine s_iload dL_step_1082 rfl ?_
      refine s_ifne (tgt := 1101) dL_step_1084 (by decide) (fun c => absurd rfl c) (fun _ => ?_)
      refine s_aloadn dL_step_1087 rfl rfl ?_
      refine s_iload dL_step_1088 rfl ?_
      refine s_iconst (v := 5) dL_step_1090 (by decide) ?_
      refine s_irem dL_step_1091 (by decide) ?_
      have LK := L64
      obtain ⟨⟨hCk, hmk, gtk⟩, hDk, hWk, hIk⟩ := LK
      rw [← gtk]
      refine s_q1 (n := 53) dL_step_1092 rfl (kv hCk.th (by decide) rfl) rfl (by decide) (by decide) (by decide) (by decide) (Nat.le_of_ble_eq_true rfl) (r_X3_effort hCk) (a_eff k2) ?_
      refine s_sipush (v := 10000) dL_step_1095 (by decide) ?_
      refine s_icgt (tgt := 1105) dL_step_1098 (by decide) (fun c => absurd c (by have h := p_effort hIk (kd := a - a / 5 * 5); rw [re_ilt]; rw [re_ile] at h; omega)) (fun c_1098 => ?_)
      refine s_iconst (v := 1) dL_step_1101 (by decide) ?_
      refine s_goto (tgt := 1106) dL_step_1102 (by decide) ?_
      exact s_reti dL_step_1106 rfl (nr_bool (by decide)) ⟨rfl, ⟨w64, c64, by rw [gtk]; exact L64.up ht⟩, hf63.tr f64⟩
    · skip
      refine s_aloadn dL_step_1026 rfl rfl ?_
      refine s_iload dL_step_1027 rfl ?_
      refine s_bipush (v := 8) dL_step_1029 (by decide) ?_
      refine s_irem dL_step_1031 (by decide) ?_
      refine s_iload dL_step_1032 rfl ?_
      refine s_iconst (v := 3) dL_step_1034 (by decide) ?_
      refine s_irem dL_step_1035 (by decide) ?_
      refine s_ifle (tgt := 1043) dL_step_1036 (by decide) (fun c => absurd c hz) (fun c_1036 => ?_)
      refine s_iconst (v := 1) dL_step_1039 (by decide) ?_
      refine s_goto (tgt := 1044) dL_step_1040 (by decide) ?_
      refine s_cv2G (n := 52) dL_step_1044 rfl (kv hC.th (by decide) rfl) rfl (by decide) (by decide) (by decide) (by decide) (Nat.le_of_ble_eq_true rfl) (m_X3_assure hC (Or.inr rfl)) (fun r S65 hr65 => ?_) (fun x S2 hr => by have h := hr.1; rw [eF] at h; cases h)
      have er := hr65.1
      have hC65 := hr65.2.1
      have fr65 := hr65.2.2
      rw [eF] at er hC65
      dsimp only at er hC65
      cases er
      have hD65 := hD.fr fr65
      have hW65 := hW.fr fr65
      have hf65 := hf.fr fr65
      refine s_istore dL_step_1047 (by decide) ?_
      refine s_aloadn dL_step_1049 rfl rfl ?_
      refine s_iload dL_step_1050 rfl ?_
      refine s_bipush (v := 8) dL_step_1052 (by decide) ?_
      refine s_irem dL_step_1054 (by decide) ?_
      refine s_iload dL_step_1055 rfl ?_
      refine s_iconst (v := 3) dL_step_1057 (by decide) ?_
      refine s_irem dL_step_1058 (by decide) ?_
      refine s_ifle (tgt := 1066) dL_step_1059 (by decide) (fun c => absurd c hz) (fun c_1059 => ?_)
      refine s_iconst (v := 1) dL_step_1062 (by decide) ?_
      refine s_goto (tgt := 1067) dL_step_1063 (by decide) ?_
      refine s_cv2G (n := 52) dL_step_1067 rfl (kv hC65.th (by decide) rfl) rfl (by decide) (by decide) (by decide) (by decide) (Nat.le_of_ble_eq_true rfl) (m_X3_assure hC65 (Or.inr rfl)) (fun r S66 hr66 => ?_) (fun x S2 hr => by have h := hr.1; rw [eF2] at h; cases h)
      have er := hr66.1
      have hC66 := hr66.2.1
      have fr66 := hr66.2.2
      rw [eF2] at er hC66
      dsimp only at er hC66
      cases er
      have hD66 := hD65.fr fr66
      have hW66 := hW65.fr fr66
      have hf66 := hf65.fr fr66
      refine s_ifne (tgt := 1105) dL_step_1070 (by decide) (fun c => absurd rfl c) (fun _ => ?_)
      refine s_aloadn dL_step_1073 rfl rfl ?_
      refine s_aloadn dL_step_1074 rfl rfl ?_
      refine s_aloadn dL_step_1075 rfl rfl ?_
      have LL : LW tm w.th da wa t S66 w c2 := LW.of hC66 hm rfl rfl rfl rfl hD66 rfl rfl rfl t7.symm t11.symm hW66 (by rw [j2, a2]) hI2
      refine s_cs3G (n := 26) dL_step_1076 rfl rfl (by decide) (by decide) (by decide) (by decide) (Nat.le_of_ble_eq_true rfl) (m_L_isReviewed LL) (fun r S67 hr => ?_) (fun x S2 hr => by have h := hr.1; cases h)
      obtain ⟨er, ⟨w67, c67, L67⟩, f67⟩ := hr
      cases er
      refine s_ifeq (tgt := 1105) dL_step_1079 (by decide) (fun c => absurd c (by decide)) (fun _ => ?_)
      refine s_iload dL_step_1082 rfl ?_
      refine s_ifne (tgt := 1101) dL_step_1084 (by decide) (fun _ => ?_) (fun c => absurd c (by decide))
      refine s_iconst (v := 1) dL_step_1101 (by decide) ?_
      refine s_goto (tgt := 1106) dL_step_1102 (by decide) ?_
      exact s_reti dL_step_1106 rfl (nr_bool (by decide)) ⟨rfl, ⟨w67, c67, L67.up ht⟩, hf66.tr f67⟩
