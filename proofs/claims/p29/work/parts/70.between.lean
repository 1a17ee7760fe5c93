/-! THE LAW, 12: what holds between its steps -/
def DR (S : Sto) (da : Nat) (a0 a1 a2 a3 a4 : Int32) : Prop := sK S da = 6 ∧ sN S da = 5 ∧ sI S da 0 = a0 ∧ sI S da 1 = a1 ∧ sI S da 2 = a2 ∧ sI S da 3 = a3 ∧ sI S da 4 = a4
def WR (S : Sto) (wa : Nat) (v : Int64) : Prop := sK S wa = 11 ∧ sN S wa = 1 ∧ sJ S wa 0 = v
/-- the script stands -/
def F12 (S S1 : Sto) : Prop := ∀ b, sK S b = 12 → same5 S S1 b
theorem F12.rf {S : Sto} : F12 S S := fun _ _ => same5.rf
theorem F12.tr {S S1 S2 : Sto} (h : F12 S S1) (g : F12 S1 S2) : F12 S S2 := fun b hb => (h b hb).tr (g b (by rw [(h b hb).1]; exact hb))
theorem F12.fr {S S1 S2 : Sto} (h : F12 S S1) (f : FrC S1 S2) : F12 S S2 := h.tr fun b hb => f b (by rw [hb]; decide)
theorem F12.I {S S1 : Sto} {a k : Nat} {v : Int32} (h : F12 S S1) (ha : sK S1 a = 6) : F12 S (uI S1 a k v) := h.tr fun b hb => same5.rf.I (fun e => by rw [e, ha] at hb; exact absurd hb (by decide))
theorem F12.J {S S1 : Sto} {a k : Nat} {v : Int64} (h : F12 S S1) (ha : sK S1 a = 11) : F12 S (uJ S1 a k v) := h.tr fun b hb => same5.rf.J (fun e => by rw [e, ha] at hb; exact absurd hb (by decide))
section Rows2
variable {S S1 : Sto} {da wa : Nat} {a0 a1 a2 a3 a4 : Int32} {v x : Int64}
theorem DR.fr (h : DR S da a0 a1 a2 a3 a4) (f : FrC S S1) : DR S1 da a0 a1 a2 a3 a4 := by
  obtain ⟨h1, h2, h3, h4, h5, h6, h7⟩ := h
  obtain ⟨e1, e2, e3, e4, e5⟩ := f da (by rw [h1]; decide)
  exact ⟨e1.trans h1, e2.trans h2, by rw [e3]; exact h3, by rw [e3]; exact h4, by rw [e3]; exact h5, by rw [e3]; exact h6, by rw [e3]; exact h7⟩
theorem WR.fr (h : WR S wa v) (f : FrC S S1) : WR S1 wa v := by
  obtain ⟨h1, h2, h3⟩ := h
  obtain ⟨e1, e2, e3, e4, e5⟩ := f wa (by rw [h1]; decide)
  exact ⟨e1.trans h1, e2.trans h2, by rw [e4]; exact h3⟩
theorem DR.J (h : DR S da a0 a1 a2 a3 a4) : DR (uJ S wa 0 x) da a0 a1 a2 a3 a4 := h
theorem WR.I {k : Nat} {y : Int32} (h : WR S wa v) : WR (uI S da k y) wa v := h
theorem DR.p0 {y : Int32} (h : DR S da a0 a1 a2 a3 a4) : DR (uI S da 0 y) da y a1 a2 a3 a4 := ⟨h.1, h.2.1, up2_self, (up2_k (by decide)).trans h.2.2.2.1, (up2_k (by decide)).trans h.2.2.2.2.1, (up2_k (by decide)).trans h.2.2.2.2.2.1, (up2_k (by decide)).trans h.2.2.2.2.2.2⟩
theorem DR.p1 {y : Int32} (h : DR S da a0 a1 a2 a3 a4) : DR (uI S da 1 y) da a0 y a2 a3 a4 := ⟨h.1, h.2.1, (up2_k (by decide)).trans h.2.2.1, up2_self, (up2_k (by decide)).trans h.2.2.2.2.1, (up2_k (by decide)).trans h.2.2.2.2.2.1, (up2_k (by decide)).trans h.2.2.2.2.2.2⟩
theorem DR.p2 {y : Int32} (h : DR S da a0 a1 a2 a3 a4) : DR (uI S da 2 y) da a0 a1 y a3 a4 := ⟨h.1, h.2.1, (up2_k (by decide)).trans h.2.2.1, (up2_k (by decide)).trans h.2.2.2.1, up2_self, (up2_k (by decide)).trans h.2.2.2.2.2.1, (up2_k (by decide)).trans h.2.2.2.2.2.2⟩
theorem DR.p3 {y : Int32} (h : DR S da a0 a1 a2 a3 a4) : DR (uI S da 3 y) da a0 a1 a2 y a4 := ⟨h.1, h.2.1, (up2_k (by decide)).trans h.2.2.1, (up2_k (by decide)).trans h.2.2.2.1, (up2_k (by decide)).trans h.2.2.2.2.1, up2_self, (up2_k (by decide)).trans h.2.2.2.2.2.2⟩
theorem DR.p4 {y : Int32} (h : DR S da a0 a1 a2 a3 a4) : DR (uI S da 4 y) da a0 a1 a2 a3 y := ⟨h.1, h.2.1, (up2_k (by decide)).trans h.2.2.1, (up2_k (by decide)).trans h.2.2.2.1, (up2_k (by decide)).trans h.2.2.2.2.1, (up2_k (by decide)).trans h.2.2.2.2.2.1, up2_self⟩
theorem WR.p (h : WR S wa v) : WR (uJ S wa 0 x) wa x := ⟨h.1, h.2.1, up2_self⟩
theorem CW.I6 {tm : Nat × Nat} {w : CAd} {c : CC} {k : Nat} {y : Int32} (h : CW tm S w c) (hk : sK S da = 6) : CW tm (uI S da k y) w c := h.fr fun b hb => same5.rf.I (fun e => by rw [e, hk] at hb; unfold ck at hb; omega)
theorem CW.J11 {tm : Nat × Nat} {w : CAd} {c : CC} {k : Nat} {y : Int64} (h : CW tm S w c) (hk : sK S wa = 11) : CW tm (uJ S wa k y) w c := h.fr fun b hb => same5.rf.J (fun e => by rw [e, hk] at hb; unfold ck at hb; omega)
end Rows2
def LW (tm : Nat × Nat) (th da wa t : Nat) (S : Sto) (w : CAd) (c : CC) : Prop := (CW tm S w c ∧ w.m = w.n ∧ w.th = th) ∧ DR S da (nI w.n) (nI w.no) (nI w.nt) (c.ti 7) (c.ti 11) ∧ WR S wa (c.tj 4 + sA c w.n) ∧ IV w.n w.no w.nt t c
/-- true, and it holds again -/
def GL (tm : Nat × Nat) (th da wa t : Nat) (S : Sto) : Out → Sto → Prop := fun o S1 => o = .inl (some (.int 1)) ∧ (∃ w1 c1, LW tm th da wa t S1 w1 c1) ∧ F12 S S1
theorem LW.of {tm : Nat × Nat} {th da wa t : Nat} {S : Sto} {w : CAd} {c : CC} {n no nt : Nat} {a0 a1 a2 a3 a4 : Int32} {v : Int64} (hC : CW tm S w c) (hm : w.m = w.n) (hth : w.th = th) (en : w.n = n) (eo : w.no = no) (eg : w.nt = nt)
    (hD : DR S da a0 a1 a2 a3 a4) (e0 : a0 = nI n) (e1 : a1 = nI no) (e2 : a2 = nI nt) (e3 : a3 = c.ti 7) (e4 : a4 = c.ti 11) (hW : WR S wa v) (ev : v = c.tj 4 + sA c n) (hI : IV n no nt t c) : LW tm th da wa t S w c := by
  subst e0 e1 e2 e3 e4 ev en eo eg
  exact ⟨⟨hC, hm, hth⟩, hD, hW, hI⟩
/-- what a class's call leaves, whichever it is -/
def GP (tm : Nat × Nat) (th N NO NT : Nat) (c' : CC) (S S2 : Sto) : Prop := ∃ w' : CAd, w'.th = th ∧ w'.n = N ∧ w'.no = NO ∧ w'.nt = NT ∧ w'.m = w'.n ∧ CW tm S2 w' c' ∧ FrC S S2
theorem PO.gp {tm : Nat × Nat} {w : CAd} {S S2 : Sto} {F : Out × CC} {o : Out} (h : PO tm w S F o S2) (hm : w.m = w.n) : GP tm w.th w.n w.no w.nt F.2 S S2 := ⟨w, rfl, rfl, rfl, rfl, hm, h.2.1, h.2.2⟩
theorem PA.gp {tm : Nat × Nat} {a no nt : Nat} {oa : Nat → Nat} {S S2 : Sto} {F : Out × Nat × CC} {o : Out} (h : PA tm a oa no nt S F o S2) : GP tm a F.2.1 no nt F.2.2 S S2 := by
  obtain ⟨_, w', ⟨h1, _, h2, h3⟩, h4, h5, h6, h7⟩ := h
  exact ⟨w', h1, h4, h2, h3, h5, h6, h7⟩
theorem PB.gp {tm : Nat × Nat} {a n0 nt : Nat} {ca : Nat → Nat} {S S2 : Sto} {F : Out × Nat × CC} {o : Out} (h : PB tm a n0 ca nt S F o S2) : GP tm a n0 F.2.1 nt F.2.2 S S2 := by
  obtain ⟨_, w', h1, ⟨h2, _, h3⟩, h4, h5, h6, h7⟩ := h
  exact ⟨w', h1, h2, h4, h3, h5, h6, h7⟩
theorem PG.gp {tm : Nat × Nat} {a n0 no : Nat} {ca : Nat → Nat} {S S2 : Sto} {F : Out × Nat × CC} {o : Out} (h : PG tm a n0 ca no S F o S2) : GP tm a n0 no F.2.1 F.2.2 S S2 := by
  obtain ⟨_, w', h1, ⟨h2, _, h3⟩, h4, h5, h6, h7⟩ := h
  exact ⟨w', h1, h2, h3, h4, h5, h6, h7⟩
theorem nI_ne {n : Nat} (hn : n < 1000) {v : Int32} (hv : v.toInt < 0) : ¬ nI n = v := by
  intro e
  have := re_nI (show n < 2147483648 by omega)
  rw [e] at this
  omega
theorem nI_m {n : Nat} : nI n = nI n + 1 - 1 := by grind
theorem down_eq {x : Int64} : f_L_down x 1000 = f_X3_quotient x 1000 := (re_down (show (0 : Int) < (1000 : Int64).toInt by decide) : f_X4_down x 1000 = _)
theorem inr_lt2 {n : Nat} (hn : n < 1000) {k : Nat} (hk : k < n) : inr (nI k) n := inr_of (by omega) (by rw [re_nI (by omega)]; omega) (by rw [re_nI (by omega)]; omega)
theorem st_pos {n no nt t : Nat} {c : CC} (b : BD n no nt t c) {i : Nat} (hi : i < n) (h : ¬ c.ci i 8 = 0) : ¬ (c.ci i 8).toInt64 ≤ 0 := by
  rcases (b.at hi).2.2.2.2.2.2.2.1 with e | e | e
  · exact absurd e h
  · rw [e]; decide
  · rw [e]; decide
theorem st_zero {c : CC} {i q : Nat} : (c.ci i q).toInt64 = 0 ↔ c.ci i q = 0 := by
  rw [re_eq, re_w, re_ieq]; exact Iff.rfl
theorem year_up {c : CC} (h : ix (c.ti 3) ≤ 59) (h0 : 0 ≤ (c.ti 3).toInt) : (c.ti 3 + 1).toInt64 = (c.ti 3).toInt64 + 1 := by
  rw [re_ix] at h
  rw [re_eq, re_w, re_iadd (by rw [one32]; omega) (by rw [one32]; omega), re_add (by rw [re_w, show (1 : Int64).toInt = 1 from rfl]; omega) (by rw [re_w, show (1 : Int64).toInt = 1 from rfl]; omega), re_w]
  rfl
