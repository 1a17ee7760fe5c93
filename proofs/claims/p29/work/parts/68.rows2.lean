/-! THE LAW, 10: its words, its rows, its numbers -/
set_option maxRecDepth 20000 in
theorem cstL_7 : Cond.constant RL 7 2147483647 ∈ UW := uw (i := 281) rfl rfl
set_option maxRecDepth 20000 in
theorem cstL_8 : Cond.constant RL 8 104729 ∈ UW := uw (i := 282) rfl rfl
set_option maxRecDepth 20000 in
theorem cstL_9 : Cond.constant RL 9 65521 ∈ UW := uw (i := 283) rfl rfl
set_option maxRecDepth 20000 in
theorem cstL_63 : Cond.constant RL 63 1000000 ∈ UW := uw (i := 287) rfl rfl
set_option maxRecDepth 20000 in
theorem cstL_84 : Cond.constant RL 84 3000001 ∈ UW := uw (i := 495) rfl rfl
set_option maxRecDepth 20000 in
theorem cslL_24 : Cond.constantLong RL 24 (-2) ∈ UW := uw (i := 486) rfl rfl
set_option maxRecDepth 20000 in
theorem cslL_71 : Cond.constantLong RL 71 (-1) ∈ UW := uw (i := 477) rfl rfl
set_option maxRecDepth 20000 in
theorem cslL_140 : Cond.constantLong RL 140 1000 ∈ UW := uw (i := 681) rfl rfl
set_option maxRecDepth 20000 in
theorem cslL_150 : Cond.constantLong RL 150 60 ∈ UW := uw (i := 733) rfl rfl
set_option maxRecDepth 20000 in
theorem cslL_158 : Cond.constantLong RL 158 2 ∈ UW := uw (i := 746) rfl rfl
set_option maxRecDepth 20000 in
theorem cslL_163 : Cond.constantLong RL 163 5 ∈ UW := uw (i := 796) rfl rfl
set_option maxRecDepth 20000 in
theorem cslL_173 : Cond.constantLong RL 173 1000000 ∈ UW := uw (i := 812) rfl rfl
set_option maxRecDepth 20000 in
theorem clkL_2 : Cond.classLink RL 18 (exN 2) ∈ UW := uw (i := 291) rfl rfl
set_option maxRecDepth 20000 in
theorem csaL_2 : Cond.castable (exN 2) (exN 2) ∈ UW := uw (i := 303) rfl rfl
section LawRows
variable {E : Ek} {tm : Nat × Nat} {M : MT} {Q : Out → Sto → Prop} {pc : Nat} {lo : Lv} {st : List Value} {bc bs : Nat} {S : Sto}
theorem s_cw1G {n idx : Nat} {M' : MT} {x1 : Value} (hd : decode (mB M) pc = .ok (.invokestatic idx, 3)) (hn : lkW[n]? = some ((mY M).cls, idx, M')) (hl : 1 = mP M') (hr1 : mFr M' + 1 ≤ mFr M) (hr2 : 19 + mL M' + mLo M' ≤ mLo M) (hb1 : mC M' ≤ bc) (hb2 : mS M' ≤ bs) (hc : (st.map fun v => v.category).sum ≤ 8) {Rq : Out → Sto → Prop} (hE : E M' [x1] S Rq) (kk : ∀ r S1, Rq (.inl r) S1 → Wp E tm M Q (pc + 3) lo (r.toList ++ st) (bc - mC M') (bs - mS M') S1) (kx : ∀ x S1, ¬ Rq (.inr x) S1) : Wp E tm M Q pc lo (x1 :: st) bc bs S := s_cw (as := [x1]) hd hn hl hr1 hr2 hb1 hb2 hc hE kk kx
theorem s_cw8G {n idx : Nat} {M' : MT} {x1 x2 x3 x4 x5 x6 x7 x8 : Value} (hd : decode (mB M) pc = .ok (.invokestatic idx, 3)) (hn : lkW[n]? = some ((mY M).cls, idx, M')) (hl : 8 = mP M') (hr1 : mFr M' + 1 ≤ mFr M) (hr2 : 19 + mL M' + mLo M' ≤ mLo M) (hb1 : mC M' ≤ bc) (hb2 : mS M' ≤ bs) (hc : (st.map fun v => v.category).sum ≤ 8) {Rq : Out → Sto → Prop} (hE : E M' [x1, x2, x3, x4, x5, x6, x7, x8] S Rq) (kk : ∀ r S1, Rq (.inl r) S1 → Wp E tm M Q (pc + 3) lo (r.toList ++ st) (bc - mC M') (bs - mS M') S1) (kx : ∀ x S1, ¬ Rq (.inr x) S1) : Wp E tm M Q pc lo (x8 :: x7 :: x6 :: x5 :: x4 :: x3 :: x2 :: x1 :: st) bc bs S := s_cw (as := [x1, x2, x3, x4, x5, x6, x7, x8]) hd hn hl hr1 hr2 hb1 hb2 hc hE kk kx
theorem s_cs5G {n idx : Nat} {M' : MT} {x1 x2 x3 x4 x5 : Value} (hd : decode (mB M) pc = .ok (.invokestatic idx, 3)) (hn : lkS[n]? = some ((mY M).cls, idx, M')) (hl : 5 = mP M') (hr1 : mFr M' + 1 ≤ mFr M) (hr2 : 19 + mL M' + mLo M' ≤ mLo M) (hb1 : mC M' ≤ bc) (hb2 : mS M' ≤ bs) (hc : (st.map fun v => v.category).sum ≤ 8) {Rq : Out → Sto → Prop} (hE : E M' [x1, x2, x3, x4, x5] S Rq) (kk : ∀ r S1, Rq (.inl r) S1 → Wp E tm M Q (pc + 3) lo (r.toList ++ st) (bc - mC M') (bs - mS M') S1) (kx : ∀ x S1, Rq (.inr x) S1 → mH M = [] ∧ Q (.inr x) S1) : Wp E tm M Q pc lo (x5 :: x4 :: x3 :: x2 :: x1 :: st) bc bs S := s_cs (as := [x1, x2, x3, x4, x5]) hd hn hl hr1 hr2 hb1 hb2 hc hE kk kx
theorem s_cs6G {n idx : Nat} {M' : MT} {x1 x2 x3 x4 x5 x6 : Value} (hd : decode (mB M) pc = .ok (.invokestatic idx, 3)) (hn : lkS[n]? = some ((mY M).cls, idx, M')) (hl : 6 = mP M') (hr1 : mFr M' + 1 ≤ mFr M) (hr2 : 19 + mL M' + mLo M' ≤ mLo M) (hb1 : mC M' ≤ bc) (hb2 : mS M' ≤ bs) (hc : (st.map fun v => v.category).sum ≤ 8) {Rq : Out → Sto → Prop} (hE : E M' [x1, x2, x3, x4, x5, x6] S Rq) (kk : ∀ r S1, Rq (.inl r) S1 → Wp E tm M Q (pc + 3) lo (r.toList ++ st) (bc - mC M') (bs - mS M') S1) (kx : ∀ x S1, Rq (.inr x) S1 → mH M = [] ∧ Q (.inr x) S1) : Wp E tm M Q pc lo (x6 :: x5 :: x4 :: x3 :: x2 :: x1 :: st) bc bs S := s_cs (as := [x1, x2, x3, x4, x5, x6]) hd hn hl hr1 hr2 hb1 hb2 hc hE kk kx
theorem s_q1 {n idx b : Nat} {M' : MT} {x1 : Value} {c : CC} {F : Out × CC} {v : Value} (hd : decode (mB M) pc = .ok (.invokevirtual idx, 3)) (hn : lkV[n]? = some ((mY M).cls, idx, M')) (hk : sK S b < 6 ∧ (vwCl[sK S b]?).map (fun r => r.1) = some (mY M').cls) (hl : 1 = mP M') (hr1 : mFr M' + 1 ≤ mFr M) (hr2 : 19 + mL M' + mLo M' ≤ mLo M) (hb1 : mC M' ≤ bc) (hb2 : mS M' ≤ bs) (hc : (st.map fun v => v.category).sum ≤ 8) (hE : E M' (.ref b :: [x1]) S (PS S c F)) (hF : F.1 = .inl (some v)) (kk : Wp E tm M Q (pc + 3) lo (v :: st) (bc - mC M') (bs - mS M') S) : Wp E tm M Q pc lo (x1 :: .ref b :: st) bc bs S := s_cv1G hd hn hk hl hr1 hr2 hb1 hb2 hc hE (fun r S1 hr => by
  obtain ⟨h1, _, h3⟩ := hr
  rw [hF] at h1
  cases h1
  subst h3
  exact kk) (fun x S1 hr => by
  have h := hr.1
  rw [hF] at h
  cases h)
theorem s_q2 {n idx b : Nat} {M' : MT} {x1 x2 : Value} {c : CC} {F : Out × CC} {v : Value} (hd : decode (mB M) pc = .ok (.invokevirtual idx, 3)) (hn : lkV[n]? = some ((mY M).cls, idx, M')) (hk : sK S b < 6 ∧ (vwCl[sK S b]?).map (fun r => r.1) = some (mY M').cls) (hl : 2 = mP M') (hr1 : mFr M' + 1 ≤ mFr M) (hr2 : 19 + mL M' + mLo M' ≤ mLo M) (hb1 : mC M' ≤ bc) (hb2 : mS M' ≤ bs) (hc : (st.map fun v => v.category).sum ≤ 8) (hE : E M' (.ref b :: [x1, x2]) S (PS S c F)) (hF : F.1 = .inl (some v)) (kk : Wp E tm M Q (pc + 3) lo (v :: st) (bc - mC M') (bs - mS M') S) : Wp E tm M Q pc lo (x2 :: x1 :: .ref b :: st) bc bs S := s_cv2G hd hn hk hl hr1 hr2 hb1 hb2 hc hE (fun r S1 hr => by
  obtain ⟨h1, _, h3⟩ := hr
  rw [hF] at h1
  cases h1
  subst h3
  exact kk) (fun x S1 hr => by
  have h := hr.1
  rw [hF] at h
  cases h)
theorem s_q3 {n idx b : Nat} {M' : MT} {x1 x2 x3 : Value} {c : CC} {F : Out × CC} {v : Value} (hd : decode (mB M) pc = .ok (.invokevirtual idx, 3)) (hn : lkV[n]? = some ((mY M).cls, idx, M')) (hk : sK S b < 6 ∧ (vwCl[sK S b]?).map (fun r => r.1) = some (mY M').cls) (hl : 3 = mP M') (hr1 : mFr M' + 1 ≤ mFr M) (hr2 : 19 + mL M' + mLo M' ≤ mLo M) (hb1 : mC M' ≤ bc) (hb2 : mS M' ≤ bs) (hc : (st.map fun v => v.category).sum ≤ 8) (hE : E M' (.ref b :: [x1, x2, x3]) S (PS S c F)) (hF : F.1 = .inl (some v)) (kk : Wp E tm M Q (pc + 3) lo (v :: st) (bc - mC M') (bs - mS M') S) : Wp E tm M Q pc lo (x3 :: x2 :: x1 :: .ref b :: st) bc bs S := s_cv3G hd hn hk hl hr1 hr2 hb1 hb2 hc hE (fun r S1 hr => by
  obtain ⟨h1, _, h3⟩ := hr
  rw [hF] at h1
  cases h1
  subst h3
  exact kk) (fun x S1 hr => by
  have h := hr.1
  rw [hF] at h
  cases h)
theorem s_ialdv {a j : Nat} {i v : Int32} (hd : decode (mB M) pc = .ok (.iaload, 1)) (hk : sK S a = 6) (hv : sI S a j = v) (e : i = nI j) (h : j < sN S a) (hn : sN S a < 2 ^ 31) (kk : Wp E tm M Q (pc + 1) lo (.int v :: st) bc bs S) : Wp E tm M Q pc lo (.int i :: .ref a :: st) bc bs S := s_iald' hd hk e h hn (by rw [hv]; exact kk)
theorem s_laldv {a j : Nat} {i : Int32} {v : Int64} (hd : decode (mB M) pc = .ok (.laload, 1)) (hk : sK S a = 11) (hv : sJ S a j = v) (e : i = nI j) (h : j < sN S a) (hn : sN S a < 2 ^ 31) (kk : Wp E tm M Q (pc + 1) lo (.long v :: st) bc bs S) : Wp E tm M Q pc lo (.int i :: .ref a :: st) bc bs S := s_lald' hd (Or.inr (Or.inr hk)) e h hn (by rw [hv]; exact kk)
end LawRows
theorem re_idiv {a b : Int32} (ha : 0 ≤ a.toInt) (hb : 0 < b.toInt) : (a / b).toInt = a.toInt / b.toInt := by
  have h1 : a.toInt < 2147483648 := Int32.toInt_lt a
  rw [Int32.toInt_div, Int.tdiv_eq_ediv_of_nonneg ha]
  have h2 : 0 ≤ a.toInt / b.toInt := Int.ediv_nonneg ha (by omega)
  have h3 : a.toInt / b.toInt ≤ a.toInt := Int.ediv_le_self _ ha
  exact Int.bmod_eq_of_le (by omega) (by omega)
theorem re_irem {a b : Int32} (ha : 0 ≤ a.toInt) (hb : 0 < b.toInt) : (a - a / b * b).toInt = a.toInt % b.toInt := by
  have h1 : a.toInt < 2147483648 := Int32.toInt_lt a
  have e := re_idiv ha hb
  have h2 : 0 ≤ a.toInt / b.toInt := Int.ediv_nonneg ha (by omega)
  have h4 : a.toInt / b.toInt * b.toInt ≤ a.toInt := Int.ediv_mul_le _ (by omega)
  have h5 : 0 ≤ a.toInt / b.toInt * b.toInt := Int.mul_nonneg h2 (by omega)
  have em : (a / b * b).toInt = a.toInt / b.toInt * b.toInt := by
    rw [Int32.toInt_mul, e]; exact Int.bmod_eq_of_le (by omega) (by omega)
  have h6 := Int.mul_ediv_add_emod a.toInt b.toInt
  rw [re_isub (by rw [em]; omega) (by rw [em]; omega), em]
  rw [Int.mul_comm] at h6
  omega
/-- a remainder by a number that is written -/
theorem rem_rng {a b : Int32} (ha : 0 ≤ a.toInt) {B : Int} (e : b.toInt = B) (hb : 0 < B) : 0 ≤ (a - a / b * b).toInt ∧ (a - a / b * b).toInt < B := by
  rw [re_irem ha (by omega), e]
  exact ⟨Int.emod_nonneg _ (by omega), Int.emod_lt_of_pos _ hb⟩
theorem div_nn {a b : Int32} (ha : 0 ≤ a.toInt) {B : Int} (e : b.toInt = B) (hb : 0 < B) : 0 ≤ (a / b).toInt := by
  rw [re_idiv ha (by omega)]
  exact Int.ediv_nonneg ha (by omega)
theorem one_add {a : Int32} {L : Int} (h0 : 0 ≤ a.toInt) (h1 : a.toInt < L) (hL : L ≤ 2147483647) : (1 + a).toInt = 1 + a.toInt := by
  rw [re_iadd (by rw [one32]; omega) (by rw [one32]; omega), one32]
theorem rng_of {x l m : Int32} (h1 : l.toInt ≤ x.toInt) (h2 : x.toInt ≤ m.toInt) : rng x l m := ⟨re_ile.mpr h1, re_ile.mpr h2⟩
theorem inr_of {x : Int32} {n : Nat} (hn : n < 2147483648) (h1 : 0 ≤ x.toInt) (h2 : x.toInt < n) : inr x n := ⟨re_ile.mpr h1, re_ilt.mpr (by rw [re_nI hn]; exact h2)⟩
theorem a_oc0 {n : Nat} {c : CC} {k : Int32} (h : inr k n) : (f_X3_ofClaim n c k 0).1 = .inl (some (.long ((c.ci (ix k) 8).toInt64))) := by
  unfold f_X3_ofClaim
  rw [if_pos h, if_pos rfl]
theorem a_oc1 {n : Nat} {c : CC} {k : Int32} (h : inr k n) : (f_X3_ofClaim n c k 1).1 = .inl (some (.long (c.cj (ix k) 5))) := by
  unfold f_X3_ofClaim
  rw [if_pos h, if_neg (by decide), if_pos rfl]
theorem a_oc2 {n : Nat} {c : CC} {k : Int32} (h : inr k n) : (f_X3_ofClaim n c k 2).1 = .inl (some (.long (c.cj (ix k) 9))) := by
  unfold f_X3_ofClaim
  rw [if_pos h, if_neg (by decide), if_neg (by decide), if_pos rfl]
theorem a_oc3 {n : Nat} {c : CC} {k : Int32} (h : inr k n) : (f_X3_ofClaim n c k 3).1 = .inl (some (.long ((c.ci (ix k) 7).toInt64))) := by
  unfold f_X3_ofClaim
  rw [if_pos h, if_neg (by decide), if_neg (by decide), if_neg (by decide), if_pos rfl]
theorem a_oc4 {n : Nat} {c : CC} {k : Int32} (h : inr k n) : (f_X3_ofClaim n c k 4).1 = .inl (some (.long (c.cj (ix k) 15))) := by
  unfold f_X3_ofClaim
  rw [if_pos h, if_neg (by decide), if_neg (by decide), if_neg (by decide), if_neg (by decide), if_pos rfl]
theorem a_oc5 {n : Nat} {c : CC} {k : Int32} (h : inr k n) : (f_X3_ofClaim n c k 5).1 = .inl (some (.long (c.cj (ix k) 10))) := by
  unfold f_X3_ofClaim
  rw [if_pos h, if_neg (by decide), if_neg (by decide), if_neg (by decide), if_neg (by decide), if_neg (by decide), if_pos rfl]
theorem a_oc6 {n : Nat} {c : CC} {k : Int32} (h : inr k n) : (f_X3_ofClaim n c k 6).1 = .inl (some (.long ((c.ci (ix k) 11).toInt64))) := by
  unfold f_X3_ofClaim
  rw [if_pos h, if_neg (by decide), if_neg (by decide), if_neg (by decide), if_neg (by decide), if_neg (by decide), if_neg (by decide), if_pos rfl]
theorem a_oc7 {n : Nat} {c : CC} {k : Int32} (h : inr k n) : (f_X3_ofClaim n c k 7).1 = .inl (some (.long ((c.ci (ix k) 12).toInt64))) := by
  unfold f_X3_ofClaim
  rw [if_pos h, if_neg (by decide), if_neg (by decide), if_neg (by decide), if_neg (by decide), if_neg (by decide), if_neg (by decide), if_neg (by decide), if_pos rfl]
theorem a_os0 {n : Nat} {c : CC} : (f_X3_ofState n c 0).1 = .inl (some (.long ((c.ti 3).toInt64))) := by
  unfold f_X3_ofState
  rw [if_pos rfl]
theorem a_os1 {n : Nat} {c : CC} : (f_X3_ofState n c 1).1 = .inl (some (.long (c.tj 4))) := by
  unfold f_X3_ofState
  rw [if_neg (by decide), if_pos rfl]
theorem a_os2 {n : Nat} {c : CC} : (f_X3_ofState n c 2).1 = .inl (some (.long (c.tj 5))) := by
  unfold f_X3_ofState
  rw [if_neg (by decide), if_neg (by decide), if_pos rfl]
theorem a_os3 {n : Nat} {c : CC} : (f_X3_ofState n c 3).1 = .inl (some (.long (f_X3_debt n c))) := by
  unfold f_X3_ofState
  rw [if_neg (by decide), if_neg (by decide), if_neg (by decide), if_pos rfl]
theorem a_os4 {n : Nat} {c : CC} : (f_X3_ofState n c 4).1 = .inl (some (.long ((c.ti 13).toInt64))) := by
  unfold f_X3_ofState
  rw [if_neg (by decide), if_neg (by decide), if_neg (by decide), if_neg (by decide), if_pos rfl]
theorem a_val {n : Nat} {c : CC} {k r : Int32} (h : inr k n) (hr : rng r 0 1500) : (f_X3_value n c k r).1 = .inl (some (.long (f_X0_worth c (ix k) (c.ti 3) r))) := by
  unfold f_X3_value
  rw [if_pos h, if_pos hr]
theorem a_paid {n : Nat} {c : CC} {k : Int32} (h : inr k n) : (f_X3_paidAnew n c k).1 = .inl (some (.long (f_X0_paymentsAdded c (ix k)))) := by
  unfold f_X3_paidAnew
  rw [if_pos h]
theorem a_off {n no : Nat} {c : CC} {k o r : Int32} (h : inr k n) (ho : inr o no) (hr : rng r 0 1500) : (f_X3_offered n no c k o r).1 = .inl (some (.long (if c.ci (ix k) 8 = 0 then f_X3_discounted (i_X1_principalFor c (ix o) (ix k)) (c.oi (ix o) 1) (c.oi (ix o) 2) r else 0))) := by
  unfold f_X3_offered
  rw [if_pos h, if_pos ho, if_pos hr]
  by_cases h8 : c.ci (ix k) 8 = 0
  · rw [if_pos h8, if_neg (fun e => (re_open.mp e) h8)]
  · rw [if_neg h8, if_pos (re_open.mpr h8)]
theorem a_pas {n no : Nat} {c : CC} {o : Int32} (ho : inr o no) : (f_X3_passes n no c o (-1)).1 = .inl (some (.int (f_X3_arePooled n c (ix o)))) := by
  unfold f_X3_passes
  rw [if_pos ho, if_pos rfl, if_pos rfl]
theorem a_bear {n : Nat} {c : CC} {y : Int32} (hy : rng y 1 30) : (f_X3_isBearable n c y).1 = .inl (some (.int (e_X3_isBearable n c (ix y) (f_X3_debt n c) (c.tj 5)))) := by
  unfold f_X3_isBearable
  rw [if_pos hy]
theorem a_eff {n : Nat} {c : CC} {k : Int32} (hk : inr k 5) : (f_X3_effort n c k).1 = .inl (some (.int (f_X3_effortOf n c k))) := by
  unfold f_X3_effort
  rw [if_pos hk]
