/-! THE PROGRAM, 4: what is asked of a claim, by its number -/
def i_X0_isOpen (c : CC) (i : Nat) : Int32 := if (c.ci i 8) = 0 then 1 else 0
def j_X0_isOpen (x : Nat → Int32) (y : Nat → Int64) (x2 : Nat → Int32) (y2 : Nat → Int64) : Int32 := if (x 8) = 0 then 1 else 0
theorem bi_X0_isOpen {c : CC} {i : Nat} : i_X0_isOpen c i = 0 ∨ i_X0_isOpen c i = 1 := by
  unfold i_X0_isOpen
  repeat' split
  all_goals first | exact Or.inl rfl | exact Or.inr rfl | exact b_X3_hasBit
theorem je_X0_isOpen {S : Sto} {a o : Nat} : ∀ x y x2 y2, sI S a = x → sJ S a = y → sI S o = x2 → sJ S o = y2 → f_X0_isOpen S a = j_X0_isOpen x y x2 y2 := by
  rintro _ _ _ _ rfl rfl rfl rfl
  rfl
theorem mi_X0_isOpen {tm : Nat × Nat} {S : Sto} {w : CAd} {c : CC} {i : Nat} (hW : CW tm S w c) (hi : i < w.m) : Ev tm M_X0_isOpen [.ref (w.ca i)] S (Rt (some (.int (i_X0_isOpen c i))) S) := by
  have e : f_X0_isOpen S (w.ca i) = i_X0_isOpen c i := je_X0_isOpen _ _ _ _ (hW.ci i hi) (hW.cj i hi) (o := 0) rfl rfl
  rw [← e]
  exact m_X0_isOpen (hW.cK _ hi)
def i_X0_isOfState (c : CC) (i : Nat) : Int32 := if (c.ci i 1) = 0 then 1 else 0
def j_X0_isOfState (x : Nat → Int32) (y : Nat → Int64) (x2 : Nat → Int32) (y2 : Nat → Int64) : Int32 := if (x 1) = 0 then 1 else 0
theorem bi_X0_isOfState {c : CC} {i : Nat} : i_X0_isOfState c i = 0 ∨ i_X0_isOfState c i = 1 := by
  unfold i_X0_isOfState
  repeat' split
  all_goals first | exact Or.inl rfl | exact Or.inr rfl | exact b_X3_hasBit
theorem je_X0_isOfState {S : Sto} {a o : Nat} : ∀ x y x2 y2, sI S a = x → sJ S a = y → sI S o = x2 → sJ S o = y2 → f_X0_isOfState S a = j_X0_isOfState x y x2 y2 := by
  rintro _ _ _ _ rfl rfl rfl rfl
  rfl
theorem mi_X0_isOfState {tm : Nat × Nat} {S : Sto} {w : CAd} {c : CC} {i : Nat} (hW : CW tm S w c) (hi : i < w.m) : Ev tm M_X0_isOfState [.ref (w.ca i)] S (Rt (some (.int (i_X0_isOfState c i))) S) := by
  have e : f_X0_isOfState S (w.ca i) = i_X0_isOfState c i := je_X0_isOfState _ _ _ _ (hW.ci i hi) (hW.cj i hi) (o := 0) rfl rfl
  rw [← e]
  exact m_X0_isOfState (hW.cK _ hi)
def i_X0_isVoter (c : CC) (i : Nat) : Int32 := if (c.ci i 0) = 1 then (if (i_X0_isOpen c i) = 0 then 0 else (if (i_X0_isOfState c i) = 0 then 1 else 0)) else 0
def j_X0_isVoter (x : Nat → Int32) (y : Nat → Int64) (x2 : Nat → Int32) (y2 : Nat → Int64) : Int32 := if (x 0) = 1 then (if (j_X0_isOpen x y x2 y2) = 0 then 0 else (if (j_X0_isOfState x y x2 y2) = 0 then 1 else 0)) else 0
theorem bi_X0_isVoter {c : CC} {i : Nat} : i_X0_isVoter c i = 0 ∨ i_X0_isVoter c i = 1 := by
  unfold i_X0_isVoter
  repeat' split
  all_goals first | exact Or.inl rfl | exact Or.inr rfl | exact b_X3_hasBit
theorem je_X0_isVoter {S : Sto} {a o : Nat} : ∀ x y x2 y2, sI S a = x → sJ S a = y → sI S o = x2 → sJ S o = y2 → f_X0_isVoter S a = j_X0_isVoter x y x2 y2 := by
  rintro _ _ _ _ rfl rfl rfl rfl
  rfl
theorem mi_X0_isVoter {tm : Nat × Nat} {S : Sto} {w : CAd} {c : CC} {i : Nat} (hW : CW tm S w c) (hi : i < w.m) : Ev tm M_X0_isVoter [.ref (w.ca i)] S (Rt (some (.int (i_X0_isVoter c i))) S) := by
  have e : f_X0_isVoter S (w.ca i) = i_X0_isVoter c i := je_X0_isVoter _ _ _ _ (hW.ci i hi) (hW.cj i hi) (o := 0) rfl rfl
  rw [← e]
  exact m_X0_isVoter (hW.cK _ hi)
def i_X0_isOfficial (c : CC) (i : Nat) : Int32 := if (c.ci i 0) = 0 then (if (i_X0_isOpen c i) = 0 then 0 else (if (c.ci i 4) = 0 then 1 else 0)) else (if (c.ci i 0) = 2 then (if (i_X0_isOpen c i) = 0 then 0 else (if (c.ci i 4) = 0 then 1 else 0)) else 0)
def j_X0_isOfficial (x : Nat → Int32) (y : Nat → Int64) (x2 : Nat → Int32) (y2 : Nat → Int64) : Int32 := if (x 0) = 0 then (if (j_X0_isOpen x y x2 y2) = 0 then 0 else (if (x 4) = 0 then 1 else 0)) else (if (x 0) = 2 then (if (j_X0_isOpen x y x2 y2) = 0 then 0 else (if (x 4) = 0 then 1 else 0)) else 0)
theorem bi_X0_isOfficial {c : CC} {i : Nat} : i_X0_isOfficial c i = 0 ∨ i_X0_isOfficial c i = 1 := by
  unfold i_X0_isOfficial
  repeat' split
  all_goals first | exact Or.inl rfl | exact Or.inr rfl | exact b_X3_hasBit
theorem je_X0_isOfficial {S : Sto} {a o : Nat} : ∀ x y x2 y2, sI S a = x → sJ S a = y → sI S o = x2 → sJ S o = y2 → f_X0_isOfficial S a = j_X0_isOfficial x y x2 y2 := by
  rintro _ _ _ _ rfl rfl rfl rfl
  rfl
theorem mi_X0_isOfficial {tm : Nat × Nat} {S : Sto} {w : CAd} {c : CC} {i : Nat} (hW : CW tm S w c) (hi : i < w.m) : Ev tm M_X0_isOfficial [.ref (w.ca i)] S (Rt (some (.int (i_X0_isOfficial c i))) S) := by
  have e : f_X0_isOfficial S (w.ca i) = i_X0_isOfficial c i := je_X0_isOfficial _ _ _ _ (hW.ci i hi) (hW.cj i hi) (o := 0) rfl rfl
  rw [← e]
  exact m_X0_isOfficial (hW.cK _ hi)
def i_X0_owed (c : CC) (i : Nat) : Int64 := (c.cj i 5) + (c.cj i 9)
def j_X0_owed (x : Nat → Int32) (y : Nat → Int64) (x2 : Nat → Int32) (y2 : Nat → Int64) : Int64 := (y 5) + (y 9)
theorem je_X0_owed {S : Sto} {a o : Nat} : ∀ x y x2 y2, sI S a = x → sJ S a = y → sI S o = x2 → sJ S o = y2 → f_X0_owed S a = j_X0_owed x y x2 y2 := by
  rintro _ _ _ _ rfl rfl rfl rfl
  rfl
theorem mi_X0_owed {tm : Nat × Nat} {S : Sto} {w : CAd} {c : CC} {i : Nat} (hW : CW tm S w c) (hi : i < w.m) : Ev tm M_X0_owed [.ref (w.ca i)] S (Rt (some (.long (i_X0_owed c i))) S) := by
  have e : f_X0_owed S (w.ca i) = i_X0_owed c i := je_X0_owed _ _ _ _ (hW.ci i hi) (hW.cj i hi) (o := 0) rfl rfl
  rw [← e]
  exact m_X0_owed (hW.cK _ hi)
def i_X3_votingWeight (c : CC) (i : Nat) (k : Int32) : Int64 := if (i_X0_isVoter c i) = 0 then 0 else (if k = (-1) then (i_X0_owed c i) else (if k = (c.ci i 3) then (i_X0_owed c i) else 0))
def j_X3_votingWeight (x : Nat → Int32) (y : Nat → Int64) (x2 : Nat → Int32) (y2 : Nat → Int64) (k : Int32) : Int64 := if (j_X0_isVoter x y x2 y2) = 0 then 0 else (if k = (-1) then (j_X0_owed x y x2 y2) else (if k = (x 3) then (j_X0_owed x y x2 y2) else 0))
theorem je_X3_votingWeight {S : Sto} {a o : Nat} {k : Int32} : ∀ x y x2 y2, sI S a = x → sJ S a = y → sI S o = x2 → sJ S o = y2 → f_X3_votingWeight S a k = j_X3_votingWeight x y x2 y2 k := by
  rintro _ _ _ _ rfl rfl rfl rfl
  rfl
theorem mi_X3_votingWeight {tm : Nat × Nat} {S : Sto} {w : CAd} {c : CC} {i : Nat} {k : Int32} (hW : CW tm S w c) (hi : i < w.m) : Ev tm M_X3_votingWeight [.ref (w.ca i), .int k] S (Rt (some (.long (i_X3_votingWeight c i k))) S) := by
  have e : f_X3_votingWeight S (w.ca i) k = i_X3_votingWeight c i k := je_X3_votingWeight _ _ _ _ (hW.ci i hi) (hW.cj i hi) (o := 0) rfl rfl
  rw [← e]
  exact m_X3_votingWeight (hW.cK _ hi)
def i_X3_isInSeries (c : CC) (i : Nat) (k : Int32) : Int32 := if (c.ci i 0) = 1 then (if (i_X0_isOpen c i) = 0 then 0 else (if (f_X3_hasBit ((k : Int32).toInt64) (c.ci i 3)) = 0 then 0 else 1)) else 0
def j_X3_isInSeries (x : Nat → Int32) (y : Nat → Int64) (x2 : Nat → Int32) (y2 : Nat → Int64) (k : Int32) : Int32 := if (x 0) = 1 then (if (j_X0_isOpen x y x2 y2) = 0 then 0 else (if (f_X3_hasBit ((k : Int32).toInt64) (x 3)) = 0 then 0 else 1)) else 0
theorem bi_X3_isInSeries {c : CC} {i : Nat} {k : Int32} : i_X3_isInSeries c i k = 0 ∨ i_X3_isInSeries c i k = 1 := by
  unfold i_X3_isInSeries
  repeat' split
  all_goals first | exact Or.inl rfl | exact Or.inr rfl | exact b_X3_hasBit
theorem je_X3_isInSeries {S : Sto} {a o : Nat} {k : Int32} : ∀ x y x2 y2, sI S a = x → sJ S a = y → sI S o = x2 → sJ S o = y2 → f_X3_isInSeries S a k = j_X3_isInSeries x y x2 y2 k := by
  rintro _ _ _ _ rfl rfl rfl rfl
  rfl
theorem mi_X3_isInSeries {tm : Nat × Nat} {S : Sto} {w : CAd} {c : CC} {i : Nat} {k : Int32} (hW : CW tm S w c) (hi : i < w.m) : Ev tm M_X3_isInSeries [.ref (w.ca i), .int k] S (Rt (some (.int (i_X3_isInSeries c i k))) S) := by
  have e : f_X3_isInSeries S (w.ca i) k = i_X3_isInSeries c i k := je_X3_isInSeries _ _ _ _ (hW.ci i hi) (hW.cj i hi) (o := 0) rfl rfl
  rw [← e]
  exact m_X3_isInSeries (hW.cK _ hi)
def i_X1_principalFor (c : CC) (j : Nat) (i : Nat) : Int64 := (f_X3_quotient ((i_X0_owed c i) * ((100 - (c.oi j 0) : Int32).toInt64)) 100)
def j_X1_principalFor (x : Nat → Int32) (y : Nat → Int64) (x2 : Nat → Int32) (y2 : Nat → Int64) : Int64 := (f_X3_quotient ((j_X0_owed x y x2 y2) * ((100 - (x2 0) : Int32).toInt64)) 100)
theorem je_X1_principalFor {S : Sto} {a o : Nat} : ∀ x y x2 y2, sI S a = x → sJ S a = y → sI S o = x2 → sJ S o = y2 → f_X1_principalFor S o a = j_X1_principalFor x y x2 y2 := by
  rintro _ _ _ _ rfl rfl rfl rfl
  rfl
theorem mi_X1_principalFor {tm : Nat × Nat} {S : Sto} {w : CAd} {c : CC} {j : Nat} {i : Nat} (hW : CW tm S w c) (hj : j < w.no) (hi : i < w.m) : Ev tm M_X1_principalFor [.ref (w.oa j), .ref (w.ca i)] S (Rt (some (.long (i_X1_principalFor c j i))) S) := by
  have e : f_X1_principalFor S (w.oa j) (w.ca i) = i_X1_principalFor c j i := je_X1_principalFor _ _ _ _ (hW.ci i hi) (hW.cj i hi) (hW.oi j hj) (hW.oj j hj)
  rw [← e]
  exact m_X1_principalFor (hW.oK hj) (hW.cK _ hi)
def i_X1_hasYesOf (c : CC) (j : Nat) (k : Int32) : Int32 := (f_X3_hasBit (c.oj j 3) k)
def j_X1_hasYesOf (x : Nat → Int32) (y : Nat → Int64) (x2 : Nat → Int32) (y2 : Nat → Int64) (k : Int32) : Int32 := (f_X3_hasBit (y2 3) k)
theorem bi_X1_hasYesOf {c : CC} {j : Nat} {k : Int32} : i_X1_hasYesOf c j k = 0 ∨ i_X1_hasYesOf c j k = 1 := by
  unfold i_X1_hasYesOf
  repeat' split
  all_goals first | exact Or.inl rfl | exact Or.inr rfl | exact b_X3_hasBit
theorem je_X1_hasYesOf {S : Sto} {a o : Nat} {k : Int32} : ∀ x y x2 y2, sI S a = x → sJ S a = y → sI S o = x2 → sJ S o = y2 → f_X1_hasYesOf S o k = j_X1_hasYesOf x y x2 y2 k := by
  rintro _ _ _ _ rfl rfl rfl rfl
  rfl
theorem mi_X1_hasYesOf {tm : Nat × Nat} {S : Sto} {w : CAd} {c : CC} {j : Nat} {k : Int32} (hW : CW tm S w c) (hj : j < w.no) : Ev tm M_X1_hasYesOf [.ref (w.oa j), .int k] S (Rt (some (.int (i_X1_hasYesOf c j k))) S) := by
  have e : f_X1_hasYesOf S (w.oa j) k = i_X1_hasYesOf c j k := je_X1_hasYesOf _ _ _ _ (a := 0) rfl rfl (hW.oi j hj) (hW.oj j hj)
  rw [← e]
  exact m_X1_hasYesOf (hW.oK hj)
