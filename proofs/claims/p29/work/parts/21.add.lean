
def AddR (tm : Nat × Nat) (S S1 : Sto) (al n kd v : Nat) (ca : Nat → Nat) : Prop :=
  Lst tm S1 al (n + 1) kd (fun i => if i = n then v else ca i) ∧
  (∀ b, sK S b ≠ 99 → sK S1 b = sK S b ∧ sN S1 b = sN S b ∧ sJ S1 b = sJ S b ∧ (b ≠ al → sI S1 b = sI S b) ∧ (b ≠ al → sR S al 1 ≠ some b → sR S1 b = sR S b)) ∧
  (∀ b, sK S b = 99 → sK S1 b = 99 ∨ sK S1 b = 9) ∧
  (sR S1 al 1 = sR S al 1 ∨ ∃ a, sR S1 al 1 = some a ∧ sK S a = 99)
/-- a list that grows, or whose row has a place: before the new one is laid -/
theorem add_done {tm : Nat × Nat} {S S1 : Sto} {al n kd v ed N : Nat} {ca : Nat → Nat} {m : Int32} {f : Nat → Option Nat} (hk : sK S al = 0) (hv : sK S v = kd) (hkd : 1 ≤ kd) (hkd3 : kd ≤ 3) (hn : n < N) (hN0 : 10 ≤ N) (hN : N ≤ 60) (hca : ∀ i, i < n → f i = some (ca i) ∧ sK S (ca i) = kd)
    (hed : (sR S al 1 = some ed ∧ sK S ed = 9 ∧ sN S ed = N ∧ sR S ed = f ∧ S1 = uI (uR (uI S al 0 m) ed n (some v)) al 2 (nI (n + 1))) ∨ (sK S ed = 99 ∧ S1 = uI (uR (uR (uRr (sal (uI S al 0 m) ed 9 N) ed f) al 1 (some ed)) ed n (some v)) al 2 (nI (n + 1)))) : AddR tm S S1 al n kd v ca := by
  rcases hed with ⟨g1, g2, g3, g4, rfl⟩ | ⟨g1, rfl⟩
  · have hne : al ≠ ed := fun e => by rw [e, g2] at hk; cases hk
    refine ⟨⟨hk, ed, ?_, Or.inl ⟨g2, by show 10 ≤ sN S ed; omega⟩, ?_, ?_, ?_, fun i hi => ?_⟩, fun b hb => ⟨rfl, rfl, rfl, fun h => ?_, fun h h1 => ?_⟩, fun b hb => Or.inl hb, Or.inl ?_⟩
    · show up2 _ _ _ _ al 1 = _
      rw [up2_ne hne]
      exact g1
    · show n + 1 ≤ sN S ed
      omega
    · show sN S ed ≤ 60
      omega
    · show up2 _ _ _ _ al 2 = _
      rw [up2_self]
    · refine ⟨?_, ?_⟩
      · show up2 _ _ _ _ ed i = _
        by_cases e : i = n
        · subst e
          rw [up2_self]
          exact (congrArg some (if_pos rfl)).symm
        · rw [up2_k e]
          show sR S ed i = some (if i = n then v else ca i)
          rw [g4, if_neg e]
          exact (hca i (by omega)).1
      · show sK S (if i = n then v else ca i) = kd
        by_cases e : i = n
        · rw [if_pos e]; exact hv
        · rw [if_neg e]; exact (hca i (by omega)).2
    · show up2 (up2 _ _ _ _) _ _ _ b = _
      rw [up2_ne h, up2_ne h]
    · show up2 _ _ _ _ b = _
      rw [up2_ne (fun e => h1 (by rw [g1, e]))]
    · show up2 _ _ _ _ al 1 = _
      rw [up2_ne hne]
  · have hne : al ≠ ed := fun e => by rw [e, g1] at hk; cases hk
    have hvn : v ≠ ed := fun e => by rw [e, g1] at hv; omega
    refine ⟨⟨?_, ed, ?_, Or.inl ⟨?_, by show 10 ≤ up1 _ _ _ ed; rw [up1_self]; exact hN0⟩, ?_, ?_, ?_, fun i hi => ?_⟩, fun b hb => ?_, fun b hb => ?_, Or.inr ⟨ed, ?_, g1⟩⟩
    · show up1 _ _ _ al = _
      rw [up1_ne hne]
      exact hk
    · show up2 (up2 _ _ _ _) _ _ _ al 1 = _
      rw [up2_ne hne, up2_self]
    · show up1 _ _ _ ed = _
      rw [up1_self]
    · show n + 1 ≤ up1 _ _ _ ed
      rw [up1_self]
      exact hn
    · show up1 _ _ _ ed ≤ 60
      rw [up1_self]
      exact hN
    · show up2 _ _ _ _ al 2 = _
      rw [up2_self]
    · refine ⟨?_, ?_⟩
      · show up2 (up2 (upr _ _ _) _ _ _) _ _ _ ed i = _
        by_cases e : i = n
        · subst e
          rw [up2_self]
          exact (congrArg some (if_pos rfl)).symm
        · rw [up2_k e, up2_ne (Ne.symm hne), upr_self]
          show f i = some (if i = n then v else ca i)
          rw [if_neg e]
          exact (hca i (by omega)).1
      · show up1 _ _ _ (if i = n then v else ca i) = kd
        by_cases e : i = n
        · rw [if_pos e, up1_ne hvn]; exact hv
        · rw [if_neg e, up1_ne (fun z => by have := (hca i (by omega)).2; rw [z, g1] at this; omega)]; exact (hca i (by omega)).2
    · have hb : b ≠ ed := fun e => hb (by rw [e]; exact g1)
      refine ⟨up1_ne hb, up1_ne hb, upr_ne hb, fun h => ?_, fun h h1 => ?_⟩
      · show up2 (upr (up2 _ _ _ _) _ _) _ _ _ b = _
        rw [up2_ne h, upr_ne hb, up2_ne h]
      · show up2 (up2 (upr (upr _ _ _) _ _) _ _ _) _ _ _ b = _
        rw [up2_ne hb, up2_ne h, upr_ne hb, upr_ne hb]
    · by_cases e : b = ed
      · subst e
        exact Or.inr up1_self
      · exact Or.inl ((up1_ne e).trans hb)
    · show up2 (up2 _ _ _ _) _ _ _ al 1 = _
      rw [up2_ne hne, up2_self]
theorem m_add2 {tm : Nat × Nat} {S : Sto} {al n kd v ed : Nat} {ca : Nat → Nat} {m : Int32} (h : Lst tm S al n kd ca) (hed : sR S al 1 = some ed) (hn : n ≤ 40) (hv : sK S v = kd) (hkd : 1 ≤ kd) (hkd3 : kd ≤ 3) : Ev tm M_Jx4a65c_add_72be8 [.ref al, .ref v, .ref ed, .int (nI n)] (uI S al 0 m) (fun o s1 => o = .inl none ∧ AddR tm S s1 al n kd v ca) := by
  obtain ⟨hk, ed', h1, h2, h3, h4, h5, h6⟩ := id h
  have he : ed' = ed := Option.some.inj (h1.symm.trans hed)
  subst he
  refine ev_in ok_Jx4a65c_add_72be8 (Nat.le_of_ble_eq_true rfl) ?_
  refine s_iloadn dJx4a65c_add_72be8_0 rfl rfl ?_
  refine s_aloadn dJx4a65c_add_72be8_1 rfl rfl ?_
  have hs0 : sI (uI S al 0 m) al 2 = nI n := (up2_k (by decide)).trans h5
  have tail : ∀ (x : Nat) (Sx : Sto) (bc bs : Nat), sK Sx al = 0 → sK Sx x = 9 → n < sN Sx x → sN Sx x ≤ 60 → sK Sx v = kd → AddR tm S (uI (uR Sx x n (some v)) al 2 (nI (n + 1))) al n kd v ca → ∀ lo, lget lo 2 = some (.ref x) → lget lo 3 = some (.int (nI n)) → lget lo 1 = some (.ref v) → lget lo 0 = some (.ref al) → Wp (Ev tm) tm M_Jx4a65c_add_72be8 (fun o s1 => o = .inl none ∧ AddR tm S s1 al n kd v ca) 11 lo [] bc bs Sx := by
    intro x Sx bc bs k0 k9 kn kN kv kA lo g2 g3 g1 g0
    refine s_aloadn dJx4a65c_add_72be8_11 rfl g2 ?_
    refine s_iloadn dJx4a65c_add_72be8_12 rfl g3 ?_
    refine s_aloadn dJx4a65c_add_72be8_13 rfl g1 ?_
    refine s_aast' (j := n) dJx4a65c_add_72be8_14 k9 (by rw [kv]; exact hkd) (by rw [kv]; exact hkd3) rfl kn (by omega) ?_
    refine s_aloadn dJx4a65c_add_72be8_15 rfl g0 ?_
    refine s_iloadn dJx4a65c_add_72be8_16 rfl g3 ?_
    refine s_iconst (v := 1) dJx4a65c_add_72be8_17 (by decide) ?_
    refine s_iadd dJx4a65c_add_72be8_18 ?_
    rw [nI_1]
    refine s_putI (n := 1) dJx4a65c_add_72be8_19 rfl (show sK Sx al = 0 from k0) (Or.inl rfl) (fun _ _ _ => rfl) rfl rfl ?_
    exact s_retv dJx4a65c_add_72be8_22 rfl ⟨rfl, kA⟩
  have grow : ((sK S ed' = 9 ∧ sN S ed' = n ∧ 10 ≤ n) ∨ (ed' = tm.1 ∧ n = 0 ∧ sK S ed' = 13)) → Wp (Ev tm) tm M_Jx4a65c_add_72be8 (fun o s1 => o = .inl none ∧ AddR tm S s1 al n kd v ca) (3 + 3) [(0, .ref al), (1, .ref v), (2, .ref ed'), (3, .int (nI n))] [] 1 100 (uI S al 0 m) := by
    intro he'
    refine s_aloadn dJx4a65c_add_72be8_6 rfl rfl ?_
    refine s_cv0G (n := 5) dJx4a65c_add_72be8_7 rfl (kv hk (by decide) rfl) rfl (by decide) (by decide) (by decide) (by decide) (Nat.le_of_ble_eq_true rfl) (m_grow0 (n := n) hk h1 hs0 hn he' hkd hkd3 (fun i y hi hy => by rw [(h6 i hi).1] at hy; cases hy; exact (h6 i hi).2)) (fun r S1 hr => ?_) (fun x S1 hr => by obtain ⟨a, N, ha, g1, g2, g3, e, e1⟩ := hr; cases e)
    obtain ⟨a, N, ha, g1, g2, g3, e, es⟩ := hr
    cases e
    subst es
    have ha : sK S a = 99 := ha
    have hne : al ≠ a := fun e => by rw [e, ha] at hk; cases hk
    have hva : v ≠ a := fun e => by rw [e, ha] at hv; omega
    refine s_astoren dJx4a65c_add_72be8_10 rfl (by decide) ?_
    refine tail a _ _ _ ((up1_ne hne).trans hk) up1_self (by show n < up1 _ _ _ a; rw [up1_self]; exact g1) (by show up1 _ _ _ a ≤ 60; rw [up1_self]; exact g3) ((up1_ne hva).trans hv) (add_done hk hv hkd hkd3 g1 g2 g3 (f := fun j => if j < n then sR S ed' j else none) (fun i hi => ⟨(if_pos hi).trans (h6 i hi).1, (h6 i hi).2⟩) (Or.inr ⟨ha, rfl⟩)) _ rfl rfl rfl rfl
  rcases h2 with ⟨h9, h10⟩ | h2
  · refine s_alen dJx4a65c_add_72be8_2 (show 6 ≤ sK S ed' by omega) (show sK S ed' ≤ 11 by omega) ?_
    by_cases hfull : sN S ed' = n
    · refine s_icne (tgt := 11) dJx4a65c_add_72be8_3 (by decide) (fun c => absurd ((nI_eq (a := n) (b := sN S ed') (by omega) (by omega)).mpr hfull.symm) c) (fun _ => ?_)
      exact grow (Or.inl ⟨h9, hfull, by omega⟩)
    · refine s_icne (tgt := 11) dJx4a65c_add_72be8_3 (by decide) (fun _ => ?_) (fun c => absurd ((nI_eq (a := n) (b := sN S ed') (by omega) (by omega)).mp c) (Ne.symm hfull))
      exact tail ed' (uI S al 0 m) _ _ hk h9 (show n < sN S ed' by omega) h4 hv (add_done hk hv hkd hkd3 (show n < sN S ed' by omega) h10 h4 h6 (Or.inl ⟨h1, h9, rfl, rfl, rfl⟩)) _ rfl rfl rfl rfl
  · obtain ⟨z1, z2, z3⟩ := h2
    refine s_elen dJx4a65c_add_72be8_2 z3 ?_
    refine s_icne (tgt := 11) dJx4a65c_add_72be8_3 (by decide) (fun c => absurd (by rw [z2]; rfl) c) (fun _ => ?_)
    exact grow (Or.inr ⟨z1, z2, z3⟩)
theorem m_add {tm : Nat × Nat} {S : Sto} {al n kd v : Nat} {ca : Nat → Nat} (h : Lst tm S al n kd ca) (hn : n ≤ 40) (hv : sK S v = kd) (hkd : 1 ≤ kd) (hkd3 : kd ≤ 3) : Ev tm M_Jx4a65c_add_9ea2d [.ref al, .ref v] S (fun o s1 => o = .inl (some (.int 1)) ∧ AddR tm S s1 al n kd v ca) := by
  obtain ⟨hk, ed, h1, h2, h3, h4, h5, h6⟩ := id h
  refine ev_in ok_Jx4a65c_add_9ea2d (Nat.le_of_ble_eq_true rfl) ?_
  refine s_aloadn dJx4a65c_add_9ea2d_0 rfl rfl ?_
  refine s_dup dJx4a65c_add_9ea2d_1 rfl ?_
  refine s_getI (n := 3) dJx4a65c_add_9ea2d_2 rfl hk (fun _ _ _ => rfl) ?_
  refine s_iconst (v := 1) dJx4a65c_add_9ea2d_5 (by decide) ?_
  refine s_iadd dJx4a65c_add_9ea2d_6 ?_
  refine s_putI (n := 3) dJx4a65c_add_9ea2d_7 rfl hk (Or.inl rfl) (fun _ _ _ => rfl) rfl rfl ?_
  refine s_aloadn dJx4a65c_add_9ea2d_10 rfl rfl ?_
  refine s_aloadn dJx4a65c_add_9ea2d_11 rfl rfl ?_
  refine s_aloadn dJx4a65c_add_9ea2d_12 rfl rfl ?_
  refine s_getR (n := 0) dJx4a65c_add_9ea2d_13 rfl hk (fun _ _ _ => rfl) h1 ?_
  refine s_aloadn dJx4a65c_add_9ea2d_16 rfl rfl ?_
  refine s_getI (n := 1) dJx4a65c_add_9ea2d_17 rfl hk (fun _ _ _ => rfl) ?_
  have hs0 : ∀ m, sI (uI S al 0 m) al 2 = nI n := fun m => (up2_k (by decide)).trans h5
  rw [hs0]
  refine s_cv3G (n := 6) dJx4a65c_add_9ea2d_20 rfl (kv hk (by decide) rfl) rfl (by decide) (by decide) (by decide) (by decide) (Nat.le_of_ble_eq_true rfl) (m_add2 h h1 hn hv hkd hkd3) (fun r S1 hr => ?_) (fun x S1 hr => by obtain ⟨e, -⟩ := hr; cases e)
  obtain ⟨e, hA⟩ := hr
  cases e
  refine s_iconst (v := 1) dJx4a65c_add_9ea2d_23 (by decide) ?_
  exact s_reti dJx4a65c_add_9ea2d_24 rfl rfl ⟨rfl, hA⟩
