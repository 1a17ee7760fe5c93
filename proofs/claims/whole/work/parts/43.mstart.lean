/-! THE PROGRAM, 24: a new model -/
def MB (S S1 : Sto) (a : Nat) (ar : Nat → Nat) (d : List Nat) (fi : Nat → Int32) (fj : Nat → Int64) : Prop := (∀ b, sK S b ≠ 99 → same5 S S1 b) ∧ sK S1 a = 5 ∧ sI S1 a = fi ∧ sJ S1 a = fj ∧ (∀ f, f ∈ d → sR S1 a f = some (ar f) ∧ sK S1 (ar f) = ak f ∧ sN S1 (ar f) = aln f ∧ sI S1 (ar f) = (fun _ => 0) ∧ sJ S1 (ar f) = (fun _ => 0) ∧ ar f ≠ a ∧ ak f ≠ 0) ∧ ∀ f g, f ∈ d → g ∈ d → ar f = ar g → f = g
section
variable {S S1 : Sto} {a : Nat} {ar : Nat → Nat} {d : List Nat} {fi : Nat → Int32} {fj : Nat → Int64}
theorem MB.start (ha : sK S a = 99) : MB S (sal S a 5 0) a (fun _ => 0) [] (fun _ => 0) (fun _ => 0) := ⟨fun b hb => same5.rf.A (fun e => hb (by rw [e]; exact ha)), up1_self, upr_self, upr_self, fun f hf => absurd hf List.not_mem_nil, fun f g hf => absurd hf List.not_mem_nil⟩
theorem MB.I (h : MB S S1 a ar d fi fj) (ha : sK S a = 99) {k : Nat} {v : Int32} : MB S (uI S1 a k v) a ar d (pI fi k v) fj := by
  obtain ⟨h1, h2, h3, h4, h5, h6⟩ := h
  refine ⟨fun b hb => (h1 b hb).I (fun e => hb (by rw [e]; exact ha)), h2, up2_one h3, h4, fun f hf => ?_, h6⟩
  obtain ⟨a1, a2, a3, a4, a5, a6, a7⟩ := h5 f hf
  exact ⟨a1, a2, a3, (up2_ne a6).trans a4, a5, a6, a7⟩
theorem MB.J (h : MB S S1 a ar d fi fj) (ha : sK S a = 99) {k : Nat} {v : Int64} : MB S (uJ S1 a k v) a ar d fi (pJ fj k v) := by
  obtain ⟨h1, h2, h3, h4, h5, h6⟩ := h
  refine ⟨fun b hb => (h1 b hb).J (fun e => hb (by rw [e]; exact ha)), h2, h3, up2_one h4, fun f hf => ?_, h6⟩
  obtain ⟨a1, a2, a3, a4, a5, a6, a7⟩ := h5 f hf
  exact ⟨a1, a2, a3, a4, (up2_ne a6).trans a5, a6, a7⟩
theorem MB.arr (h : MB S S1 a ar d fi fj) (ha : sK S a = 99) {f kd n p : Nat} (hp : sK S1 p = 99) (hk : ak f = kd) (hn : aln f = n) (h0 : kd ≠ 0) (h9 : kd ≠ 99) (hf : ¬ f ∈ d) : MB S (uR (sal S1 p kd n) a f (some p)) a (fun g => if g = f then p else ar g) (f :: d) fi fj := by
  obtain ⟨h1, h2, h3, h4, h5, h6⟩ := h
  have hpa : a ≠ p := fun e => by rw [← e, h2] at hp; cases hp
  have har : ∀ g, g ∈ d → ar g ≠ p := fun g hg e => by
    obtain ⟨-, a2, -, -, -, -, a7⟩ := h5 g hg
    rw [e, hp] at a2
    rcases ak_val a7 with z | z | z <;> omega
  have hx : ∀ b, sK S b ≠ 99 → b ≠ p := fun b hb e => hb (by have := (h1 b hb).1; rw [e] at this; rw [e, ← this]; exact hp)
  refine ⟨fun b hb => ((h1 b hb).A (hx b hb)).R (fun e => hb (by rw [e]; exact ha)), (up1_ne hpa).trans h2, (upr_ne hpa).trans h3, (upr_ne hpa).trans h4, fun g hg => ?_, fun g g2 hg hg2 e => ?_⟩
  · by_cases e : g = f
    · subst e
      show up2 _ a g _ a g = some (if g = g then p else ar g) ∧ up1 _ p kd (if g = g then p else ar g) = _ ∧ up1 _ p n (if g = g then p else ar g) = _ ∧ upr _ p _ (if g = g then p else ar g) = _ ∧ upr _ p _ (if g = g then p else ar g) = _ ∧ (if g = g then p else ar g) ≠ a ∧ _
      rw [if_pos rfl]
      exact ⟨up2_self, up1_self.trans hk.symm, up1_self.trans hn.symm, upr_self, upr_self, Ne.symm hpa, by rw [hk]; exact h0⟩
    · have hgd : g ∈ d := by
        rcases List.mem_cons.mp hg with z | z
        · exact absurd z e
        · exact z
      obtain ⟨a1, a2, a3, a4, a5, a6, a7⟩ := h5 g hgd
      have hgp := har g hgd
      show up2 _ a f _ a g = some (if g = f then p else ar g) ∧ up1 _ p kd (if g = f then p else ar g) = _ ∧ up1 _ p n (if g = f then p else ar g) = _ ∧ upr _ p _ (if g = f then p else ar g) = _ ∧ upr _ p _ (if g = f then p else ar g) = _ ∧ (if g = f then p else ar g) ≠ a ∧ _
      rw [if_neg e]
      exact ⟨(up2_k e).trans ((congrFun (upr_ne hpa) g).trans a1), (up1_ne hgp).trans a2, (up1_ne hgp).trans a3, (upr_ne hgp).trans a4, (upr_ne hgp).trans a5, a6, a7⟩
  · by_cases e1 : g = f
    · by_cases e2 : g2 = f
      · rw [e1, e2]
      · have e : p = ar g2 := by
          have e := e
          simp only [if_pos e1, if_neg e2] at e
          exact e
        exact absurd e.symm (har g2 (by rcases List.mem_cons.mp hg2 with z | z; exact absurd z e2; exact z))
    · by_cases e2 : g2 = f
      · have e : ar g = p := by
          have e := e
          simp only [if_neg e1, if_pos e2] at e
          exact e
        exact absurd e (har g (by rcases List.mem_cons.mp hg with z | z; exact absurd z e1; exact z))
      · have e : ar g = ar g2 := by
          have e := e
          simp only [if_neg e1, if_neg e2] at e
          exact e
        exact h6 g g2 (by rcases List.mem_cons.mp hg with z | z; exact absurd z e1; exact z) (by rcases List.mem_cons.mp hg2 with z | z; exact absurd z e2; exact z) e
theorem MB.done (h : MB S S1 a ar d fi fj) (hd : ∀ f, f < 38 → ak f ≠ 0 → f ∈ d) : MW S1 (a, ar) (fi, fj, fun _ _ => 0, fun _ _ => 0) := by
  obtain ⟨h1, h2, h3, h4, h5, h6⟩ := h
  have hh : ∀ f, ak f ≠ 0 → f ∈ d := fun f hf => hd f (ak_lt hf) hf
  exact MW.mk' (mm := h2) (ti := h3) (tj := h4) (rr := fun f hf => ⟨(h5 f (hh f hf)).1, (h5 f (hh f hf)).2.1, (h5 f (hh f hf)).2.2.1⟩) (ai := fun f hf => (h5 f (hh f hf)).2.2.2.1) (aj := fun f hf => (h5 f (hh f hf)).2.2.2.2.1) (inj := fun f g hf hg => h6 f g (hh f hf) (hh g hg))
end
def mc0 : MC := ((pI (fun _ => 0) 6 800), (pJ (fun _ => 0) 3 1000000), fun _ _ => 0, fun _ _ => 0)
set_option maxHeartbeats 4000000 in
theorem m_X4_init {tm : Nat × Nat} {S : Sto} {a : Nat} (ha : sK S a = 99) : Ev tm M_X4_init [.ref a] (sal S a 5 0) (fun o S1 => o = .inl none ∧ ∃ w : MAd, w.mm = a ∧ MW S1 w mc0 ∧ FrM S S1) := by
  have h0 := MB.start ha
  refine ev_in ok_X4_init (Nat.le_of_ble_eq_true rfl) ?_
  refine s_aloadn dX4_init_0 rfl rfl ?_
  refine s_co (n := 5) dX4_init_1 rfl (by decide) (by decide) (by decide) ?_
  refine s_aloadn dX4_init_4 rfl rfl ?_
  refine s_ldc2 (v := 1000000) dX4_init_5 csl_RX4_7 ?_
  refine s_putJ (n := 64) dX4_init_8 rfl h0.2.1 (Or.inl rfl) (fun _ _ _ => rfl) rfl rfl ?_
  have g1 := h0.J ha (k := 3) (v := 1000000)
  refine s_aloadn dX4_init_11 rfl rfl ?_
  refine s_sipush (v := 800) dX4_init_12 (by decide) ?_
  refine s_putI (n := 67) dX4_init_15 rfl g1.2.1 (Or.inl rfl) (fun _ _ _ => rfl) rfl rfl ?_
  have g2 := g1.I ha (k := 6) (v := 800)
  refine s_aloadn dX4_init_18 rfl rfl ?_
  refine s_bipush (v := 40) dX4_init_19 (by decide) ?_
  refine s_newi (N := 40) (kd := 6) dX4_init_21 rfl (by decide) (by decide) (by decide) (by decide) (by decide) (fun p3 hp3 => ?_)
  have k3 : sK (sal _ p3 6 40) a = 5 := (up1_ne (fun e => by rw [← e, g2.2.1] at hp3; cases hp3)).trans g2.2.1
  refine s_putR (n := 69) dX4_init_23 rfl k3 (Or.inr ⟨rfl, rfl, rfl⟩) (fun _ _ _ => rfl) rfl rfl ?_
  have g3 := g2.arr ha (f := 8) (kd := 6) (n := 40) hp3 rfl rfl (by decide) (by decide) (by decide)
  refine s_aloadn dX4_init_26 rfl rfl ?_
  refine s_bipush (v := 40) dX4_init_27 (by decide) ?_
  refine s_newi (N := 40) (kd := 6) dX4_init_29 rfl (by decide) (by decide) (by decide) (by decide) (by decide) (fun p4 hp4 => ?_)
  have k4 : sK (sal _ p4 6 40) a = 5 := (up1_ne (fun e => by rw [← e, g3.2.1] at hp4; cases hp4)).trans g3.2.1
  refine s_putR (n := 70) dX4_init_31 rfl k4 (Or.inr ⟨rfl, rfl, rfl⟩) (fun _ _ _ => rfl) rfl rfl ?_
  have g4 := g3.arr ha (f := 9) (kd := 6) (n := 40) hp4 rfl rfl (by decide) (by decide) (by decide)
  refine s_aloadn dX4_init_34 rfl rfl ?_
  refine s_bipush (v := 40) dX4_init_35 (by decide) ?_
  refine s_newj (N := 40) (kd := 10) dX4_init_37 (Or.inr (Or.inl rfl)) (by decide) (by decide) (by decide) (by decide) (by decide) (fun p5 hp5 => ?_)
  have k5 : sK (sal _ p5 10 40) a = 5 := (up1_ne (fun e => by rw [← e, g4.2.1] at hp5; cases hp5)).trans g4.2.1
  refine s_putR (n := 71) dX4_init_39 rfl k5 (Or.inr ⟨rfl, rfl, rfl⟩) (fun _ _ _ => rfl) rfl rfl ?_
  have g5 := g4.arr ha (f := 10) (kd := 10) (n := 40) hp5 rfl rfl (by decide) (by decide) (by decide)
  refine s_aloadn dX4_init_42 rfl rfl ?_
  refine s_bipush (v := 40) dX4_init_43 (by decide) ?_
  refine s_newi (N := 40) (kd := 6) dX4_init_45 rfl (by decide) (by decide) (by decide) (by decide) (by decide) (fun p6 hp6 => ?_)
  have k6 : sK (sal _ p6 6 40) a = 5 := (up1_ne (fun e => by rw [← e, g5.2.1] at hp6; cases hp6)).trans g5.2.1
  refine s_putR (n := 72) dX4_init_47 rfl k6 (Or.inr ⟨rfl, rfl, rfl⟩) (fun _ _ _ => rfl) rfl rfl ?_
  have g6 := g5.arr ha (f := 11) (kd := 6) (n := 40) hp6 rfl rfl (by decide) (by decide) (by decide)
  refine s_aloadn dX4_init_50 rfl rfl ?_
  refine s_bipush (v := 40) dX4_init_51 (by decide) ?_
  refine s_newi (N := 40) (kd := 6) dX4_init_53 rfl (by decide) (by decide) (by decide) (by decide) (by decide) (fun p7 hp7 => ?_)
  have k7 : sK (sal _ p7 6 40) a = 5 := (up1_ne (fun e => by rw [← e, g6.2.1] at hp7; cases hp7)).trans g6.2.1
  refine s_putR (n := 73) dX4_init_55 rfl k7 (Or.inr ⟨rfl, rfl, rfl⟩) (fun _ _ _ => rfl) rfl rfl ?_
  have g7 := g6.arr ha (f := 12) (kd := 6) (n := 40) hp7 rfl rfl (by decide) (by decide) (by decide)
  refine s_aloadn dX4_init_58 rfl rfl ?_
  refine s_bipush (v := 40) dX4_init_59 (by decide) ?_
  refine s_newi (N := 40) (kd := 6) dX4_init_61 rfl (by decide) (by decide) (by decide) (by decide) (by decide) (fun p8 hp8 => ?_)
  have k8 : sK (sal _ p8 6 40) a = 5 := (up1_ne (fun e => by rw [← e, g7.2.1] at hp8; cases hp8)).trans g7.2.1
  refine s_putR (n := 74) dX4_init_63 rfl k8 (Or.inr ⟨rfl, rfl, rfl⟩) (fun _ _ _ => rfl) rfl rfl ?_
  have g8 := g7.arr ha (f := 13) (kd := 6) (n := 40) hp8 rfl rfl (by decide) (by decide) (by decide)
  refine s_aloadn dX4_init_66 rfl rfl ?_
  refine s_bipush (v := 40) dX4_init_67 (by decide) ?_
  refine s_newi (N := 40) (kd := 6) dX4_init_69 rfl (by decide) (by decide) (by decide) (by decide) (by decide) (fun p9 hp9 => ?_)
  have k9 : sK (sal _ p9 6 40) a = 5 := (up1_ne (fun e => by rw [← e, g8.2.1] at hp9; cases hp9)).trans g8.2.1
  refine s_putR (n := 75) dX4_init_71 rfl k9 (Or.inr ⟨rfl, rfl, rfl⟩) (fun _ _ _ => rfl) rfl rfl ?_
  have g9 := g8.arr ha (f := 14) (kd := 6) (n := 40) hp9 rfl rfl (by decide) (by decide) (by decide)
  refine s_aloadn dX4_init_74 rfl rfl ?_
  refine s_bipush (v := 40) dX4_init_75 (by decide) ?_
  refine s_newz (N := 40) (kd := 8) dX4_init_77 rfl (by decide) (by decide) (by decide) (by decide) (by decide) (fun p10 hp10 => ?_)
  have k10 : sK (sal _ p10 8 40) a = 5 := (up1_ne (fun e => by rw [← e, g9.2.1] at hp10; cases hp10)).trans g9.2.1
  refine s_putR (n := 76) dX4_init_79 rfl k10 (Or.inr ⟨rfl, rfl, rfl⟩) (fun _ _ _ => rfl) rfl rfl ?_
  have g10 := g9.arr ha (f := 15) (kd := 8) (n := 40) hp10 rfl rfl (by decide) (by decide) (by decide)
  refine s_aloadn dX4_init_82 rfl rfl ?_
  refine s_bipush (v := 40) dX4_init_83 (by decide) ?_
  refine s_newi (N := 40) (kd := 6) dX4_init_85 rfl (by decide) (by decide) (by decide) (by decide) (by decide) (fun p11 hp11 => ?_)
  have k11 : sK (sal _ p11 6 40) a = 5 := (up1_ne (fun e => by rw [← e, g10.2.1] at hp11; cases hp11)).trans g10.2.1
  refine s_putR (n := 77) dX4_init_87 rfl k11 (Or.inr ⟨rfl, rfl, rfl⟩) (fun _ _ _ => rfl) rfl rfl ?_
  have g11 := g10.arr ha (f := 16) (kd := 6) (n := 40) hp11 rfl rfl (by decide) (by decide) (by decide)
  refine s_aloadn dX4_init_90 rfl rfl ?_
  refine s_bipush (v := 40) dX4_init_91 (by decide) ?_
  refine s_newj (N := 40) (kd := 10) dX4_init_93 (Or.inr (Or.inl rfl)) (by decide) (by decide) (by decide) (by decide) (by decide) (fun p12 hp12 => ?_)
  have k12 : sK (sal _ p12 10 40) a = 5 := (up1_ne (fun e => by rw [← e, g11.2.1] at hp12; cases hp12)).trans g11.2.1
  refine s_putR (n := 78) dX4_init_95 rfl k12 (Or.inr ⟨rfl, rfl, rfl⟩) (fun _ _ _ => rfl) rfl rfl ?_
  have g12 := g11.arr ha (f := 17) (kd := 10) (n := 40) hp12 rfl rfl (by decide) (by decide) (by decide)
  refine s_aloadn dX4_init_98 rfl rfl ?_
  refine s_bipush (v := 40) dX4_init_99 (by decide) ?_
  refine s_newj (N := 40) (kd := 10) dX4_init_101 (Or.inr (Or.inl rfl)) (by decide) (by decide) (by decide) (by decide) (by decide) (fun p13 hp13 => ?_)
  have k13 : sK (sal _ p13 10 40) a = 5 := (up1_ne (fun e => by rw [← e, g12.2.1] at hp13; cases hp13)).trans g12.2.1
  refine s_putR (n := 79) dX4_init_103 rfl k13 (Or.inr ⟨rfl, rfl, rfl⟩) (fun _ _ _ => rfl) rfl rfl ?_
  have g13 := g12.arr ha (f := 18) (kd := 10) (n := 40) hp13 rfl rfl (by decide) (by decide) (by decide)
  refine s_aloadn dX4_init_106 rfl rfl ?_
  refine s_bipush (v := 40) dX4_init_107 (by decide) ?_
  refine s_newj (N := 40) (kd := 10) dX4_init_109 (Or.inr (Or.inl rfl)) (by decide) (by decide) (by decide) (by decide) (by decide) (fun p14 hp14 => ?_)
  have k14 : sK (sal _ p14 10 40) a = 5 := (up1_ne (fun e => by rw [← e, g13.2.1] at hp14; cases hp14)).trans g13.2.1
  refine s_putR (n := 80) dX4_init_111 rfl k14 (Or.inr ⟨rfl, rfl, rfl⟩) (fun _ _ _ => rfl) rfl rfl ?_
  have g14 := g13.arr ha (f := 19) (kd := 10) (n := 40) hp14 rfl rfl (by decide) (by decide) (by decide)
  refine s_aloadn dX4_init_114 rfl rfl ?_
  refine s_bipush (v := 40) dX4_init_115 (by decide) ?_
  refine s_newi (N := 40) (kd := 6) dX4_init_117 rfl (by decide) (by decide) (by decide) (by decide) (by decide) (fun p15 hp15 => ?_)
  have k15 : sK (sal _ p15 6 40) a = 5 := (up1_ne (fun e => by rw [← e, g14.2.1] at hp15; cases hp15)).trans g14.2.1
  refine s_putR (n := 81) dX4_init_119 rfl k15 (Or.inr ⟨rfl, rfl, rfl⟩) (fun _ _ _ => rfl) rfl rfl ?_
  have g15 := g14.arr ha (f := 20) (kd := 6) (n := 40) hp15 rfl rfl (by decide) (by decide) (by decide)
  refine s_aloadn dX4_init_122 rfl rfl ?_
  refine s_bipush (v := 40) dX4_init_123 (by decide) ?_
  refine s_newi (N := 40) (kd := 6) dX4_init_125 rfl (by decide) (by decide) (by decide) (by decide) (by decide) (fun p16 hp16 => ?_)
  have k16 : sK (sal _ p16 6 40) a = 5 := (up1_ne (fun e => by rw [← e, g15.2.1] at hp16; cases hp16)).trans g15.2.1
  refine s_putR (n := 82) dX4_init_127 rfl k16 (Or.inr ⟨rfl, rfl, rfl⟩) (fun _ _ _ => rfl) rfl rfl ?_
  have g16 := g15.arr ha (f := 21) (kd := 6) (n := 40) hp16 rfl rfl (by decide) (by decide) (by decide)
  refine s_aloadn dX4_init_130 rfl rfl ?_
  refine s_iconst (v := 5) dX4_init_131 (by decide) ?_
  refine s_newz (N := 5) (kd := 8) dX4_init_132 rfl (by decide) (by decide) (by decide) (by decide) (by decide) (fun p17 hp17 => ?_)
  have k17 : sK (sal _ p17 8 5) a = 5 := (up1_ne (fun e => by rw [← e, g16.2.1] at hp17; cases hp17)).trans g16.2.1
  refine s_putR (n := 83) dX4_init_134 rfl k17 (Or.inr ⟨rfl, rfl, rfl⟩) (fun _ _ _ => rfl) rfl rfl ?_
  have g17 := g16.arr ha (f := 22) (kd := 8) (n := 5) hp17 rfl rfl (by decide) (by decide) (by decide)
  refine s_aloadn dX4_init_137 rfl rfl ?_
  refine s_bipush (v := 12) dX4_init_138 (by decide) ?_
  refine s_newi (N := 12) (kd := 6) dX4_init_140 rfl (by decide) (by decide) (by decide) (by decide) (by decide) (fun p18 hp18 => ?_)
  have k18 : sK (sal _ p18 6 12) a = 5 := (up1_ne (fun e => by rw [← e, g17.2.1] at hp18; cases hp18)).trans g17.2.1
  refine s_putR (n := 85) dX4_init_142 rfl k18 (Or.inr ⟨rfl, rfl, rfl⟩) (fun _ _ _ => rfl) rfl rfl ?_
  have g18 := g17.arr ha (f := 24) (kd := 6) (n := 12) hp18 rfl rfl (by decide) (by decide) (by decide)
  refine s_aloadn dX4_init_145 rfl rfl ?_
  refine s_bipush (v := 12) dX4_init_146 (by decide) ?_
  refine s_newi (N := 12) (kd := 6) dX4_init_148 rfl (by decide) (by decide) (by decide) (by decide) (by decide) (fun p19 hp19 => ?_)
  have k19 : sK (sal _ p19 6 12) a = 5 := (up1_ne (fun e => by rw [← e, g18.2.1] at hp19; cases hp19)).trans g18.2.1
  refine s_putR (n := 86) dX4_init_150 rfl k19 (Or.inr ⟨rfl, rfl, rfl⟩) (fun _ _ _ => rfl) rfl rfl ?_
  have g19 := g18.arr ha (f := 25) (kd := 6) (n := 12) hp19 rfl rfl (by decide) (by decide) (by decide)
  refine s_aloadn dX4_init_153 rfl rfl ?_
  refine s_bipush (v := 12) dX4_init_154 (by decide) ?_
  refine s_newi (N := 12) (kd := 6) dX4_init_156 rfl (by decide) (by decide) (by decide) (by decide) (by decide) (fun p20 hp20 => ?_)
  have k20 : sK (sal _ p20 6 12) a = 5 := (up1_ne (fun e => by rw [← e, g19.2.1] at hp20; cases hp20)).trans g19.2.1
  refine s_putR (n := 87) dX4_init_158 rfl k20 (Or.inr ⟨rfl, rfl, rfl⟩) (fun _ _ _ => rfl) rfl rfl ?_
  have g20 := g19.arr ha (f := 26) (kd := 6) (n := 12) hp20 rfl rfl (by decide) (by decide) (by decide)
  refine s_aloadn dX4_init_161 rfl rfl ?_
  refine s_sipush (v := 480) dX4_init_162 (by decide) ?_
  refine s_newi (N := 480) (kd := 6) dX4_init_165 rfl (by decide) (by decide) (by decide) (by decide) (by decide) (fun p21 hp21 => ?_)
  have k21 : sK (sal _ p21 6 480) a = 5 := (up1_ne (fun e => by rw [← e, g20.2.1] at hp21; cases hp21)).trans g20.2.1
  refine s_putR (n := 88) dX4_init_167 rfl k21 (Or.inr ⟨rfl, rfl, rfl⟩) (fun _ _ _ => rfl) rfl rfl ?_
  have g21 := g20.arr ha (f := 27) (kd := 6) (n := 480) hp21 rfl rfl (by decide) (by decide) (by decide)
  refine s_aloadn dX4_init_170 rfl rfl ?_
  refine s_iconst (v := 5) dX4_init_171 (by decide) ?_
  refine s_newz (N := 5) (kd := 8) dX4_init_172 rfl (by decide) (by decide) (by decide) (by decide) (by decide) (fun p22 hp22 => ?_)
  have k22 : sK (sal _ p22 8 5) a = 5 := (up1_ne (fun e => by rw [← e, g21.2.1] at hp22; cases hp22)).trans g21.2.1
  refine s_putR (n := 89) dX4_init_174 rfl k22 (Or.inr ⟨rfl, rfl, rfl⟩) (fun _ _ _ => rfl) rfl rfl ?_
  have g22 := g21.arr ha (f := 28) (kd := 8) (n := 5) hp22 rfl rfl (by decide) (by decide) (by decide)
  refine s_aloadn dX4_init_177 rfl rfl ?_
  refine s_iconst (v := 5) dX4_init_178 (by decide) ?_
  refine s_newj (N := 5) (kd := 10) dX4_init_179 (Or.inr (Or.inl rfl)) (by decide) (by decide) (by decide) (by decide) (by decide) (fun p23 hp23 => ?_)
  have k23 : sK (sal _ p23 10 5) a = 5 := (up1_ne (fun e => by rw [← e, g22.2.1] at hp23; cases hp23)).trans g22.2.1
  refine s_putR (n := 90) dX4_init_181 rfl k23 (Or.inr ⟨rfl, rfl, rfl⟩) (fun _ _ _ => rfl) rfl rfl ?_
  have g23 := g22.arr ha (f := 29) (kd := 10) (n := 5) hp23 rfl rfl (by decide) (by decide) (by decide)
  refine s_aloadn dX4_init_184 rfl rfl ?_
  refine s_iconst (v := 5) dX4_init_185 (by decide) ?_
  refine s_newj (N := 5) (kd := 10) dX4_init_186 (Or.inr (Or.inl rfl)) (by decide) (by decide) (by decide) (by decide) (by decide) (fun p24 hp24 => ?_)
  have k24 : sK (sal _ p24 10 5) a = 5 := (up1_ne (fun e => by rw [← e, g23.2.1] at hp24; cases hp24)).trans g23.2.1
  refine s_putR (n := 91) dX4_init_188 rfl k24 (Or.inr ⟨rfl, rfl, rfl⟩) (fun _ _ _ => rfl) rfl rfl ?_
  have g24 := g23.arr ha (f := 30) (kd := 10) (n := 5) hp24 rfl rfl (by decide) (by decide) (by decide)
  refine s_aloadn dX4_init_191 rfl rfl ?_
  refine s_bipush (v := 10) dX4_init_192 (by decide) ?_
  refine s_newi (N := 10) (kd := 6) dX4_init_194 rfl (by decide) (by decide) (by decide) (by decide) (by decide) (fun p25 hp25 => ?_)
  have k25 : sK (sal _ p25 6 10) a = 5 := (up1_ne (fun e => by rw [← e, g24.2.1] at hp25; cases hp25)).trans g24.2.1
  refine s_putR (n := 93) dX4_init_196 rfl k25 (Or.inr ⟨rfl, rfl, rfl⟩) (fun _ _ _ => rfl) rfl rfl ?_
  have g25 := g24.arr ha (f := 32) (kd := 6) (n := 10) hp25 rfl rfl (by decide) (by decide) (by decide)
  refine s_aloadn dX4_init_199 rfl rfl ?_
  refine s_bipush (v := 10) dX4_init_200 (by decide) ?_
  refine s_newz (N := 10) (kd := 8) dX4_init_202 rfl (by decide) (by decide) (by decide) (by decide) (by decide) (fun p26 hp26 => ?_)
  have k26 : sK (sal _ p26 8 10) a = 5 := (up1_ne (fun e => by rw [← e, g25.2.1] at hp26; cases hp26)).trans g25.2.1
  refine s_putR (n := 94) dX4_init_204 rfl k26 (Or.inr ⟨rfl, rfl, rfl⟩) (fun _ _ _ => rfl) rfl rfl ?_
  have g26 := g25.arr ha (f := 33) (kd := 8) (n := 10) hp26 rfl rfl (by decide) (by decide) (by decide)
  refine s_aloadn dX4_init_207 rfl rfl ?_
  refine s_bipush (v := 8) dX4_init_208 (by decide) ?_
  refine s_newz (N := 8) (kd := 8) dX4_init_210 rfl (by decide) (by decide) (by decide) (by decide) (by decide) (fun p27 hp27 => ?_)
  have k27 : sK (sal _ p27 8 8) a = 5 := (up1_ne (fun e => by rw [← e, g26.2.1] at hp27; cases hp27)).trans g26.2.1
  refine s_putR (n := 98) dX4_init_212 rfl k27 (Or.inr ⟨rfl, rfl, rfl⟩) (fun _ _ _ => rfl) rfl rfl ?_
  have g27 := g26.arr ha (f := 37) (kd := 8) (n := 8) hp27 rfl rfl (by decide) (by decide) (by decide)
  exact s_retv dX4_init_215 rfl ⟨rfl, _, rfl, g27.done (by decide), fun b hb => g27.1 b (fun e => by rw [e] at hb; revert hb; decide)⟩