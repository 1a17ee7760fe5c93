/-! THE ABSTRACT MACHINE, 5: rules of the heap -/
def TT : Nat → u_T
  | 0 => TJx4a65c
  | 1 => TX0
  | 2 => TX1
  | 3 => TX2
  | 4 => TX3
  | _ => TX2
theorem TT_at {ci : Nat} {r : vw_C} (h : vwCl[ci]? = some r) : r.2.1 = TT ci := by
  match ci, h with
  | 0, h => cases h; rfl
  | 1, h => cases h; rfl
  | 2, h => cases h; rfl
  | 3, h => cases h; rfl
  | 4, h => cases h; rfl
  | 5, h => cases h; rfl
  | _ + 6, h => exact absurd (vwCl_at h) (by omega)
def okput (S S1 : Sto) (ci a k : Nat) (v : Value) : Prop := sK S1 = sK S ∧ sN S1 = sN S ∧ (∀ b, b ≠ a → sI S1 b = sI S b) ∧ (∀ b, b ≠ a → sJ S1 b = sJ S b) ∧ (∀ b, b ≠ a → sR S1 b = sR S b) ∧ fv S1 ci a k = v ∧ ∀ j, j ≠ k → fv S1 ci a j = fv S ci a j
theorem okput_I {S : Sto} {ci a k : Nat} {x : Int32} (h : ∀ i j r, fvt (tyOf ci k) i j r = .int i) : okput S (uI S a k x) ci a k (.int x) := by
  refine ⟨rfl, rfl, fun b hb => up2_ne hb, fun _ _ => rfl, fun _ _ => rfl, ?_, fun j hj => ?_⟩
  · simp only [fv, h, sI, sJ, sR, uI, uJ, uR, up2_self]
  · simp only [fv, sI, sJ, sR, uI, uJ, uR, up2_k hj]
theorem okput_J {S : Sto} {ci a k : Nat} {x : Int64} (h : ∀ i j r, fvt (tyOf ci k) i j r = .long j) : okput S (uJ S a k x) ci a k (.long x) := by
  refine ⟨rfl, rfl, fun _ _ => rfl, fun b hb => up2_ne hb, fun _ _ => rfl, ?_, fun j hj => ?_⟩
  · simp only [fv, h, sI, sJ, sR, uI, uJ, uR, up2_self]
  · simp only [fv, sI, sJ, sR, uI, uJ, uR, up2_k hj]
theorem okput_R {S : Sto} {ci a k : Nat} {x : Option Nat} (h : ∀ i j r, fvt (tyOf ci k) i j r = va_rf r) : okput S (uR S a k x) ci a k (va_rf x) := by
  refine ⟨rfl, rfl, fun _ _ => rfl, fun _ _ => rfl, fun b hb => up2_ne hb, ?_, fun j hj => ?_⟩
  · simp only [fv, h, sI, sJ, sR, uI, uJ, uR, up2_self]
  · simp only [fv, sI, sJ, sR, uI, uJ, uR, up2_k hj]
theorem up2_upd {f : Nat → Nat → Int32} {a k : Nat} {x : Int32} : up2 f a k x a = upd (f a) k x := by
  funext j
  simp [up2, upd]
theorem up2_updL {f : Nat → Nat → Int64} {a k : Nat} {x : Int64} : up2 f a k x a = vp_updL (f a) k x := by
  funext j
  simp [up2, vp_updL]
theorem up2_updR {f : Nat → Nat → Option Nat} {a k : Nat} {x : Option Nat} : up2 f a k x a = va_up (f a) k x := by
  funext j
  simp [up2, va_up]
theorem sK_sal {S : Sto} {a kd n : Nat} : sK (sal S a kd n) a = kd := up1_self
theorem sN_sal {S : Sto} {a kd n : Nat} : sN (sal S a kd n) a = n := up1_self
theorem sI_sal {S : Sto} {a kd n : Nat} : sI (sal S a kd n) a = fun _ => 0 := upr_self
theorem sJ_sal {S : Sto} {a kd n : Nat} : sJ (sal S a kd n) a = fun _ => 0 := upr_self
theorem sR_sal {S : Sto} {a kd n : Nat} : sR (sal S a kd n) a = fun _ => none := upr_self
theorem fvs_sal {S : Sto} {a kd n ci : Nat} : fvs (sal S a kd n) ci a = (List.range (nOf ci)).map (fun k => fvt (tyOf ci k) 0 0 none) := by
  have e : fv (sal S a kd n) ci a = fun k => fvt (tyOf ci k) 0 0 none := funext fun k => by
    simp only [fv, sI_sal, sJ_sal, sR_sal]
  simp only [fvs, e]
theorem ent_i {cy : Nat → ClassId} {S : Sto} {a : Nat} (k : sK S a = 6) : ent cy S a = .inl (cy 0, sN S a, .inl (sI S a)) := by
  rw [ent_arr (by omega)]
  simp only [k, aty, acont]
  rfl
theorem ent_z {cy : Nat → ClassId} {S : Sto} {a : Nat} (k : sK S a = 8) : ent cy S a = .inl (cy 2, sN S a, .inl (sI S a)) := by
  rw [ent_arr (by omega)]
  simp only [k, aty, acont]
  rfl
theorem ent_l {cy : Nat → ClassId} {S : Sto} {a : Nat} (k : sK S a = 7 ∨ sK S a = 10 ∨ sK S a = 11) : ent cy S a = .inl (cy 1, sN S a, .inr (.inl (sJ S a))) := by
  rw [ent_arr (by omega)]
  rcases k with k | k | k <;> · simp only [k, aty, acont]; rfl
theorem ent_q {cy : Nat → ClassId} {S : Sto} {a : Nat} (k : sK S a = 9) : ent cy S a = .inl (cy 3, sN S a, .inr (.inr (.inr (.inr (sR S a))))) := by
  rw [ent_arr (by omega)]
  simp only [k, aty, acont]
  rfl
section Rules
variable {p : Program} {l : Launch} {e : Env} {R : Room} {s : State} {m : MethodId} {args : Array Value} {below : List Frame} {meth : Method} {c : Code}
variable {D : va_G} {cy : Nat → ClassId} {tm : Nat × Nat} {M : MT} {S0 : Sto} {Q : Out → Sto → Prop} {QF : State → Prop}

def rl_get (tm : Nat × Nat) (M : MT) (Q : Out → Sto → Prop) (P : Wt) : Prop := ∀ (pc : Nat) (lo : Lv) (st : List Value) (bc bs : Nat) (S : Sto), ∀ (idx n a ci k : Nat) (ref : String) (v : Value), decode (mB M) pc = .ok (.getfield idx, 3) → lkF[n]? = some ((mY M).cls, idx, ref, ci, k) → sK S a = ci → fv S ci a k = v → P (pc + 3) lo (v :: st) bc bs S → P pc lo (.ref a :: st) bc bs S
theorem sn_get (C : Wk p l e R s m args below meth c D cy tm M S0 Q QF) : rl_get tm M Q (Pw p l e R s m args below meth c D cy M S0 QF) := by
  intro pc lo st bc bs S
  intro idx n a ci k ref v hd hn hk hv kk H locs cells slots ls hW hA hS hl hc hs
  have hq := lkF_ok _ (List.mem_of_getElem? hn)
  dsimp only [okF] at hq
  obtain ⟨⟨C1, T1, N1⟩, hr, hkN, hw, hsm⟩ := hq
  dsimp only at hkN hw hsm
  have hTT := TT_at hr
  dsimp only at hTT
  obtain ⟨c1, c2, c3, c4, c5, c6, c7⟩ := okC_at hr
  dsimp only at c1 c2 c3 c4 c5 c6 c7
  have h6 := vwCl_at hr
  have hsame : ∀ x, s.fieldFound? (T1 k).1 (T1 k).2.1 (T1 k).2.2.1 = some x → s.fieldFound? ref (T1 k).2.1 (T1 k).2.2.1 = some x := fun x hx => by
    rcases hsm with e | e
    · rw [e]; exact hx
    · exact u_same (C.1.2.2.2.2 _ e) x hx
  have hP := hW.one (a := a) (by omega)
  rw [ent_obj hk h6] at hP
  refine va_get (D := D) (cl := vwCl) (ci := ci) (v := v) (C := C1) (T := T1) (N := N1) C.1.1 C.1.2.1 C.1.2.2.2.2 c1 C.1.2.2.2.1 C.2.2.1 hP 0 rfl hr k hkN (C.1.2.2.2.2 _ hw) hsame ?_ hd (kk H locs cells slots ls hW hA hS hl hc hs)
  rw [fvs_get (by rw [← c4]; exact hkN), hv]
def rl_put (tm : Nat × Nat) (M : MT) (Q : Out → Sto → Prop) (P : Wt) : Prop := ∀ (pc : Nat) (lo : Lv) (st : List Value) (bc bs : Nat) (S : Sto), ∀ (idx n a ci k : Nat) (ref : String) (v : Value) (S1 : Sto), decode (mB M) pc = .ok (.putfield idx, 3) → lkF[n]? = some ((mY M).cls, idx, ref, ci, k) → sK S a = ci → ((TT ci k).2.2.2 = false ∨ ((TT ci k).2.2.2 = true ∧ (mY M).name = "<init>" ∧ (TT ci k).1 = (mY M).cls)) → narrow (tyOf ci k) v = v → fits (tyOf ci k) v = true → okput S S1 ci a k v → P (pc + 3) lo st bc bs S1 → P pc lo (v :: .ref a :: st) bc bs S
theorem sn_put (C : Wk p l e R s m args below meth c D cy tm M S0 Q QF) : rl_put tm M Q (Pw p l e R s m args below meth c D cy M S0 QF) := by
  intro pc lo st bc bs S
  intro idx n a ci k ref v S1 hd hn hk hfin hnw hft hok kk H locs cells slots ls hW hA hS hl hc hs
  have hq := lkF_ok _ (List.mem_of_getElem? hn)
  dsimp only [okF] at hq
  obtain ⟨⟨C1, T1, N1⟩, hr, hkN, hw, hsm⟩ := hq
  dsimp only at hkN hw hsm
  have hTT := TT_at hr
  dsimp only at hTT
  obtain ⟨c1, c2, c3, c4, c5, c6, c7⟩ := okC_at hr
  dsimp only at c1 c2 c3 c4 c5 c6 c7
  have h6 := vwCl_at hr
  have hsame : ∀ x, s.fieldFound? (T1 k).1 (T1 k).2.1 (T1 k).2.2.1 = some x → s.fieldFound? ref (T1 k).2.1 (T1 k).2.2.1 = some x := fun x hx => by
    rcases hsm with e | e
    · rw [e]; exact hx
    · exact u_same (C.1.2.2.2.2 _ e) x hx
  obtain ⟨w1, w2, w3, w4, w5, w6, w7⟩ := hok
  have h11 : sK S a ≤ 11 := by omega
  obtain ⟨j, hj⟩ := plW_at (cy := cy) (hW.lt (a := a) (by omega)) h11
  have hj' := hj
  rw [ent_obj hk h6] at hj'
  have hkn : k < nOf ci := by rw [← c4]; exact hkN
  have eS := fvs_set (S := S) hkn w6 w7
  have fin : ∀ (H1 : Heap) (locs1 : List Loc), va_P D vwCl ((plW cy S H.size).set j (a, .inr (ci, (fvs S ci a).set k v))) H1 → va_S (cA S0 s.heap.size) s.heap H1 locs1 → W p l e R s m args below meth c H1 locs1 cells slots QF (F0 m (pc + 3) ls st) := by
    intro H1 locs1 hP1 hS1
    rw [eS, ← ent_obj (cy := cy) (S := S1) (by rw [w1]; exact hk) h6] at hP1
    exact kk H1 locs1 cells slots ls (WS.put C.2.2.2.2.1 hW hA hS hS1 h11 hj w1 w2 w3 w4 w5 hP1) (hA.tr (Af.alike w1) (Nat.le_refl _)) hS1 hl hc hs
  rcases hfin with f | ⟨f, f1, f2⟩
  · exact va_put (D := D) (cl := vwCl) (ci := ci) (v := v) (ty := tyOf ci k) (C := C1) (T := T1) (N := N1) C.1.1 C.1.2.1 C.1.2.2.2.2 c1 (tyOf ci) c2 c3 C.1.2.2.2.1 C.2.2.1 hW.P (hW.D hA) hS j hj' hr k hkN (C.1.2.2.2.2 _ hw) hsame (by rw [hTT]; exact f) (c2 k hkN) hnw hft (by rw [fvs_len]; exact hkn) hd (fun H1 locs1 hP1 _ hS1 => fin H1 locs1 hP1 hS1)
  · exact va_putF (D := D) (cl := vwCl) (ci := ci) (v := v) (ty := tyOf ci k) (C := C1) (T := T1) (N := N1) C.1.1 C.1.2.1 C.1.2.2.2.2 c1 (tyOf ci) c2 c3 C.1.2.2.2.1 C.2.2.1 hW.P (hW.D hA) hS j hj' hr k hkN (C.1.2.2.2.2 _ hw) hsame (by rw [hTT]; exact f) (C.2.2.2.2.2.2.1 f1) (by rw [hTT]; exact f2) (c2 k hkN) hnw hft (by rw [fvs_len]; exact hkn) hd (fun H1 locs1 hP1 _ hS1 => fin H1 locs1 hP1 hS1)
def rl_iald (tm : Nat × Nat) (M : MT) (Q : Out → Sto → Prop) (P : Wt) : Prop := ∀ (pc : Nat) (lo : Lv) (st : List Value) (bc bs : Nat) (S : Sto), ∀ (a : Nat) (i : Int32), decode (mB M) pc = .ok (.iaload, 1) → (sK S a = 6) → vp_in i (sN S a) → P (pc + 1) lo (.int (sI S a i.toNatClampNeg) :: st) bc bs S → P pc lo (.int i :: .ref a :: st) bc bs S
theorem sn_iald (C : Wk p l e R s m args below meth c D cy tm M S0 Q QF) : rl_iald tm M Q (Pw p l e R s m args below meth c D cy M S0 QF) := by
  intro pc lo st bc bs S
  intro a i hd hk hi kk H locs cells slots ls hW hA hS hl hc hs
  have hP := hW.one (a := a) (by omega)
  have e : ent cy S a = .inl (cy 0, sN S a, .inl (sI S a)) := ent_i hk
  rw [e] at hP
  exact va_iald (D := D) (cl := vwCl) C.1.1 C.1.2.1 C.2.2.1 hP 0 0 rfl rfl hi hd (kk H locs cells slots ls hW hA hS hl hc hs)
def rl_lald (tm : Nat × Nat) (M : MT) (Q : Out → Sto → Prop) (P : Wt) : Prop := ∀ (pc : Nat) (lo : Lv) (st : List Value) (bc bs : Nat) (S : Sto), ∀ (a : Nat) (i : Int32), decode (mB M) pc = .ok (.laload, 1) → (sK S a = 7 ∨ sK S a = 10 ∨ sK S a = 11) → vp_in i (sN S a) → P (pc + 1) lo (.long (sJ S a i.toNatClampNeg) :: st) bc bs S → P pc lo (.int i :: .ref a :: st) bc bs S
theorem sn_lald (C : Wk p l e R s m args below meth c D cy tm M S0 Q QF) : rl_lald tm M Q (Pw p l e R s m args below meth c D cy M S0 QF) := by
  intro pc lo st bc bs S
  intro a i hd hk hi kk H locs cells slots ls hW hA hS hl hc hs
  have hP := hW.one (a := a) (by omega)
  have e : ent cy S a = .inl (cy 1, sN S a, .inr (.inl (sJ S a))) := ent_l hk
  rw [e] at hP
  exact va_lald (D := D) (cl := vwCl) C.1.1 C.1.2.1 C.2.2.1 hP 0 1 rfl rfl hi hd (kk H locs cells slots ls hW hA hS hl hc hs)
def rl_aald (tm : Nat × Nat) (M : MT) (Q : Out → Sto → Prop) (P : Wt) : Prop := ∀ (pc : Nat) (lo : Lv) (st : List Value) (bc bs : Nat) (S : Sto), ∀ (a : Nat) (i : Int32), decode (mB M) pc = .ok (.aaload, 1) → (sK S a = 9) → vp_in i (sN S a) → P (pc + 1) lo (va_rf (sR S a i.toNatClampNeg) :: st) bc bs S → P pc lo (.int i :: .ref a :: st) bc bs S
theorem sn_aald (C : Wk p l e R s m args below meth c D cy tm M S0 Q QF) : rl_aald tm M Q (Pw p l e R s m args below meth c D cy M S0 QF) := by
  intro pc lo st bc bs S
  intro a i hd hk hi kk H locs cells slots ls hW hA hS hl hc hs
  have hP := hW.one (a := a) (by omega)
  have e : ent cy S a = .inl (cy 3, sN S a, .inr (.inr (.inr (.inr (sR S a))))) := ent_q hk
  rw [e] at hP
  exact va_aldq (D := D) (cl := vwCl) C.1.1 C.1.2.1 C.2.2.1 hP 0 3 rfl rfl hi hd (kk H locs cells slots ls hW hA hS hl hc hs)
def rl_sald (tm : Nat × Nat) (M : MT) (Q : Out → Sto → Prop) (P : Wt) : Prop := ∀ (pc : Nat) (lo : Lv) (st : List Value) (bc bs : Nat) (S : Sto), ∀ (a : Nat) (i : Int32), decode (mB M) pc = .ok (.iaload, 1) → sK S a = 12 → vp_in i (sN S a) → P (pc + 1) lo (.int (sI S a i.toNatClampNeg) :: st) bc bs S → P pc lo (.int i :: .ref a :: st) bc bs S
theorem sn_sald (C : Wk p l e R s m args below meth c D cy tm M S0 Q QF) : rl_sald tm M Q (Pw p l e R s m args below meth c D cy M S0 QF) := by
  intro pc lo st bc bs S
  intro a i hd hk hi kk H locs cells slots ls hW hA hS hl hc hs
  obtain ⟨scr, h1, h2, h3, h4, h5⟩ := (hW a).2.1 hk
  have hlt : i.toNatClampNeg < sN S a := Nat.not_le.mp fun q => hi (Or.inr q)
  exact W.iald (v := .int (sI S a i.toNatClampNeg)) C.1.1 C.1.2.1 h1 h2 h3 (by rw [h4]; exact hi) (h5 _ hlt) rfl rfl hd (kk H locs cells slots ls hW hA hS hl hc hs)
def rl_slen (tm : Nat × Nat) (M : MT) (Q : Out → Sto → Prop) (P : Wt) : Prop := ∀ (pc : Nat) (lo : Lv) (st : List Value) (bc bs : Nat) (S : Sto), ∀ (a : Nat), decode (mB M) pc = .ok (.arraylength, 1) → sK S a = 12 → P (pc + 1) lo (.int (Int32.ofNat (sN S a)) :: st) bc bs S → P pc lo (.ref a :: st) bc bs S
theorem sn_slen (C : Wk p l e R s m args below meth c D cy tm M S0 Q QF) : rl_slen tm M Q (Pw p l e R s m args below meth c D cy M S0 QF) := by
  intro pc lo st bc bs S
  intro a hd hk kk H locs cells slots ls hW hA hS hl hc hs
  obtain ⟨scr, h1, h2, h3, h4, h5⟩ := (hW a).2.1 hk
  exact W.alen (n := Int32.ofNat (sN S a)) C.1.1 C.1.2.1 h1 h2 (by rw [h4] <;> rfl) rfl rfl hd (kk H locs cells slots ls hW hA hS hl hc hs)
def rl_elen (tm : Nat × Nat) (M : MT) (Q : Out → Sto → Prop) (P : Wt) : Prop := ∀ (pc : Nat) (lo : Lv) (st : List Value) (bc bs : Nat) (S : Sto), ∀ (a : Nat), decode (mB M) pc = .ok (.arraylength, 1) → sK S a = 13 → P (pc + 1) lo (.int 0 :: st) bc bs S → P pc lo (.ref a :: st) bc bs S
theorem sn_elen (C : Wk p l e R s m args below meth c D cy tm M S0 Q QF) : rl_elen tm M Q (Pw p l e R s m args below meth c D cy M S0 QF) := by
  intro pc lo st bc bs S
  intro a hd hk kk H locs cells slots ls hW hA hS hl hc hs
  obtain ⟨cell, h1, h2, h3⟩ := (hW a).2.2.1 hk
  exact W.alen (n := 0) C.1.1 C.1.2.1 h1 h2 (by rw [h3] <;> rfl) rfl rfl hd (kk H locs cells slots ls hW hA hS hl hc hs)
def rl_alen (tm : Nat × Nat) (M : MT) (Q : Out → Sto → Prop) (P : Wt) : Prop := ∀ (pc : Nat) (lo : Lv) (st : List Value) (bc bs : Nat) (S : Sto), ∀ (a : Nat), decode (mB M) pc = .ok (.arraylength, 1) → 6 ≤ sK S a → sK S a ≤ 11 → P (pc + 1) lo (.int (Int32.ofNat (sN S a)) :: st) bc bs S → P pc lo (.ref a :: st) bc bs S
theorem sn_alen (C : Wk p l e R s m args below meth c D cy tm M S0 Q QF) : rl_alen tm M Q (Pw p l e R s m args below meth c D cy M S0 QF) := by
  intro pc lo st bc bs S
  intro a hd hk hk1 kk H locs cells slots ls hW hA hS hl hc hs
  have hP := hW.one hk1
  rw [ent_arr hk] at hP
  have ht : ∃ ty, (tysOf cy)[aty (sK S a)]? = some (cy (aty (sK S a)), ty) := by
    unfold aty
    split
    · exact ⟨_, rfl⟩
    · split
      · exact ⟨_, rfl⟩
      · split <;> exact ⟨_, rfl⟩
  obtain ⟨ty, ht⟩ := ht
  exact va_alen (D := D) (cl := vwCl) C.1.1 C.1.2.1 C.2.2.1 hP 0 (aty (sK S a)) rfl ht rfl hd (kk H locs cells slots ls hW hA hS hl hc hs)
def rl_iast (tm : Nat × Nat) (M : MT) (Q : Out → Sto → Prop) (P : Wt) : Prop := ∀ (pc : Nat) (lo : Lv) (st : List Value) (bc bs : Nat) (S : Sto), ∀ (a : Nat) (i : Int32) (x : Int32), decode (mB M) pc = .ok (.iastore, 1) → (sK S a = 6) → vp_in i (sN S a) → P (pc + 1) lo st bc bs (uI S a i.toNatClampNeg x) → P pc lo (.int x :: .int i :: .ref a :: st) bc bs S
theorem sn_iast (C : Wk p l e R s m args below meth c D cy tm M S0 Q QF) : rl_iast tm M Q (Pw p l e R s m args below meth c D cy M S0 QF) := by
  intro pc lo st bc bs S
  intro a i x hd hk hi kk H locs cells slots ls hW hA hS hl hc hs
  have h11 : sK S a ≤ 11 := by omega
  obtain ⟨j, hj⟩ := plW_at (cy := cy) (hW.lt (a := a) (by omega)) h11
  have hj' := hj
  have e : ent cy S a = .inl (cy 0, sN S a, .inl (sI S a)) := ent_i hk
  have e1 : ent cy (uI S a i.toNatClampNeg x) a = .inl (cy 0, sN S a, .inl (upd (sI S a) i.toNatClampNeg x)) := (ent_i (S := uI S a i.toNatClampNeg x) hk).trans (congrArg (fun z => (Sum.inl (cy 0, sN S a, .inl z) : va_E)) up2_upd)
  rw [e] at hj'
  refine va_iast (D := D) (cl := vwCl) C.1.1 C.1.2.1 C.2.2.1 hW.P (hW.D hA) hS j 0 hj' rfl hi hd (fun H1 locs1 hP1 _ hS1 => ?_)
  rw [← e1] at hP1
  exact kk H1 locs1 cells slots ls (WS.put C.2.2.2.2.1 hW hA hS hS1 h11 hj rfl rfl (fun b hb => up2_ne hb) (fun b hb => rfl) (fun b hb => rfl) hP1) (hA.tr (Af.alike rfl) (Nat.le_refl _)) hS1 hl hc hs
def rl_last (tm : Nat × Nat) (M : MT) (Q : Out → Sto → Prop) (P : Wt) : Prop := ∀ (pc : Nat) (lo : Lv) (st : List Value) (bc bs : Nat) (S : Sto), ∀ (a : Nat) (i : Int32) (x : Int64), decode (mB M) pc = .ok (.lastore, 1) → (sK S a = 7 ∨ sK S a = 10 ∨ sK S a = 11) → vp_in i (sN S a) → P (pc + 1) lo st bc bs (uJ S a i.toNatClampNeg x) → P pc lo (.long x :: .int i :: .ref a :: st) bc bs S
theorem sn_last (C : Wk p l e R s m args below meth c D cy tm M S0 Q QF) : rl_last tm M Q (Pw p l e R s m args below meth c D cy M S0 QF) := by
  intro pc lo st bc bs S
  intro a i x hd hk hi kk H locs cells slots ls hW hA hS hl hc hs
  have h11 : sK S a ≤ 11 := by omega
  obtain ⟨j, hj⟩ := plW_at (cy := cy) (hW.lt (a := a) (by omega)) h11
  have hj' := hj
  have e : ent cy S a = .inl (cy 1, sN S a, .inr (.inl (sJ S a))) := ent_l hk
  have e1 : ent cy (uJ S a i.toNatClampNeg x) a = .inl (cy 1, sN S a, .inr (.inl (vp_updL (sJ S a) i.toNatClampNeg x))) := (ent_l (S := uJ S a i.toNatClampNeg x) hk).trans (congrArg (fun z => (Sum.inl (cy 1, sN S a, .inr (.inl z)) : va_E)) up2_updL)
  rw [e] at hj'
  refine va_last (D := D) (cl := vwCl) C.1.1 C.1.2.1 C.2.2.1 hW.P (hW.D hA) hS j 1 hj' rfl hi hd (fun H1 locs1 hP1 _ hS1 => ?_)
  rw [← e1] at hP1
  exact kk H1 locs1 cells slots ls (WS.put C.2.2.2.2.1 hW hA hS hS1 h11 hj rfl rfl (fun b hb => rfl) (fun b hb => up2_ne hb) (fun b hb => rfl) hP1) (hA.tr (Af.alike rfl) (Nat.le_refl _)) hS1 hl hc hs
theorem ent_obj_at {cy : Nat → ClassId} {S : Sto} {n v : Nat} {kx : Nat} (hx : (plW cy S n)[kx]? = some (v, ent cy S v)) {ci : Nat} (k : sK S v = ci) (h : ci < 6) : (plW cy S n)[kx]? = some (v, .inr (ci, fvs S ci v)) := by
  rw [← ent_obj k h]
  exact hx
set_option maxRecDepth 20000 in
theorem cast_1 : Cond.castable RX0 "java/lang/Object" ∈ UW := uw (i := 819) rfl rfl
set_option maxRecDepth 20000 in
theorem cast_2 : Cond.castable RX1 "java/lang/Object" ∈ UW := uw (i := 821) rfl rfl
set_option maxRecDepth 20000 in
theorem cast_3 : Cond.castable RX2 "java/lang/Object" ∈ UW := uw (i := 822) rfl rfl
theorem cast_at {ci : Nat} {r : vw_C} (h : vwCl[ci]? = some r) (h1 : 1 ≤ ci) (h3 : ci ≤ 3) : Cond.castable r.1 "java/lang/Object" ∈ UW := by
  match ci, h, h1, h3 with
  | 1, h, _, _ => cases h; exact cast_1
  | 2, h, _, _ => cases h; exact cast_2
  | 3, h, _, _ => cases h; exact cast_3
theorem vwCl_get {ci : Nat} (h : ci < 6) : ∃ r, vwCl[ci]? = some r := by
  match ci, h with
  | 0, _ => exact ⟨_, rfl⟩
  | 1, _ => exact ⟨_, rfl⟩
  | 2, _ => exact ⟨_, rfl⟩
  | 3, _ => exact ⟨_, rfl⟩
  | 4, _ => exact ⟨_, rfl⟩
  | 5, _ => exact ⟨_, rfl⟩
  | _ + 6, h => exact absurd h (by omega)
def rl_aast (tm : Nat × Nat) (M : MT) (Q : Out → Sto → Prop) (P : Wt) : Prop := ∀ (pc : Nat) (lo : Lv) (st : List Value) (bc bs : Nat) (S : Sto), ∀ (a v : Nat) (i : Int32), decode (mB M) pc = .ok (.aastore, 1) → sK S a = 9 → 1 ≤ sK S v → sK S v ≤ 3 → vp_in i (sN S a) → P (pc + 1) lo st bc bs (uR S a i.toNatClampNeg (some v)) → P pc lo (.ref v :: .int i :: .ref a :: st) bc bs S
theorem sn_aast (C : Wk p l e R s m args below meth c D cy tm M S0 Q QF) : rl_aast tm M Q (Pw p l e R s m args below meth c D cy M S0 QF) := by
  intro pc lo st bc bs S
  intro a v i hd hk hv1 hv3 hi kk H locs cells slots ls hW hA hS hl hc hs
  have h11 : sK S a ≤ 11 := by omega
  obtain ⟨j, hj⟩ := plW_at (cy := cy) (hW.lt (a := a) (by omega)) h11
  obtain ⟨jv, hjv⟩ := plW_at (cy := cy) (hW.lt (a := v) (by omega)) (show sK S v ≤ 11 by omega)
  have hjv' := ent_obj_at hjv rfl (by omega)
  obtain ⟨r, hr⟩ := vwCl_get (ci := sK S v) (by omega)
  have hj' := hj
  have e : ent cy S a = .inl (cy 3, sN S a, .inr (.inr (.inr (.inr (sR S a))))) := ent_q hk
  have e1 : ent cy (uR S a i.toNatClampNeg (some v)) a = .inl (cy 3, sN S a, .inr (.inr (.inr (.inr (va_up (sR S a) i.toNatClampNeg (some v)))))) := (ent_q (S := uR S a i.toNatClampNeg (some v)) hk).trans (congrArg (fun z => (Sum.inl (cy 3, sN S a, .inr (.inr (.inr (.inr z)))) : va_E)) up2_updR)
  rw [e] at hj'
  refine va_astqO (D := D) (cl := vwCl) (E := "java/lang/Object") C.1.1 C.1.2.1 C.2.2.1 hW.P (hW.D hA) hS j 3 jv (sK S v) hj' rfl (va_Nw.of rfl (C.1.2.2.2.2 _ (cast_at hr hv1 hv3))) hjv' hr hi hd (fun H1 locs1 hP1 _ hS1 => ?_)
  rw [← e1] at hP1
  exact kk H1 locs1 cells slots ls (WS.put C.2.2.2.2.1 hW hA hS hS1 h11 hj rfl rfl (fun b hb => rfl) (fun b hb => rfl) (fun b hb => up2_ne hb) hP1) (hA.tr (Af.alike rfl) (Nat.le_refl _)) hS1 hl hc hs
theorem new_at {D : va_G} {cy : Nat → ClassId} {s : State} {S0 S : Sto} {H : Heap} {q : Nat} {x : va_E} (h0 : WS D cy s S0 s.heap) (hW : WS D cy s S H) (hA : Af S0 S s.heap.size) (hD1 : va_D (cA S0 s.heap.size) (plW cy S H.size ++ [(q, x)])) : sK S q = 99 ∧ s.heap.size ≤ q := by
  have hqq := hD1.2 (plW cy S H.size).length (q, x) (by simp)
  have hz : sK S q = 99 := Classical.byContradiction fun hz => by
    by_cases h11 : sK S q ≤ 11
    · obtain ⟨j, hj⟩ := plW_at (cy := cy) (hW.lt hz) h11
      have l1 := (List.getElem?_eq_some_iff.mp hj).1
      have e := hD1.1 j (plW cy S H.size).length (q, ent cy S q) (q, x) (by rw [List.getElem?_append_left l1]; exact hj) (by simp) rfl
      omega
    · have e : sK S0 q ≠ 99 := fun e => by
        have := ((hA q).2 e hz).2
        omega
      have hlt := h0.lt e
      rcases hqq with hq | hq
      · have := (hA q).1 e
        have hq' : sK S0 q ≤ 11 := hq
        omega
      · exact absurd hlt (Nat.not_lt.mpr hq)
  refine ⟨hz, ?_⟩
  rcases hqq with hq | hq
  · have hq' : sK S0 q ≤ 11 := hq
    have e := (hA q).1 (by omega)
    omega
  · exact hq
def rl_new (tm : Nat × Nat) (M : MT) (Q : Out → Sto → Prop) (P : Wt) : Prop := ∀ (pc : Nat) (lo : Lv) (st : List Value) (bc bs : Nat) (S : Sto), ∀ (idx n ci : Nat), decode (mB M) pc = .ok (.new idx, 3) → lkC[n]? = some ((mY M).cls, idx, ci) → 1 ≤ bc → nOf ci ≤ bs → (∀ a, sK S a = 99 → P (pc + 3) lo (.ref a :: st) (bc - 1) (bs - nOf ci) (sal S a ci 0)) → P pc lo st bc bs S
theorem sn_new (C : Wk p l e R s m args below meth c D cy tm M S0 Q QF) : rl_new tm M Q (Pw p l e R s m args below meth c D cy M S0 QF) := by
  intro pc lo st bc bs S
  intro idx n ci hd hn hb1 hb2 kk H locs cells slots ls hW hA hS hl hc hs
  have hq := lkC_ok _ (List.mem_of_getElem? hn)
  dsimp only [okCl] at hq
  obtain ⟨⟨C1, T1, N1⟩, hr, hw⟩ := hq
  dsimp only at hw
  obtain ⟨c1, c2, c3, c4, c5, c6, c7⟩ := okC_at hr
  dsimp only at c1 c2 c3 c4 c5 c6 c7
  have h6 := vwCl_at hr
  refine va_new (D := D) (cl := vwCl) (ci := ci) (fs := (List.range (nOf ci)).map (fun k => fvt (tyOf ci k) 0 0 none)) (C := C1) (T := T1) (N := N1) C.1.1 C.1.2.1 C.1.2.2.2.2 c1 (tyOf ci) c2 C.1.2.2.2.1 (C.1.2.2.2.2 _ hw) (C.1.2.2.2.2 _ c5) (C.1.2.2.2.2 _ c6) C.2.2.1 hW.P (hW.D hA) hS (fun q h => Or.inr h) hr (fun j hj => ?_) (by omega) (by omega) hd (fun q H1 hP1 hD1 hS1 => ?_)
  · rw [c7 j hj]
    simp [vp_V, List.getD, ← c4, hj]
  · obtain ⟨hz, hq⟩ := new_at C.2.2.2.2.1 hW hA hD1
    have e1 : ent cy (sal S q ci 0) q = .inr (ci, (List.range (nOf ci)).map (fun k => fvt (tyOf ci k) 0 0 none)) := by
      rw [ent_obj (ci := ci) sK_sal h6, fvs_sal]
    rw [← e1] at hP1
    obtain ⟨g1, g2⟩ := WS.new (S1 := sal S q ci 0) C.2.2.2.2.1 hW hA hS hS1 hz hq (by rw [sK_sal]; omega) (fun b hb => up1_ne hb) (fun b hb => up1_ne hb) (fun b hb => upr_ne hb) (fun b hb => upr_ne hb) (fun b hb => upr_ne hb) hP1
    exact kk q hz H1 locs (cells + 1) (slots + N1) ls g1 g2 hS1 hl (by omega) (by rw [c4]; omega)
set_option maxRecDepth 20000 in
theorem arrw_int : Cond.arrayClass .int ∈ UW := uw (i := 813) rfl rfl
set_option maxRecDepth 20000 in
theorem arrw_long : Cond.arrayClass .long ∈ UW := uw (i := 392) rfl rfl
def rl_newi (tm : Nat × Nat) (M : MT) (Q : Out → Sto → Prop) (P : Wt) : Prop := ∀ (pc : Nat) (lo : Lv) (st : List Value) (bc bs : Nat) (S : Sto), ∀ (n : Int32) (N kd : Nat), decode (mB M) pc = .ok (.newarray .int, 2) → (kd = 6) → ¬ n < 0 → n.toNatClampNeg = N → N ≤ 1000 → 1 ≤ bc → N ≤ bs → (∀ a, sK S a = 99 → P (pc + 2) lo (.ref a :: st) (bc - 1) (bs - N) (sal S a kd N)) → P pc lo (.int n :: st) bc bs S
theorem sn_newi (C : Wk p l e R s m args below meth c D cy tm M S0 Q QF) : rl_newi tm M Q (Pw p l e R s m args below meth c D cy M S0 QF) := by
  intro pc lo st bc bs S
  intro n N kd hd hkd h0 hN hN1 hb1 hb2 kk H locs cells slots ls hW hA hS hl hc hs
  refine va_newa (D := D) (cl := vwCl) (atype := .int) (ty := .int) (a0 := (N, (.inl (fun _ => 0)))) C.1.1 C.1.2.1 (C.1.2.2.2.2 _ arrw_int) rfl C.2.2.1 hW.P (hW.D hA) hS (fun q h => Or.inr h) (fun cA => rfl) h0 hN (by show N * 4 ≤ 536870912; omega) (by omega) (by omega) hd (fun q cA H1 hK1 hP1 hD1 hS1 => ?_)
  obtain ⟨hz, hq⟩ := new_at C.2.2.2.2.1 hW hA hD1
  have hcA : cA = cy 0 := Option.some.inj ((hK1.2 4 (cA, .int) rfl).2.symm.trans (C.2.2.1.2 0 _ rfl).2)
  subst hcA
  have e1 : ent cy (sal S q kd N) q = .inl (cy 0, N, (.inl (fun _ => 0))) := by
    rw [ent_i (by rw [sK_sal]; exact hkd), sN_sal, sI_sal]
  rw [← e1] at hP1
  obtain ⟨g1, g2⟩ := WS.new (S1 := sal S q kd N) C.2.2.2.2.1 hW hA hS hS1 hz hq (by rw [sK_sal]; omega) (fun b hb => up1_ne hb) (fun b hb => up1_ne hb) (fun b hb => upr_ne hb) (fun b hb => upr_ne hb) (fun b hb => upr_ne hb) hP1
  exact kk q hz H1 locs (cells + 1) (slots + N) ls g1 g2 hS1 hl (by omega) (by omega)
def rl_newj (tm : Nat × Nat) (M : MT) (Q : Out → Sto → Prop) (P : Wt) : Prop := ∀ (pc : Nat) (lo : Lv) (st : List Value) (bc bs : Nat) (S : Sto), ∀ (n : Int32) (N kd : Nat), decode (mB M) pc = .ok (.newarray .long, 2) → (kd = 7 ∨ kd = 10 ∨ kd = 11) → ¬ n < 0 → n.toNatClampNeg = N → N ≤ 1000 → 1 ≤ bc → N ≤ bs → (∀ a, sK S a = 99 → P (pc + 2) lo (.ref a :: st) (bc - 1) (bs - N) (sal S a kd N)) → P pc lo (.int n :: st) bc bs S
theorem sn_newj (C : Wk p l e R s m args below meth c D cy tm M S0 Q QF) : rl_newj tm M Q (Pw p l e R s m args below meth c D cy M S0 QF) := by
  intro pc lo st bc bs S
  intro n N kd hd hkd h0 hN hN1 hb1 hb2 kk H locs cells slots ls hW hA hS hl hc hs
  refine va_newa (D := D) (cl := vwCl) (atype := .long) (ty := .long) (a0 := (N, (.inr (.inl (fun _ => 0))))) C.1.1 C.1.2.1 (C.1.2.2.2.2 _ arrw_long) rfl C.2.2.1 hW.P (hW.D hA) hS (fun q h => Or.inr h) (fun cA => rfl) h0 hN (by show N * 8 ≤ 536870912; omega) (by omega) (by omega) hd (fun q cA H1 hK1 hP1 hD1 hS1 => ?_)
  obtain ⟨hz, hq⟩ := new_at C.2.2.2.2.1 hW hA hD1
  have hcA : cA = cy 1 := Option.some.inj ((hK1.2 4 (cA, .long) rfl).2.symm.trans (C.2.2.1.2 1 _ rfl).2)
  subst hcA
  have e1 : ent cy (sal S q kd N) q = .inl (cy 1, N, (.inr (.inl (fun _ => 0)))) := by
    rw [ent_l (by rw [sK_sal]; exact hkd), sN_sal, sJ_sal]
  rw [← e1] at hP1
  obtain ⟨g1, g2⟩ := WS.new (S1 := sal S q kd N) C.2.2.2.2.1 hW hA hS hS1 hz hq (by rw [sK_sal]; omega) (fun b hb => up1_ne hb) (fun b hb => up1_ne hb) (fun b hb => upr_ne hb) (fun b hb => upr_ne hb) (fun b hb => upr_ne hb) hP1
  exact kk q hz H1 locs (cells + 1) (slots + N) ls g1 g2 hS1 hl (by omega) (by omega)
set_option maxRecDepth 20000 in
theorem arrO : Cond.arrayOver (.object "java/lang/Object") ∈ UW := uw (i := 442) rfl rfl
def rl_newq (tm : Nat × Nat) (M : MT) (Q : Out → Sto → Prop) (P : Wt) : Prop := ∀ (pc : Nat) (lo : Lv) (st : List Value) (bc bs : Nat) (S : Sto), ∀ (n : Int32) (N idx : Nat), decode (mB M) pc = .ok (.anewarray idx, 3) → Cond.classLink (mY M).cls idx "java/lang/Object" ∈ UW → ¬ n < 0 → n.toNatClampNeg = N → N ≤ 1000 → 1 ≤ bc → N ≤ bs → (∀ a, sK S a = 99 → P (pc + 3) lo (.ref a :: st) (bc - 1) (bs - N) (sal S a 9 N)) → P pc lo (.int n :: st) bc bs S
theorem sn_newq (C : Wk p l e R s m args below meth c D cy tm M S0 Q QF) : rl_newq tm M Q (Pw p l e R s m args below meth c D cy M S0 QF) := by
  intro pc lo st bc bs S
  intro n N idx hd hw h0 hN hN1 hb1 hb2 kk H locs cells slots ls hW hA hS hl hc hs
  refine va_newq (D := D) (cl := vwCl) (C := "java/lang/Object") C.1.1 C.1.2.1 C.1.2.2.2.1 (C.1.2.2.2.2 _ hw) (va_AO.of (C.1.2.2.2.2 _ arrO)) C.2.2.1 hW.P (hW.D hA) hS (fun q h => Or.inr h) h0 hN (by omega) (by omega) (by omega) hd (fun q cA H1 hK1 hP1 hD1 hS1 => ?_)
  obtain ⟨hz, hq⟩ := new_at C.2.2.2.2.1 hW hA hD1
  have hcA : cA = cy 3 := by
    obtain ⟨kA, comp, -, -, -, r4⟩ := (hK1.2 4 (cA, .object "java/lang/Object") rfl).2
    obtain ⟨kA', comp', -, -, -, r4'⟩ := (C.2.2.1.2 3 _ rfl).2
    exact Option.some.inj (r4.symm.trans r4')
  subst hcA
  have e1 : ent cy (sal S q 9 N) q = .inl (cy 3, N, .inr (.inr (.inr (.inr (fun _ => none))))) := by
    rw [ent_q sK_sal, sN_sal, sR_sal]
  rw [← e1] at hP1
  obtain ⟨g1, g2⟩ := WS.new (S1 := sal S q 9 N) C.2.2.2.2.1 hW hA hS hS1 hz hq (by rw [sK_sal]; omega) (fun b hb => up1_ne hb) (fun b hb => up1_ne hb) (fun b hb => upr_ne hb) (fun b hb => upr_ne hb) (fun b hb => upr_ne hb) hP1
  exact kk q hz H1 locs (cells + 1) (slots + N) ls g1 g2 hS1 hl (by omega) (by omega)
end Rules
