/-! THE LAW, 5: its loop, and its start -/
abbrev QL : Out → Sto → Prop := fun o _ => o = .inl (some (.int 1))
theorem la_len {len : Nat} (h : len ≤ 4608) : (nI len - 9 : Int32).toInt = len - 9 := by
  rw [re_isub (by rw [re_nI (by omega), show (9 : Int32).toInt = 9 from rfl]; omega) (by rw [re_nI (by omega), show (9 : Int32).toInt = 9 from rfl]; omega), re_nI (by omega)]; rfl
theorem law_end {tm : Nat × Nat} {lo : Lv} {bc bs : Nat} {S : Sto} : Wp (Ev tm) tm M_L_law QL 1895 lo [] bc bs S := by
  refine s_iconst (v := 1) dL_law_1895 (by decide) ?_
  exact s_reti dL_law_1896 rfl rfl rfl
set_option maxHeartbeats 4000000 in
theorem law_step {tm : Nat × Nat} {Q : Out → Sto → Prop} {sa oa xc xm len q : Nat} {s : Nat → Int32} {S : Sto} {w : CAd} {v : MAd} {c : CC} {m : MC} {bc bs : Nat} (I : LI tm sa oa xc xm len s q S w v c m) (hq : 9 * q + 9 ≤ len) (hl : len ≤ 4608) (hbc : 122 ≤ bc) (hbs : 7532 ≤ bs)
    (kk : ∀ S1 w1 c1 m1, LI tm sa oa xc xm len s (q + 1) S1 w1 v c1 m1 → Wp (Ev tm) tm M_L_law Q 1889 (lo0 sa oa xc xm q) [] (bc - 122) (bs - 7532) S1) : Wp (Ev tm) tm M_L_law Q 33 (lo0 sa oa xc xm q) [] bc bs S := by
  have I0 := I
  obtain ⟨⟨hC, hM⟩, ⟨hE, hB⟩, ⟨hm, h1, h2⟩, ⟨k0, n0, i0⟩, ok, on⟩ := I
  refine s_aloadn dL_law_33 rfl rfl ?_
  refine s_iload dL_law_34 rfl ?_
  refine s_sald' (j := 9 * q) dL_law_36 k0 i0 rfl (by rw [n0]; omega) (by rw [n0]; omega) ?_
  refine s_bipush (v := 31) dL_law_37 (by decide) ?_
  refine s_iand dL_law_39 ?_
  generalize s (9 * q) &&& 31 = x
  have hx : (x.toInt < 0 ∨ 25 < x.toInt) ∨ x.toInt = 0 ∨ x.toInt = 1 ∨ x.toInt = 2 ∨ x.toInt = 3 ∨ x.toInt = 4 ∨ x.toInt = 5 ∨ x.toInt = 6 ∨ x.toInt = 7 ∨ x.toInt = 8 ∨ x.toInt = 9 ∨ x.toInt = 10 ∨ x.toInt = 11 ∨ x.toInt = 12 ∨ x.toInt = 13 ∨ x.toInt = 14 ∨ x.toInt = 15 ∨ x.toInt = 16 ∨ x.toInt = 17 ∨ x.toInt = 18 ∨ x.toInt = 19 ∨ x.toInt = 20 ∨ x.toInt = 21 ∨ x.toInt = 22 ∨ x.toInt = 23 ∨ x.toInt = 24 ∨ x.toInt = 25 := by omega
  rcases hx with hx | hx | hx | hx | hx | hx | hx | hx | hx | hx | hx | hx | hx | hx | hx | hx | hx | hx | hx | hx | hx | hx | hx | hx | hx | hx | hx
  · refine s_swout (tgt := 1889) dL_law_40 hx (by decide) ?_
    exact s_sub (lo' := lo0 sa oa xc xm q) (lo_has rfl rfl rfl rfl rfl) (Nat.sub_le _ _) (Nat.sub_le _ _) (kk S w c m ⟨⟨hC, hM⟩, ⟨hE, BD.up hB (by omega)⟩, ⟨hm, h1, h2⟩, ⟨k0, n0, i0⟩, ok, on⟩)
  · exact s_swin (off := 120) (tgt := 160) dL_law_40 (by rw [hx]; decide) (by rw [hx]; decide) (by rw [hx]; rfl) (by decide) (c_L_claim I0 hq hl hbc hbs kk)
  · exact s_swin (off := 282) (tgt := 322) dL_law_40 (by rw [hx]; decide) (by rw [hx]; decide) (by rw [hx]; rfl) (by decide) (c_L_pledge I0 hq hl hbc hbs kk)
  · exact s_swin (off := 349) (tgt := 389) dL_law_40 (by rw [hx]; decide) (by rw [hx]; decide) (by rw [hx]; rfl) (by decide) (c_L_reveal I0 hq hl hbc hbs kk)
  · exact s_swin (off := 404) (tgt := 444) dL_law_40 (by rw [hx]; decide) (by rw [hx]; decide) (by rw [hx]; rfl) (by decide) (c_L_economy I0 hq hl hbc hbs kk)
  · exact s_swin (off := 483) (tgt := 523) dL_law_40 (by rw [hx]; decide) (by rw [hx]; decide) (by rw [hx]; rfl) (by decide) (c_L_moratorium I0 hq hl hbc hbs kk)
  · exact s_swin (off := 574) (tgt := 614) dL_law_40 (by rw [hx]; decide) (by rw [hx]; decide) (by rw [hx]; rfl) (by decide) (c_L_year I0 hq hl hbc hbs kk)
  · exact s_swin (off := 629) (tgt := 669) dL_law_40 (by rw [hx]; decide) (by rw [hx]; decide) (by rw [hx]; rfl) (by decide) (c_L_discount I0 hq hl hbc hbs kk)
  · exact s_swin (off := 685) (tgt := 725) dL_law_40 (by rw [hx]; decide) (by rw [hx]; decide) (by rw [hx]; rfl) (by decide) (c_L_offer I0 hq hl hbc hbs kk)
  · exact s_swin (off := 765) (tgt := 805) dL_law_40 (by rw [hx]; decide) (by rw [hx]; decide) (by rw [hx]; rfl) (by decide) (c_L_accept I0 hq hl hbc hbs kk)
  · exact s_swin (off := 833) (tgt := 873) dL_law_40 (by rw [hx]; decide) (by rw [hx]; decide) (by rw [hx]; rfl) (by decide) (c_L_vote I0 hq hl hbc hbs kk)
  · exact s_swin (off := 909) (tgt := 949) dL_law_40 (by rw [hx]; decide) (by rw [hx]; decide) (by rw [hx]; rfl) (by decide) (c_L_settle I0 hq hl hbc hbs kk)
  · exact s_swin (off := 965) (tgt := 1005) dL_law_40 (by rw [hx]; decide) (by rw [hx]; decide) (by rw [hx]; rfl) (by decide) (c_L_thing I0 hq hl hbc hbs kk)
  · exact s_swin (off := 1021) (tgt := 1061) dL_law_40 (by rw [hx]; decide) (by rw [hx]; decide) (by rw [hx]; rfl) (by decide) (c_L_sue I0 hq hl hbc hbs kk)
  · exact s_swin (off := 1057) (tgt := 1097) dL_law_40 (by rw [hx]; decide) (by rw [hx]; decide) (by rw [hx]; rfl) (by decide) (c_L_seize I0 hq hl hbc hbs kk)
  · exact s_swin (off := 1124) (tgt := 1164) dL_law_40 (by rw [hx]; decide) (by rw [hx]; decide) (by rw [hx]; rfl) (by decide) (c_L_programme I0 hq hl hbc hbs kk)
  · exact s_swin (off := 1184) (tgt := 1224) dL_law_40 (by rw [hx]; decide) (by rw [hx]; decide) (by rw [hx]; rfl) (by decide) (c_L_assure I0 hq hl hbc hbs kk)
  · exact s_swin (off := 1275) (tgt := 1315) dL_law_40 (by rw [hx]; decide) (by rw [hx]; decide) (by rw [hx]; rfl) (by decide) (c_L_review I0 hq hl hbc hbs kk)
  · exact s_swin (off := 1319) (tgt := 1359) dL_law_40 (by rw [hx]; decide) (by rw [hx]; decide) (by rw [hx]; rfl) (by decide) (c_L_value I0 hq hl hbc hbs kk)
  · exact s_swin (off := 1386) (tgt := 1426) dL_law_40 (by rw [hx]; decide) (by rw [hx]; decide) (by rw [hx]; rfl) (by decide) (c_L_offered I0 hq hl hbc hbs kk)
  · exact s_swin (off := 1465) (tgt := 1505) dL_law_40 (by rw [hx]; decide) (by rw [hx]; decide) (by rw [hx]; rfl) (by decide) (c_L_effort I0 hq hl hbc hbs kk)
  · exact s_swin (off := 1521) (tgt := 1561) dL_law_40 (by rw [hx]; decide) (by rw [hx]; decide) (by rw [hx]; rfl) (by decide) (c_L_areAlike I0 hq hl hbc hbs kk)
  · exact s_swin (off := 1534) (tgt := 1574) dL_law_40 (by rw [hx]; decide) (by rw [hx]; decide) (by rw [hx]; rfl) (by decide) (c_L_passes I0 hq hl hbc hbs kk)
  · exact s_swin (off := 1609) (tgt := 1649) dL_law_40 (by rw [hx]; decide) (by rw [hx]; decide) (by rw [hx]; rfl) (by decide) (c_L_isBearable I0 hq hl hbc hbs kk)
  · exact s_swin (off := 1672) (tgt := 1712) dL_law_40 (by rw [hx]; decide) (by rw [hx]; decide) (by rw [hx]; rfl) (by decide) (c_L_ofClaim I0 hq hl hbc hbs kk)
  · exact s_swin (off := 1739) (tgt := 1779) dL_law_40 (by rw [hx]; decide) (by rw [hx]; decide) (by rw [hx]; rfl) (by decide) (c_L_paidAnew I0 hq hl hbc hbs kk)
  · exact s_swin (off := 1794) (tgt := 1834) dL_law_40 (by rw [hx]; decide) (by rw [hx]; decide) (by rw [hx]; rfl) (by decide) (c_L_ofState I0 hq hl hbc hbs kk)
theorem law_loop {tm : Nat × Nat} {sa oa xc xm len : Nat} {s : Nat → Int32} {v : MAd} (hl : len ≤ 4608) : ∀ (r q : Nat), q + r = 512 → ∀ (S : Sto) (w : CAd) (c : CC) (m : MC) (bc bs : Nat), LI tm sa oa xc xm len s q S w v c m → 122 * r ≤ bc → 7532 * r ≤ bs → Wp (Ev tm) tm M_L_law QL 23 (lo0 sa oa xc xm q) [] bc bs S := by
  intro r
  induction r with
  | zero =>
    intro q hqr S w c m bc bs I hbc hbs
    obtain ⟨_, _, _, ⟨k0, n0, i0⟩, _, _⟩ := I
    refine s_iload dL_law_23 rfl ?_
    refine s_aloadn dL_law_25 rfl rfl ?_
    refine s_slen dL_law_26 k0 ?_
    refine s_bipush (v := 9) dL_law_27 (by decide) ?_
    refine s_isub dL_law_29 ?_
    refine s_icgt (tgt := 1895) dL_law_30 (by decide) (fun _ => law_end) (fun c0 => ?_)
    exfalso
    apply c0
    rw [n0, re_ilt, re_nI (by omega)]
    have e : (Int32.ofNat len - 9 : Int32).toInt = len - 9 := la_len hl
    rw [e]; omega
  | succ r ih =>
    intro q hqr S w c m bc bs I hbc hbs
    have I0 := I
    obtain ⟨_, _, _, ⟨k0, n0, i0⟩, _, _⟩ := I
    refine s_iload dL_law_23 rfl ?_
    refine s_aloadn dL_law_25 rfl rfl ?_
    refine s_slen dL_law_26 k0 ?_
    refine s_bipush (v := 9) dL_law_27 (by decide) ?_
    refine s_isub dL_law_29 ?_
    refine s_icgt (tgt := 1895) dL_law_30 (by decide) (fun _ => law_end) (fun c0 => ?_)
    have e : (Int32.ofNat len - 9 : Int32).toInt = len - 9 := la_len hl
    rw [n0, re_ilt, re_nI (by omega), e] at c0
    refine law_step I0 (by omega) hl (by omega) (by omega) (fun S1 w1 c1 m1 I1 => ?_)
    have e9 : nI (9 * q) + Int32.ofInt 9 = nI (9 * (q + 1)) := la_ix (q := q) (k := 9) (by omega) (by decide)
    refine s_iinc dL_law_1889 rfl e9 (by decide) ?_
    refine s_goto (tgt := 23) dL_law_1892 (by decide) ?_
    exact s_sub (lo' := lo0 sa oa xc xm (q + 1)) (lo_has rfl rfl rfl rfl rfl) (Nat.le_refl _) (Nat.le_refl _) (ih (q + 1) (by omega) S1 w1 c1 m1 _ _ I1 (by omega) (by omega))
theorem CW.sal {tm : Nat × Nat} {S : Sto} {w : CAd} {c : CC} {a k n : Nat} (h : CW tm S w c) (ha : sK S a = 99) : CW tm (sal S a k n) w c :=
  h.fr fun b hb => same5.rf.A (fun e => by rw [e, ha] at hb; unfold ck at hb; omega)
theorem MW.sal {S : Sto} {v : MAd} {m : MC} {a k n : Nat} (h : MW S v m) (ha : sK S a = 99) : MW (sal S a k n) v m :=
  h.cfr (fun b hb => by
    have := same5.rf.A (S := S) (S1 := S) (a := a) (b := b) (k := k) (n := n) (fun e => by rw [e, ha] at hb; exact absurd hb (by decide))
    exact this)
set_option maxHeartbeats 4000000 in
theorem law_go {tm : Nat × Nat} {S : Sto} {sa len : Nat} {s : Nat → Int32} (hk : sK S sa = 12) (hn : sN S sa = len) (hs : sI S sa = s) (hl : len ≤ 4608) (h13 : sK S tm.1 = 13) (hn13 : sN S tm.1 = 0) : Wp (Ev tm) tm M_L_law QL 0 [(0, .ref sa)] [] 601024 7293034 S := by
  refine s_new (n := 0) dL_law_0 rfl (by decide) (by decide) (fun a ha => ?_)
  refine s_dup dL_law_3 rfl ?_
  refine s_ci0G (n := 6) dL_law_4 rfl rfl (by decide) (by decide) (by decide) (by decide) (by show (1 : Nat) ≤ 8; decide) (m_X3_init ha h13 hn13) (fun r1 S1 hr1 => ?_) (fun x S1 hr => by have := hr.1; cases this)
  obtain ⟨e1, w, w1, w2, w3, w4, w5, hC, fC⟩ := hr1
  cases e1
  refine s_astoren dL_law_7 rfl (by decide) ?_
  refine s_new (n := 5) dL_law_8 rfl (by decide) (by decide) (fun b hb => ?_)
  refine s_dup dL_law_11 rfl ?_
  refine s_ci0G (n := 7) dL_law_12 rfl rfl (by decide) (by decide) (by decide) (by decide) (by show (1 : Nat) ≤ 8; decide) (m_X4_init hb) (fun r2 S2 hr2 => ?_) (fun x S1 hr => by have := hr.1; cases this)
  obtain ⟨e2, v, v1, hM, fM⟩ := hr2
  cases e2
  refine s_astoren dL_law_15 rfl (by decide) ?_
  refine s_iconst (v := 1) dL_law_16 (by decide) ?_
  refine s_newj (kd := 11) (N := 1) dL_law_17 (Or.inr (Or.inr rfl)) (by decide) rfl (by decide) (by decide) (by decide) (fun oa ho => ?_)
  refine s_astoren dL_law_19 rfl (by decide) ?_
  refine s_iconst (v := 0) dL_law_20 (by decide) ?_
  refine s_istore dL_law_21 (by decide) ?_
  have f1 := fC sa (by rw [hk]; decide)
  have k1 : sK S1 sa = 12 := f1.1.trans hk
  have f2 := fM sa (by rw [k1]; exact Or.inr (Or.inr (Or.inr ⟨by decide, by decide⟩)))
  have k2 : sK S2 sa = 12 := f2.1.trans k1
  have hne : sa ≠ oa := fun e => by rw [e, ho] at k2; exact absurd k2 (by decide)
  have f3 : same5 S2 (sal S2 oa 11 1) sa := same5.rf.A hne
  have hLI : LI tm sa oa w.th v.mm len s 0 (sal S2 oa 11 1) w v cc0 mc0 := by
    refine ⟨⟨(hC.mfr fM).sal ho, hM.sal ho⟩, ?_, ⟨w3.trans w2.symm, rfl, rfl⟩, ⟨f3.1.trans k2, f3.2.1.trans (f2.2.1.trans (f1.2.1.trans hn)), f3.2.2.1.trans (f2.2.2.1.trans (f1.2.2.1.trans hs))⟩, up1_self, up1_self⟩
    rw [w2, w4, w5]
    exact re_beg
  rw [← w1, ← v1]
  exact s_sub (lo' := lo0 sa oa w.th v.mm 0) (lo_has rfl rfl rfl rfl rfl) (Nat.le_of_ble_eq_true rfl) (Nat.le_of_ble_eq_true rfl) (law_loop hl 512 0 rfl _ w cc0 mc0 (122 * 512) (7532 * 512) hLI (Nat.le_refl _) (Nat.le_refl _))
