/-! THE RELATION: what a put leaves, seen from each place -/
theorem re_up1 {α : Type} {f : Nat → Nat → α} {a k : Nat} {v : α} : up2 f a k v a k = v := by unfold up2; rw [if_pos rfl]; exact if_pos rfl
theorem k_a1 {m : MC} {f i : Nat} {v : Int64} : (m.paj f i v).aj f i = v := re_up1
theorem k_a2 {m : MC} {f g i : Nat} {v : Int64} (h : ¬ g = f) : (m.paj f i v).aj g = m.aj g := if_neg h
theorem k_a3 {m : MC} {f i : Nat} {v : Int64} : (m.paj f i v).ai = m.ai := rfl
theorem k_a4 {m : MC} {f i : Nat} {v : Int64} : (m.paj f i v).ti = m.ti := rfl
theorem k_a5 {m : MC} {f i : Nat} {v : Int64} : (m.paj f i v).tj = m.tj := rfl
theorem k_a6 {m : MC} {f g i j : Nat} {v : Int64} (h : ¬ j = i) : (m.paj f i v).aj g j = m.aj g j := by
  show up2 m.aj f i v g j = _
  unfold up2; split
  · exact if_neg h
  · rfl
theorem k_b1 {m : MC} {f i : Nat} {v : Int32} : (m.pai f i v).ai f i = v := re_up1
theorem k_b2 {m : MC} {f g i : Nat} {v : Int32} (h : ¬ g = f) : (m.pai f i v).ai g = m.ai g := if_neg h
theorem k_b3 {m : MC} {f i : Nat} {v : Int32} : (m.pai f i v).aj = m.aj := rfl
theorem k_b4 {m : MC} {f i : Nat} {v : Int32} : (m.pai f i v).ti = m.ti := rfl
theorem k_b5 {m : MC} {f i : Nat} {v : Int32} : (m.pai f i v).tj = m.tj := rfl
theorem k_b6 {m : MC} {f g i j : Nat} {v : Int32} (h : ¬ j = i) : (m.pai f i v).ai g j = m.ai g j := by
  show up2 m.ai f i v g j = _
  unfold up2; split
  · exact if_neg h
  · rfl
theorem k_t1 {m : MC} {k : Nat} {v : Int64} : (m.ptj k v).tj k = v := if_pos rfl
theorem k_t2 {m : MC} {k j : Nat} {v : Int64} (h : ¬ j = k) : (m.ptj k v).tj j = m.tj j := if_neg h
theorem k_t3 {m : MC} {k : Nat} {v : Int64} : (m.ptj k v).ti = m.ti := rfl
theorem k_t4 {m : MC} {k : Nat} {v : Int64} : (m.ptj k v).ai = m.ai := rfl
theorem k_t5 {m : MC} {k : Nat} {v : Int64} : (m.ptj k v).aj = m.aj := rfl
theorem k_s1 {m : MC} {k : Nat} {v : Int32} : (m.pti k v).ti k = v := if_pos rfl
theorem k_s2 {m : MC} {k j : Nat} {v : Int32} (h : ¬ j = k) : (m.pti k v).ti j = m.ti j := if_neg h
theorem k_s3 {m : MC} {k : Nat} {v : Int32} : (m.pti k v).tj = m.tj := rfl
theorem k_s4 {m : MC} {k : Nat} {v : Int32} : (m.pti k v).ai = m.ai := rfl
theorem k_s5 {m : MC} {k : Nat} {v : Int32} : (m.pti k v).aj = m.aj := rfl
theorem h_a1 {c : CC} {i k : Nat} {v : Int64} : (c.pcj i k v).cj i k = v := re_up1
theorem h_a2 {c : CC} {i j k : Nat} {v : Int64} (h : ¬ j = i) : (c.pcj i k v).cj j = c.cj j := if_neg h
theorem h_a6 {c : CC} {i j k q : Nat} {v : Int64} (h : ¬ q = k) : (c.pcj i k v).cj j q = c.cj j q := re_upk h
theorem h_a3 {c : CC} {i k : Nat} {v : Int64} : (c.pcj i k v).ci = c.ci := rfl
theorem h_a4 {c : CC} {i k : Nat} {v : Int64} : (c.pcj i k v).ti = c.ti := rfl
theorem h_a5 {c : CC} {i k : Nat} {v : Int64} : (c.pcj i k v).tj = c.tj := rfl
theorem h_a7 {c : CC} {i k : Nat} {v : Int64} : (c.pcj i k v).pay = c.pay := rfl
theorem h_b1 {c : CC} {i k : Nat} {v : Int32} : (c.pci i k v).ci i k = v := re_up1
theorem h_b2 {c : CC} {i j k : Nat} {v : Int32} (h : ¬ j = i) : (c.pci i k v).ci j = c.ci j := if_neg h
theorem h_b6 {c : CC} {i j k q : Nat} {v : Int32} (h : ¬ q = k) : (c.pci i k v).ci j q = c.ci j q := re_upk h
theorem h_b3 {c : CC} {i k : Nat} {v : Int32} : (c.pci i k v).cj = c.cj := rfl
theorem h_b4 {c : CC} {i k : Nat} {v : Int32} : (c.pci i k v).ti = c.ti := rfl
theorem h_b5 {c : CC} {i k : Nat} {v : Int32} : (c.pci i k v).tj = c.tj := rfl
theorem h_b7 {c : CC} {i k : Nat} {v : Int32} : (c.pci i k v).pay = c.pay := rfl
theorem h_p1 {c : CC} {i k : Nat} {v : Int64} : (c.ppay i k v).pay i = fun j => if j = k then v else c.pay i j := re_ups
theorem h_p3 {c : CC} {i k : Nat} {v : Int64} : (c.ppay i k v).ci = c.ci := rfl
theorem h_p4 {c : CC} {i k : Nat} {v : Int64} : (c.ppay i k v).cj = c.cj := rfl
theorem h_p5 {c : CC} {i k : Nat} {v : Int64} : (c.ppay i k v).tj = c.tj := rfl
theorem h_p6 {c : CC} {i k : Nat} {v : Int64} : (c.ppay i k v).ti = c.ti := rfl
theorem h_t1 {c : CC} {k : Nat} {v : Int64} : (c.ptj k v).tj k = v := if_pos rfl
theorem h_t2 {c : CC} {k j : Nat} {v : Int64} (h : ¬ j = k) : (c.ptj k v).tj j = c.tj j := if_neg h
theorem h_t3 {c : CC} {k : Nat} {v : Int64} : (c.ptj k v).ti = c.ti := rfl
theorem h_t4 {c : CC} {k : Nat} {v : Int64} : (c.ptj k v).ci = c.ci := rfl
theorem h_t5 {c : CC} {k : Nat} {v : Int64} : (c.ptj k v).cj = c.cj := rfl
theorem h_t6 {c : CC} {k : Nat} {v : Int64} : (c.ptj k v).pay = c.pay := rfl
theorem h_s1 {c : CC} {k : Nat} {v : Int32} : (c.pti k v).ti k = v := if_pos rfl
theorem h_s2 {c : CC} {k j : Nat} {v : Int32} (h : ¬ j = k) : (c.pti k v).ti j = c.ti j := if_neg h
theorem h_s3 {c : CC} {k : Nat} {v : Int32} : (c.pti k v).tj = c.tj := rfl
theorem h_s4 {c : CC} {k : Nat} {v : Int32} : (c.pti k v).ci = c.ci := rfl
theorem h_s5 {c : CC} {k : Nat} {v : Int32} : (c.pti k v).cj = c.cj := rfl
theorem h_s6 {c : CC} {k : Nat} {v : Int32} : (c.pti k v).pay = c.pay := rfl
theorem k_e1 {m : MC} {i f : Nat} (h : ¬ f = 16) : (f_X4_ends m i).ai f = m.ai f := if_neg h
theorem k_e2 {m : MC} {i : Nat} : (f_X4_ends m i).ai 16 i = 1 := by
  show up2 m.ai 16 i 1 16 i = 1
  exact re_up1
theorem k_e3 {m : MC} {i : Nat} : (f_X4_ends m i).aj 18 i = 0 := by
  show up2 m.aj 18 i 0 18 i = 0
  exact re_up1
theorem k_e4 {m : MC} {i f : Nat} (h : ¬ f = 18) : (f_X4_ends m i).aj f = m.aj f := if_neg h
theorem k_e5 {m : MC} {i : Nat} : (f_X4_ends m i).tj 2 = m.tj 2 + m.aj 18 i := by
  show (if 2 = 2 then m.tj 2 + m.aj 18 i else m.tj 2) = _
  exact if_pos rfl
theorem k_e6 {m : MC} {i k : Nat} (h : ¬ k = 2) : (f_X4_ends m i).tj k = m.tj k := if_neg h
theorem k_e7 {m : MC} {i : Nat} : (f_X4_ends m i).ti = m.ti := rfl
theorem k_ef {m : MC} {i : Nat} : Fm i m (f_X4_ends m i) := ((Fm.rf.pai (by decide) (by decide)).p2).paj (by decide) (by decide)
theorem h_e1 {c : CC} {i : Nat} : (f_X3_close c i).ci i 8 = 1 := re_up1
theorem h_e2 {c : CC} {i k : Nat} (h : ¬ k = 8) : (f_X3_close c i).ci i k = c.ci i k := re_upk h
theorem h_e3 {c : CC} {i : Nat} : (f_X3_close c i).cj i 10 = 0 := re_up1
theorem h_e4 {c : CC} {i k : Nat} (h : ¬ k = 10) : (f_X3_close c i).cj i k = c.cj i k := re_upk h
theorem h_e5 {c : CC} {i : Nat} : (f_X3_close c i).tj 4 = c.tj 4 + c.cj i 10 := by
  show (if 4 = 4 then c.tj 4 + c.cj i 10 else c.tj 4) = _
  exact if_pos rfl
theorem h_e6 {c : CC} {i : Nat} : (f_X3_close c i).pay = c.pay := rfl
theorem h_e7 {c : CC} {i : Nat} : (f_X3_close c i).ti = c.ti := rfl
theorem h_ef {c : CC} {i : Nat} : Fc i c (f_X3_close c i) := ((Fc.rf.pci).p4).pcj
