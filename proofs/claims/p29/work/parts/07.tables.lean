/-! THE ABSTRACT MACHINE, 4: the tables of classes and fields -/
set_option maxRecDepth 20000 in
theorem ly_0_0 : u_lay RJx4a65c TJx4a65c 0 ∈ UW := uw (i := 80) rfl rfl
set_option maxRecDepth 20000 in
theorem ly_0_1 : u_lay RJx4a65c TJx4a65c 1 ∈ UW := uw (i := 76) rfl rfl
set_option maxRecDepth 20000 in
theorem ly_0_2 : u_lay RJx4a65c TJx4a65c 2 ∈ UW := uw (i := 78) rfl rfl
theorem ly_0 : ∀ w ∈ u_ws RJx4a65c TJx4a65c 3, w ∈ UW := fun w hw => by
  obtain ⟨k, hk, rfl⟩ := List.mem_map.mp hw
  have hk := List.mem_range.mp hk
  match k, hk with
  | 0, _ => exact ly_0_0
  | 1, _ => exact ly_0_1
  | 2, _ => exact ly_0_2
  | _ + 3, h => exact absurd h (by omega)
set_option maxRecDepth 20000 in
theorem ins_0 : Cond.instantiable RJx4a65c 3 ∈ UW := uw (i := 58) rfl rfl
set_option maxRecDepth 20000 in
theorem ini_0 : Cond.initialized RJx4a65c ∈ UW := uw (i := 33) rfl rfl
set_option maxRecDepth 20000 in
theorem ly_1_0 : u_lay RX0 TX0 0 ∈ UW := uw (i := 355) rfl rfl
set_option maxRecDepth 20000 in
theorem ly_1_1 : u_lay RX0 TX0 1 ∈ UW := uw (i := 357) rfl rfl
set_option maxRecDepth 20000 in
theorem ly_1_2 : u_lay RX0 TX0 2 ∈ UW := uw (i := 359) rfl rfl
set_option maxRecDepth 20000 in
theorem ly_1_3 : u_lay RX0 TX0 3 ∈ UW := uw (i := 361) rfl rfl
set_option maxRecDepth 20000 in
theorem ly_1_4 : u_lay RX0 TX0 4 ∈ UW := uw (i := 363) rfl rfl
set_option maxRecDepth 20000 in
theorem ly_1_5 : u_lay RX0 TX0 5 ∈ UW := uw (i := 365) rfl rfl
set_option maxRecDepth 20000 in
theorem ly_1_6 : u_lay RX0 TX0 6 ∈ UW := uw (i := 367) rfl rfl
set_option maxRecDepth 20000 in
theorem ly_1_7 : u_lay RX0 TX0 7 ∈ UW := uw (i := 369) rfl rfl
set_option maxRecDepth 20000 in
theorem ly_1_8 : u_lay RX0 TX0 8 ∈ UW := uw (i := 371) rfl rfl
set_option maxRecDepth 20000 in
theorem ly_1_9 : u_lay RX0 TX0 9 ∈ UW := uw (i := 373) rfl rfl
set_option maxRecDepth 20000 in
theorem ly_1_10 : u_lay RX0 TX0 10 ∈ UW := uw (i := 375) rfl rfl
set_option maxRecDepth 20000 in
theorem ly_1_11 : u_lay RX0 TX0 11 ∈ UW := uw (i := 377) rfl rfl
set_option maxRecDepth 20000 in
theorem ly_1_12 : u_lay RX0 TX0 12 ∈ UW := uw (i := 379) rfl rfl
set_option maxRecDepth 20000 in
theorem ly_1_13 : u_lay RX0 TX0 13 ∈ UW := uw (i := 381) rfl rfl
set_option maxRecDepth 20000 in
theorem ly_1_14 : u_lay RX0 TX0 14 ∈ UW := uw (i := 383) rfl rfl
set_option maxRecDepth 20000 in
theorem ly_1_15 : u_lay RX0 TX0 15 ∈ UW := uw (i := 385) rfl rfl
set_option maxRecDepth 20000 in
theorem ly_1_16 : u_lay RX0 TX0 16 ∈ UW := uw (i := 387) rfl rfl
set_option maxRecDepth 20000 in
theorem ly_1_17 : u_lay RX0 TX0 17 ∈ UW := uw (i := 389) rfl rfl
theorem ly_1 : ∀ w ∈ u_ws RX0 TX0 18, w ∈ UW := fun w hw => by
  obtain ⟨k, hk, rfl⟩ := List.mem_map.mp hw
  have hk := List.mem_range.mp hk
  match k, hk with
  | 0, _ => exact ly_1_0
  | 1, _ => exact ly_1_1
  | 2, _ => exact ly_1_2
  | 3, _ => exact ly_1_3
  | 4, _ => exact ly_1_4
  | 5, _ => exact ly_1_5
  | 6, _ => exact ly_1_6
  | 7, _ => exact ly_1_7
  | 8, _ => exact ly_1_8
  | 9, _ => exact ly_1_9
  | 10, _ => exact ly_1_10
  | 11, _ => exact ly_1_11
  | 12, _ => exact ly_1_12
  | 13, _ => exact ly_1_13
  | 14, _ => exact ly_1_14
  | 15, _ => exact ly_1_15
  | 16, _ => exact ly_1_16
  | 17, _ => exact ly_1_17
  | _ + 18, h => exact absurd h (by omega)
set_option maxRecDepth 20000 in
theorem ins_1 : Cond.instantiable RX0 18 ∈ UW := uw (i := 317) rfl rfl
set_option maxRecDepth 20000 in
theorem ini_1 : Cond.initialized RX0 ∈ UW := uw (i := 42) rfl rfl
set_option maxRecDepth 20000 in
theorem ly_2_0 : u_lay RX1 TX1 0 ∈ UW := uw (i := 539) rfl rfl
set_option maxRecDepth 20000 in
theorem ly_2_1 : u_lay RX1 TX1 1 ∈ UW := uw (i := 541) rfl rfl
set_option maxRecDepth 20000 in
theorem ly_2_2 : u_lay RX1 TX1 2 ∈ UW := uw (i := 543) rfl rfl
set_option maxRecDepth 20000 in
theorem ly_2_3 : u_lay RX1 TX1 3 ∈ UW := uw (i := 545) rfl rfl
theorem ly_2 : ∀ w ∈ u_ws RX1 TX1 4, w ∈ UW := fun w hw => by
  obtain ⟨k, hk, rfl⟩ := List.mem_map.mp hw
  have hk := List.mem_range.mp hk
  match k, hk with
  | 0, _ => exact ly_2_0
  | 1, _ => exact ly_2_1
  | 2, _ => exact ly_2_2
  | 3, _ => exact ly_2_3
  | _ + 4, h => exact absurd h (by omega)
set_option maxRecDepth 20000 in
theorem ins_2 : Cond.instantiable RX1 4 ∈ UW := uw (i := 528) rfl rfl
set_option maxRecDepth 20000 in
theorem ini_2 : Cond.initialized RX1 ∈ UW := uw (i := 47) rfl rfl
set_option maxRecDepth 20000 in
theorem ly_3_0 : u_lay RX2 TX2 0 ∈ UW := uw (i := 642) rfl rfl
set_option maxRecDepth 20000 in
theorem ly_3_1 : u_lay RX2 TX2 1 ∈ UW := uw (i := 644) rfl rfl
theorem ly_3 : ∀ w ∈ u_ws RX2 TX2 2, w ∈ UW := fun w hw => by
  obtain ⟨k, hk, rfl⟩ := List.mem_map.mp hw
  have hk := List.mem_range.mp hk
  match k, hk with
  | 0, _ => exact ly_3_0
  | 1, _ => exact ly_3_1
  | _ + 2, h => exact absurd h (by omega)
set_option maxRecDepth 20000 in
theorem ins_3 : Cond.instantiable RX2 2 ∈ UW := uw (i := 633) rfl rfl
set_option maxRecDepth 20000 in
theorem ini_3 : Cond.initialized RX2 ∈ UW := uw (i := 48) rfl rfl
set_option maxRecDepth 20000 in
theorem ly_4_0 : u_lay RX3 TX3 0 ∈ UW := uw (i := 98) rfl rfl
set_option maxRecDepth 20000 in
theorem ly_4_1 : u_lay RX3 TX3 1 ∈ UW := uw (i := 100) rfl rfl
set_option maxRecDepth 20000 in
theorem ly_4_2 : u_lay RX3 TX3 2 ∈ UW := uw (i := 102) rfl rfl
set_option maxRecDepth 20000 in
theorem ly_4_3 : u_lay RX3 TX3 3 ∈ UW := uw (i := 104) rfl rfl
set_option maxRecDepth 20000 in
theorem ly_4_4 : u_lay RX3 TX3 4 ∈ UW := uw (i := 106) rfl rfl
set_option maxRecDepth 20000 in
theorem ly_4_5 : u_lay RX3 TX3 5 ∈ UW := uw (i := 108) rfl rfl
set_option maxRecDepth 20000 in
theorem ly_4_6 : u_lay RX3 TX3 6 ∈ UW := uw (i := 110) rfl rfl
set_option maxRecDepth 20000 in
theorem ly_4_7 : u_lay RX3 TX3 7 ∈ UW := uw (i := 112) rfl rfl
set_option maxRecDepth 20000 in
theorem ly_4_8 : u_lay RX3 TX3 8 ∈ UW := uw (i := 114) rfl rfl
set_option maxRecDepth 20000 in
theorem ly_4_9 : u_lay RX3 TX3 9 ∈ UW := uw (i := 116) rfl rfl
set_option maxRecDepth 20000 in
theorem ly_4_10 : u_lay RX3 TX3 10 ∈ UW := uw (i := 118) rfl rfl
set_option maxRecDepth 20000 in
theorem ly_4_11 : u_lay RX3 TX3 11 ∈ UW := uw (i := 120) rfl rfl
set_option maxRecDepth 20000 in
theorem ly_4_12 : u_lay RX3 TX3 12 ∈ UW := uw (i := 122) rfl rfl
set_option maxRecDepth 20000 in
theorem ly_4_13 : u_lay RX3 TX3 13 ∈ UW := uw (i := 124) rfl rfl
theorem ly_4 : ∀ w ∈ u_ws RX3 TX3 14, w ∈ UW := fun w hw => by
  obtain ⟨k, hk, rfl⟩ := List.mem_map.mp hw
  have hk := List.mem_range.mp hk
  match k, hk with
  | 0, _ => exact ly_4_0
  | 1, _ => exact ly_4_1
  | 2, _ => exact ly_4_2
  | 3, _ => exact ly_4_3
  | 4, _ => exact ly_4_4
  | 5, _ => exact ly_4_5
  | 6, _ => exact ly_4_6
  | 7, _ => exact ly_4_7
  | 8, _ => exact ly_4_8
  | 9, _ => exact ly_4_9
  | 10, _ => exact ly_4_10
  | 11, _ => exact ly_4_11
  | 12, _ => exact ly_4_12
  | 13, _ => exact ly_4_13
  | _ + 14, h => exact absurd h (by omega)
set_option maxRecDepth 20000 in
theorem ins_4 : Cond.instantiable RX3 14 ∈ UW := uw (i := 50) rfl rfl
set_option maxRecDepth 20000 in
theorem ini_4 : Cond.initialized RX3 ∈ UW := uw (i := 30) rfl rfl
/-- what holds of each class of vwCl -/
def okC (ci : Nat) (r : vw_C) : Prop := (∀ w ∈ u_ws r.1 r.2.1 r.2.2, w ∈ UW) ∧ (∀ k, k < r.2.2 → parseFieldDescriptor (r.2.1 k).2.2.1 = some (tyOf ci k)) ∧ (∀ a, a < r.2.2 → ∀ b, b < r.2.2 → a ≠ b → (r.2.1 a).2.1 ≠ (r.2.1 b).2.1) ∧ r.2.2 = nOf ci ∧ Cond.instantiable r.1 r.2.2 ∈ UW ∧ Cond.initialized r.1 ∈ UW ∧ (∀ k, k < r.2.2 → defaultValue (tyOf ci k) = fvt (tyOf ci k) 0 0 none)
theorem df_0 : ∀ k, k < 3 → defaultValue (tyJx4a65c k) = fvt (tyJx4a65c k) 0 0 none := fun k hk => by
  match k, hk with
  | 0, _ => rfl
  | 1, _ => rfl
  | 2, _ => rfl
  | _ + 3, h => exact absurd h (by omega)
theorem df_1 : ∀ k, k < 18 → defaultValue (tyX0 k) = fvt (tyX0 k) 0 0 none := fun k hk => by
  match k, hk with
  | 0, _ => rfl
  | 1, _ => rfl
  | 2, _ => rfl
  | 3, _ => rfl
  | 4, _ => rfl
  | 5, _ => rfl
  | 6, _ => rfl
  | 7, _ => rfl
  | 8, _ => rfl
  | 9, _ => rfl
  | 10, _ => rfl
  | 11, _ => rfl
  | 12, _ => rfl
  | 13, _ => rfl
  | 14, _ => rfl
  | 15, _ => rfl
  | 16, _ => rfl
  | 17, _ => rfl
  | _ + 18, h => exact absurd h (by omega)
theorem df_2 : ∀ k, k < 4 → defaultValue (tyX1 k) = fvt (tyX1 k) 0 0 none := fun k hk => by
  match k, hk with
  | 0, _ => rfl
  | 1, _ => rfl
  | 2, _ => rfl
  | 3, _ => rfl
  | _ + 4, h => exact absurd h (by omega)
theorem df_3 : ∀ k, k < 2 → defaultValue (tyX2 k) = fvt (tyX2 k) 0 0 none := fun k hk => by
  match k, hk with
  | 0, _ => rfl
  | 1, _ => rfl
  | _ + 2, h => exact absurd h (by omega)
theorem df_4 : ∀ k, k < 14 → defaultValue (tyX3 k) = fvt (tyX3 k) 0 0 none := fun k hk => by
  match k, hk with
  | 0, _ => rfl
  | 1, _ => rfl
  | 2, _ => rfl
  | 3, _ => rfl
  | 4, _ => rfl
  | 5, _ => rfl
  | 6, _ => rfl
  | 7, _ => rfl
  | 8, _ => rfl
  | 9, _ => rfl
  | 10, _ => rfl
  | 11, _ => rfl
  | 12, _ => rfl
  | 13, _ => rfl
  | _ + 14, h => exact absurd h (by omega)
theorem okC_at {ci : Nat} {r : vw_C} (h : vwCl[ci]? = some r) : okC ci r := by
  match ci, h with
  | 0, h => cases h; exact ⟨ly_0, tyJx4a65c_ok, nmJx4a65c, rfl, ins_0, ini_0, df_0⟩
  | 1, h => cases h; exact ⟨ly_1, tyX0_ok, nmX0, rfl, ins_1, ini_1, df_1⟩
  | 2, h => cases h; exact ⟨ly_2, tyX1_ok, nmX1, rfl, ins_2, ini_2, df_2⟩
  | 3, h => cases h; exact ⟨ly_3, tyX2_ok, nmX2, rfl, ins_3, ini_3, df_3⟩
  | 4, h => cases h; exact ⟨ly_4, tyX3_ok, nmX3, rfl, ins_4, ini_4, df_4⟩
  | 5, h => cases h; exact ⟨ly_3, tyX2_ok, nmX2, rfl, ins_3, ini_3, df_3⟩
  | _ + 6, h => exact absurd (vwCl_at h) (by omega)
/-- the links of fields: class, index, named class, class of vwCl, place -/
def lkF : List (String × Nat × String × Nat × Nat) := [("java/util/ArrayList", 9, "java/util/ArrayList", 0, 1), ("java/util/ArrayList", 48, "java/util/ArrayList", 0, 2), ("java/util/AbstractList", 7, "java/util/AbstractList", 0, 0), ("java/util/ArrayList", 63, "java/util/ArrayList", 0, 0), ("Claimclub", 10, "Claimclub", 4, 0), ("Claimclub", 16, "Claimclub", 4, 1), ("Claimclub", 19, "Claimclub", 4, 2), ("Claimclub", 22, "Claimclub", 4, 3), ("Claimclub", 26, "Claimclub", 4, 4), ("Claimclub", 32, "Claimclub", 4, 5), ("Claimclub", 35, "Claimclub", 4, 6), ("Claimclub", 38, "Claimclub", 4, 7), ("Claimclub", 41, "Claimclub", 4, 8), ("Claimclub", 44, "Claimclub", 4, 9), ("Claimclub", 47, "Claimclub", 4, 10), ("Claimclub", 50, "Claimclub", 4, 11), ("Claimclub", 53, "Claimclub", 4, 12), ("Claimclub", 56, "Claimclub", 4, 13), ("Claimclub$Claim", 53, "Claimclub$Claim", 1, 0), ("Claimclub", 186, "Claimclub$Claim", 1, 0), ("Claimclub$Claim", 56, "Claimclub$Claim", 1, 1), ("Claimclub", 216, "Claimclub$Claim", 1, 1), ("Claimclub$Claim", 59, "Claimclub$Claim", 1, 2), ("Claimclub", 155, "Claimclub$Claim", 1, 2), ("Claimclub$Claim", 62, "Claimclub$Claim", 1, 3), ("Claimclub", 219, "Claimclub$Claim", 1, 3), ("Claimclub$Claim", 65, "Claimclub$Claim", 1, 4), ("Claimclub", 103, "Claimclub$Claim", 1, 4), ("Claimclub$Claim", 9, "Claimclub$Claim", 1, 5), ("Claimclub", 357, "Claimclub$Claim", 1, 5), ("Claimclub$Claim", 15, "Claimclub$Claim", 1, 6), ("Claimclub$Claim", 19, "Claimclub$Claim", 1, 7), ("Claimclub", 171, "Claimclub$Claim", 1, 7), ("Claimclub$Claim", 22, "Claimclub$Claim", 1, 8), ("Claimclub", 197, "Claimclub$Claim", 1, 8), ("Claimclub$Claim", 25, "Claimclub$Claim", 1, 9), ("Claimclub", 174, "Claimclub$Claim", 1, 9), ("Claimclub$Claim", 28, "Claimclub$Claim", 1, 10), ("Claimclub", 100, "Claimclub$Claim", 1, 10), ("Claimclub$Claim", 31, "Claimclub$Claim", 1, 11), ("Claimclub", 152, "Claimclub$Claim", 1, 11), ("Claimclub$Claim", 34, "Claimclub$Claim", 1, 12), ("Claimclub", 231, "Claimclub$Claim", 1, 12), ("Claimclub$Claim", 37, "Claimclub$Claim", 1, 13), ("Claimclub", 238, "Claimclub$Claim", 1, 13), ("Claimclub$Claim", 40, "Claimclub$Claim", 1, 14), ("Claimclub", 241, "Claimclub$Claim", 1, 14), ("Claimclub$Claim", 43, "Claimclub$Claim", 1, 15), ("Claimclub", 360, "Claimclub$Claim", 1, 15), ("Claimclub$Claim", 46, "Claimclub$Claim", 1, 16), ("Claimclub$Claim", 50, "Claimclub$Claim", 1, 17), ("Claimclub$Offer", 13, "Claimclub$Offer", 2, 0), ("Claimclub$Offer", 17, "Claimclub$Offer", 2, 1), ("Claimclub", 225, "Claimclub$Offer", 2, 1), ("Claimclub$Offer", 20, "Claimclub$Offer", 2, 2), ("Claimclub", 228, "Claimclub$Offer", 2, 2), ("Claimclub$Offer", 7, "Claimclub$Offer", 2, 3), ("Claimclub$Thing", 13, "Claimclub$Thing", 3, 0), ("Claimclub", 309, "Claimclub$Thing", 3, 0), ("Claimclub$Thing", 7, "Claimclub$Thing", 3, 1), ("Claimclub", 304, "Claimclub$Thing", 3, 1)]
def okF (z : String × Nat × String × Nat × Nat) : Prop := ∃ r, vwCl[z.2.2.2.1]? = some r ∧ z.2.2.2.2 < r.2.2 ∧ Cond.fieldLink z.1 z.2.1 z.2.2.1 (r.2.1 z.2.2.2.2).2.1 (r.2.1 z.2.2.2.2).2.2.1 ∈ UW ∧ (z.2.2.1 = (r.2.1 z.2.2.2.2).1 ∨ Cond.sameField z.2.2.1 (r.2.1 z.2.2.2.2).1 (r.2.1 z.2.2.2.2).2.1 (r.2.1 z.2.2.2.2).2.2.1 ∈ UW)
set_option maxRecDepth 20000 in
theorem lf_0 : okF ("java/util/ArrayList", 9, "java/util/ArrayList", 0, 1) := ⟨_, rfl, by decide, uw (i := 71) rfl rfl, Or.inl rfl⟩
set_option maxRecDepth 20000 in
theorem lf_1 : okF ("java/util/ArrayList", 48, "java/util/ArrayList", 0, 2) := ⟨_, rfl, by decide, uw (i := 72) rfl rfl, Or.inl rfl⟩
set_option maxRecDepth 20000 in
theorem lf_2 : okF ("java/util/AbstractList", 7, "java/util/AbstractList", 0, 0) := ⟨_, rfl, by decide, uw (i := 73) rfl rfl, Or.inl rfl⟩
set_option maxRecDepth 20000 in
theorem lf_3 : okF ("java/util/ArrayList", 63, "java/util/ArrayList", 0, 0) := ⟨_, rfl, by decide, uw (i := 74) rfl rfl, Or.inr (uw (i := 75) rfl rfl)⟩
set_option maxRecDepth 20000 in
theorem lf_4 : okF ("Claimclub", 10, "Claimclub", 4, 0) := ⟨_, rfl, by decide, uw (i := 84) rfl rfl, Or.inl rfl⟩
set_option maxRecDepth 20000 in
theorem lf_5 : okF ("Claimclub", 16, "Claimclub", 4, 1) := ⟨_, rfl, by decide, uw (i := 85) rfl rfl, Or.inl rfl⟩
set_option maxRecDepth 20000 in
theorem lf_6 : okF ("Claimclub", 19, "Claimclub", 4, 2) := ⟨_, rfl, by decide, uw (i := 86) rfl rfl, Or.inl rfl⟩
set_option maxRecDepth 20000 in
theorem lf_7 : okF ("Claimclub", 22, "Claimclub", 4, 3) := ⟨_, rfl, by decide, uw (i := 87) rfl rfl, Or.inl rfl⟩
set_option maxRecDepth 20000 in
theorem lf_8 : okF ("Claimclub", 26, "Claimclub", 4, 4) := ⟨_, rfl, by decide, uw (i := 88) rfl rfl, Or.inl rfl⟩
set_option maxRecDepth 20000 in
theorem lf_9 : okF ("Claimclub", 32, "Claimclub", 4, 5) := ⟨_, rfl, by decide, uw (i := 89) rfl rfl, Or.inl rfl⟩
set_option maxRecDepth 20000 in
theorem lf_10 : okF ("Claimclub", 35, "Claimclub", 4, 6) := ⟨_, rfl, by decide, uw (i := 90) rfl rfl, Or.inl rfl⟩
set_option maxRecDepth 20000 in
theorem lf_11 : okF ("Claimclub", 38, "Claimclub", 4, 7) := ⟨_, rfl, by decide, uw (i := 91) rfl rfl, Or.inl rfl⟩
set_option maxRecDepth 20000 in
theorem lf_12 : okF ("Claimclub", 41, "Claimclub", 4, 8) := ⟨_, rfl, by decide, uw (i := 92) rfl rfl, Or.inl rfl⟩
set_option maxRecDepth 20000 in
theorem lf_13 : okF ("Claimclub", 44, "Claimclub", 4, 9) := ⟨_, rfl, by decide, uw (i := 93) rfl rfl, Or.inl rfl⟩
set_option maxRecDepth 20000 in
theorem lf_14 : okF ("Claimclub", 47, "Claimclub", 4, 10) := ⟨_, rfl, by decide, uw (i := 94) rfl rfl, Or.inl rfl⟩
set_option maxRecDepth 20000 in
theorem lf_15 : okF ("Claimclub", 50, "Claimclub", 4, 11) := ⟨_, rfl, by decide, uw (i := 95) rfl rfl, Or.inl rfl⟩
set_option maxRecDepth 20000 in
theorem lf_16 : okF ("Claimclub", 53, "Claimclub", 4, 12) := ⟨_, rfl, by decide, uw (i := 96) rfl rfl, Or.inl rfl⟩
set_option maxRecDepth 20000 in
theorem lf_17 : okF ("Claimclub", 56, "Claimclub", 4, 13) := ⟨_, rfl, by decide, uw (i := 97) rfl rfl, Or.inl rfl⟩
set_option maxRecDepth 20000 in
theorem lf_18 : okF ("Claimclub$Claim", 53, "Claimclub$Claim", 1, 0) := ⟨_, rfl, by decide, uw (i := 322) rfl rfl, Or.inl rfl⟩
set_option maxRecDepth 20000 in
theorem lf_19 : okF ("Claimclub", 186, "Claimclub$Claim", 1, 0) := ⟨_, rfl, by decide, uw (i := 323) rfl rfl, Or.inl rfl⟩
set_option maxRecDepth 20000 in
theorem lf_20 : okF ("Claimclub$Claim", 56, "Claimclub$Claim", 1, 1) := ⟨_, rfl, by decide, uw (i := 324) rfl rfl, Or.inl rfl⟩
set_option maxRecDepth 20000 in
theorem lf_21 : okF ("Claimclub", 216, "Claimclub$Claim", 1, 1) := ⟨_, rfl, by decide, uw (i := 325) rfl rfl, Or.inl rfl⟩
set_option maxRecDepth 20000 in
theorem lf_22 : okF ("Claimclub$Claim", 59, "Claimclub$Claim", 1, 2) := ⟨_, rfl, by decide, uw (i := 326) rfl rfl, Or.inl rfl⟩
set_option maxRecDepth 20000 in
theorem lf_23 : okF ("Claimclub", 155, "Claimclub$Claim", 1, 2) := ⟨_, rfl, by decide, uw (i := 327) rfl rfl, Or.inl rfl⟩
set_option maxRecDepth 20000 in
theorem lf_24 : okF ("Claimclub$Claim", 62, "Claimclub$Claim", 1, 3) := ⟨_, rfl, by decide, uw (i := 328) rfl rfl, Or.inl rfl⟩
set_option maxRecDepth 20000 in
theorem lf_25 : okF ("Claimclub", 219, "Claimclub$Claim", 1, 3) := ⟨_, rfl, by decide, uw (i := 329) rfl rfl, Or.inl rfl⟩
set_option maxRecDepth 20000 in
theorem lf_26 : okF ("Claimclub$Claim", 65, "Claimclub$Claim", 1, 4) := ⟨_, rfl, by decide, uw (i := 330) rfl rfl, Or.inl rfl⟩
set_option maxRecDepth 20000 in
theorem lf_27 : okF ("Claimclub", 103, "Claimclub$Claim", 1, 4) := ⟨_, rfl, by decide, uw (i := 331) rfl rfl, Or.inl rfl⟩
set_option maxRecDepth 20000 in
theorem lf_28 : okF ("Claimclub$Claim", 9, "Claimclub$Claim", 1, 5) := ⟨_, rfl, by decide, uw (i := 332) rfl rfl, Or.inl rfl⟩
set_option maxRecDepth 20000 in
theorem lf_29 : okF ("Claimclub", 357, "Claimclub$Claim", 1, 5) := ⟨_, rfl, by decide, uw (i := 333) rfl rfl, Or.inl rfl⟩
set_option maxRecDepth 20000 in
theorem lf_30 : okF ("Claimclub$Claim", 15, "Claimclub$Claim", 1, 6) := ⟨_, rfl, by decide, uw (i := 334) rfl rfl, Or.inl rfl⟩
set_option maxRecDepth 20000 in
theorem lf_31 : okF ("Claimclub$Claim", 19, "Claimclub$Claim", 1, 7) := ⟨_, rfl, by decide, uw (i := 335) rfl rfl, Or.inl rfl⟩
set_option maxRecDepth 20000 in
theorem lf_32 : okF ("Claimclub", 171, "Claimclub$Claim", 1, 7) := ⟨_, rfl, by decide, uw (i := 336) rfl rfl, Or.inl rfl⟩
set_option maxRecDepth 20000 in
theorem lf_33 : okF ("Claimclub$Claim", 22, "Claimclub$Claim", 1, 8) := ⟨_, rfl, by decide, uw (i := 337) rfl rfl, Or.inl rfl⟩
set_option maxRecDepth 20000 in
theorem lf_34 : okF ("Claimclub", 197, "Claimclub$Claim", 1, 8) := ⟨_, rfl, by decide, uw (i := 338) rfl rfl, Or.inl rfl⟩
set_option maxRecDepth 20000 in
theorem lf_35 : okF ("Claimclub$Claim", 25, "Claimclub$Claim", 1, 9) := ⟨_, rfl, by decide, uw (i := 339) rfl rfl, Or.inl rfl⟩
set_option maxRecDepth 20000 in
theorem lf_36 : okF ("Claimclub", 174, "Claimclub$Claim", 1, 9) := ⟨_, rfl, by decide, uw (i := 340) rfl rfl, Or.inl rfl⟩
set_option maxRecDepth 20000 in
theorem lf_37 : okF ("Claimclub$Claim", 28, "Claimclub$Claim", 1, 10) := ⟨_, rfl, by decide, uw (i := 341) rfl rfl, Or.inl rfl⟩
set_option maxRecDepth 20000 in
theorem lf_38 : okF ("Claimclub", 100, "Claimclub$Claim", 1, 10) := ⟨_, rfl, by decide, uw (i := 342) rfl rfl, Or.inl rfl⟩
set_option maxRecDepth 20000 in
theorem lf_39 : okF ("Claimclub$Claim", 31, "Claimclub$Claim", 1, 11) := ⟨_, rfl, by decide, uw (i := 343) rfl rfl, Or.inl rfl⟩
set_option maxRecDepth 20000 in
theorem lf_40 : okF ("Claimclub", 152, "Claimclub$Claim", 1, 11) := ⟨_, rfl, by decide, uw (i := 344) rfl rfl, Or.inl rfl⟩
set_option maxRecDepth 20000 in
theorem lf_41 : okF ("Claimclub$Claim", 34, "Claimclub$Claim", 1, 12) := ⟨_, rfl, by decide, uw (i := 345) rfl rfl, Or.inl rfl⟩
set_option maxRecDepth 20000 in
theorem lf_42 : okF ("Claimclub", 231, "Claimclub$Claim", 1, 12) := ⟨_, rfl, by decide, uw (i := 346) rfl rfl, Or.inl rfl⟩
set_option maxRecDepth 20000 in
theorem lf_43 : okF ("Claimclub$Claim", 37, "Claimclub$Claim", 1, 13) := ⟨_, rfl, by decide, uw (i := 347) rfl rfl, Or.inl rfl⟩
set_option maxRecDepth 20000 in
theorem lf_44 : okF ("Claimclub", 238, "Claimclub$Claim", 1, 13) := ⟨_, rfl, by decide, uw (i := 348) rfl rfl, Or.inl rfl⟩
set_option maxRecDepth 20000 in
theorem lf_45 : okF ("Claimclub$Claim", 40, "Claimclub$Claim", 1, 14) := ⟨_, rfl, by decide, uw (i := 349) rfl rfl, Or.inl rfl⟩
set_option maxRecDepth 20000 in
theorem lf_46 : okF ("Claimclub", 241, "Claimclub$Claim", 1, 14) := ⟨_, rfl, by decide, uw (i := 350) rfl rfl, Or.inl rfl⟩
set_option maxRecDepth 20000 in
theorem lf_47 : okF ("Claimclub$Claim", 43, "Claimclub$Claim", 1, 15) := ⟨_, rfl, by decide, uw (i := 351) rfl rfl, Or.inl rfl⟩
set_option maxRecDepth 20000 in
theorem lf_48 : okF ("Claimclub", 360, "Claimclub$Claim", 1, 15) := ⟨_, rfl, by decide, uw (i := 352) rfl rfl, Or.inl rfl⟩
set_option maxRecDepth 20000 in
theorem lf_49 : okF ("Claimclub$Claim", 46, "Claimclub$Claim", 1, 16) := ⟨_, rfl, by decide, uw (i := 353) rfl rfl, Or.inl rfl⟩
set_option maxRecDepth 20000 in
theorem lf_50 : okF ("Claimclub$Claim", 50, "Claimclub$Claim", 1, 17) := ⟨_, rfl, by decide, uw (i := 354) rfl rfl, Or.inl rfl⟩
set_option maxRecDepth 20000 in
theorem lf_51 : okF ("Claimclub$Offer", 13, "Claimclub$Offer", 2, 0) := ⟨_, rfl, by decide, uw (i := 533) rfl rfl, Or.inl rfl⟩
set_option maxRecDepth 20000 in
theorem lf_52 : okF ("Claimclub$Offer", 17, "Claimclub$Offer", 2, 1) := ⟨_, rfl, by decide, uw (i := 534) rfl rfl, Or.inl rfl⟩
set_option maxRecDepth 20000 in
theorem lf_53 : okF ("Claimclub", 225, "Claimclub$Offer", 2, 1) := ⟨_, rfl, by decide, uw (i := 535) rfl rfl, Or.inl rfl⟩
set_option maxRecDepth 20000 in
theorem lf_54 : okF ("Claimclub$Offer", 20, "Claimclub$Offer", 2, 2) := ⟨_, rfl, by decide, uw (i := 536) rfl rfl, Or.inl rfl⟩
set_option maxRecDepth 20000 in
theorem lf_55 : okF ("Claimclub", 228, "Claimclub$Offer", 2, 2) := ⟨_, rfl, by decide, uw (i := 537) rfl rfl, Or.inl rfl⟩
set_option maxRecDepth 20000 in
theorem lf_56 : okF ("Claimclub$Offer", 7, "Claimclub$Offer", 2, 3) := ⟨_, rfl, by decide, uw (i := 538) rfl rfl, Or.inl rfl⟩
set_option maxRecDepth 20000 in
theorem lf_57 : okF ("Claimclub$Thing", 13, "Claimclub$Thing", 3, 0) := ⟨_, rfl, by decide, uw (i := 638) rfl rfl, Or.inl rfl⟩
set_option maxRecDepth 20000 in
theorem lf_58 : okF ("Claimclub", 309, "Claimclub$Thing", 3, 0) := ⟨_, rfl, by decide, uw (i := 639) rfl rfl, Or.inl rfl⟩
set_option maxRecDepth 20000 in
theorem lf_59 : okF ("Claimclub$Thing", 7, "Claimclub$Thing", 3, 1) := ⟨_, rfl, by decide, uw (i := 640) rfl rfl, Or.inl rfl⟩
set_option maxRecDepth 20000 in
theorem lf_60 : okF ("Claimclub", 304, "Claimclub$Thing", 3, 1) := ⟨_, rfl, by decide, uw (i := 641) rfl rfl, Or.inl rfl⟩
set_option maxRecDepth 4000 in
theorem lkF_ok : ∀ z ∈ lkF, okF z := List.forall_mem_cons.mpr ⟨lf_0, List.forall_mem_cons.mpr ⟨lf_1, List.forall_mem_cons.mpr ⟨lf_2, List.forall_mem_cons.mpr ⟨lf_3, List.forall_mem_cons.mpr ⟨lf_4, List.forall_mem_cons.mpr ⟨lf_5, List.forall_mem_cons.mpr ⟨lf_6, List.forall_mem_cons.mpr ⟨lf_7, List.forall_mem_cons.mpr ⟨lf_8, List.forall_mem_cons.mpr ⟨lf_9, List.forall_mem_cons.mpr ⟨lf_10, List.forall_mem_cons.mpr ⟨lf_11, List.forall_mem_cons.mpr ⟨lf_12, List.forall_mem_cons.mpr ⟨lf_13, List.forall_mem_cons.mpr ⟨lf_14, List.forall_mem_cons.mpr ⟨lf_15, List.forall_mem_cons.mpr ⟨lf_16, List.forall_mem_cons.mpr ⟨lf_17, List.forall_mem_cons.mpr ⟨lf_18, List.forall_mem_cons.mpr ⟨lf_19, List.forall_mem_cons.mpr ⟨lf_20, List.forall_mem_cons.mpr ⟨lf_21, List.forall_mem_cons.mpr ⟨lf_22, List.forall_mem_cons.mpr ⟨lf_23, List.forall_mem_cons.mpr ⟨lf_24, List.forall_mem_cons.mpr ⟨lf_25, List.forall_mem_cons.mpr ⟨lf_26, List.forall_mem_cons.mpr ⟨lf_27, List.forall_mem_cons.mpr ⟨lf_28, List.forall_mem_cons.mpr ⟨lf_29, List.forall_mem_cons.mpr ⟨lf_30, List.forall_mem_cons.mpr ⟨lf_31, List.forall_mem_cons.mpr ⟨lf_32, List.forall_mem_cons.mpr ⟨lf_33, List.forall_mem_cons.mpr ⟨lf_34, List.forall_mem_cons.mpr ⟨lf_35, List.forall_mem_cons.mpr ⟨lf_36, List.forall_mem_cons.mpr ⟨lf_37, List.forall_mem_cons.mpr ⟨lf_38, List.forall_mem_cons.mpr ⟨lf_39, List.forall_mem_cons.mpr ⟨lf_40, List.forall_mem_cons.mpr ⟨lf_41, List.forall_mem_cons.mpr ⟨lf_42, List.forall_mem_cons.mpr ⟨lf_43, List.forall_mem_cons.mpr ⟨lf_44, List.forall_mem_cons.mpr ⟨lf_45, List.forall_mem_cons.mpr ⟨lf_46, List.forall_mem_cons.mpr ⟨lf_47, List.forall_mem_cons.mpr ⟨lf_48, List.forall_mem_cons.mpr ⟨lf_49, List.forall_mem_cons.mpr ⟨lf_50, List.forall_mem_cons.mpr ⟨lf_51, List.forall_mem_cons.mpr ⟨lf_52, List.forall_mem_cons.mpr ⟨lf_53, List.forall_mem_cons.mpr ⟨lf_54, List.forall_mem_cons.mpr ⟨lf_55, List.forall_mem_cons.mpr ⟨lf_56, List.forall_mem_cons.mpr ⟨lf_57, List.forall_mem_cons.mpr ⟨lf_58, List.forall_mem_cons.mpr ⟨lf_59, List.forall_mem_cons.mpr ⟨lf_60, fun _ h => absurd h List.not_mem_nil⟩⟩⟩⟩⟩⟩⟩⟩⟩⟩⟩⟩⟩⟩⟩⟩⟩⟩⟩⟩⟩⟩⟩⟩⟩⟩⟩⟩⟩⟩⟩⟩⟩⟩⟩⟩⟩⟩⟩⟩⟩⟩⟩⟩⟩⟩⟩⟩⟩⟩⟩⟩⟩⟩⟩⟩⟩⟩⟩⟩⟩
def lkC : List (String × Nat × Nat) := [("ClaimclubLaw", 13, 4), ("Claimclub", 7, 0), ("Claimclub", 68, 1), ("Claimclub", 202, 2), ("Claimclub", 294, 3)]
def okCl (z : String × Nat × Nat) : Prop := ∃ r, vwCl[z.2.2]? = some r ∧ Cond.classLink z.1 z.2.1 r.1 ∈ UW
set_option maxRecDepth 20000 in
theorem lc_0 : okCl ("ClaimclubLaw", 13, 4) := ⟨_, rfl, uw (i := 49) rfl rfl⟩
set_option maxRecDepth 20000 in
theorem lc_1 : okCl ("Claimclub", 7, 0) := ⟨_, rfl, uw (i := 57) rfl rfl⟩
set_option maxRecDepth 20000 in
theorem lc_2 : okCl ("Claimclub", 68, 1) := ⟨_, rfl, uw (i := 153) rfl rfl⟩
set_option maxRecDepth 20000 in
theorem lc_3 : okCl ("Claimclub", 202, 2) := ⟨_, rfl, uw (i := 527) rfl rfl⟩
set_option maxRecDepth 20000 in
theorem lc_4 : okCl ("Claimclub", 294, 3) := ⟨_, rfl, uw (i := 632) rfl rfl⟩
theorem lkC_ok : ∀ z ∈ lkC, okCl z := List.forall_mem_cons.mpr ⟨lc_0, List.forall_mem_cons.mpr ⟨lc_1, List.forall_mem_cons.mpr ⟨lc_2, List.forall_mem_cons.mpr ⟨lc_3, List.forall_mem_cons.mpr ⟨lc_4, fun _ h => absurd h List.not_mem_nil⟩⟩⟩⟩⟩
