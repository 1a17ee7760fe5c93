/-! THE ABSTRACT MACHINE, 4: the tables of classes and fields -/
set_option maxRecDepth 20000 in
theorem ly_0_0 : u_lay RJx4a65c TJx4a65c 0 ∈ UW := uw (i := 104) rfl rfl
set_option maxRecDepth 20000 in
theorem ly_0_1 : u_lay RJx4a65c TJx4a65c 1 ∈ UW := uw (i := 100) rfl rfl
set_option maxRecDepth 20000 in
theorem ly_0_2 : u_lay RJx4a65c TJx4a65c 2 ∈ UW := uw (i := 102) rfl rfl
theorem ly_0 : ∀ w ∈ u_ws RJx4a65c TJx4a65c 3, w ∈ UW := fun w hw => by
  obtain ⟨k, hk, rfl⟩ := List.mem_map.mp hw
  have hk := List.mem_range.mp hk
  match k, hk with
  | 0, _ => exact ly_0_0
  | 1, _ => exact ly_0_1
  | 2, _ => exact ly_0_2
  | _ + 3, h => exact absurd h (by omega)
set_option maxRecDepth 20000 in
theorem ins_0 : Cond.instantiable RJx4a65c 3 ∈ UW := uw (i := 82) rfl rfl
set_option maxRecDepth 20000 in
theorem ini_0 : Cond.initialized RJx4a65c ∈ UW := uw (i := 56) rfl rfl
set_option maxRecDepth 20000 in
theorem ly_1_0 : u_lay RX0 TX0 0 ∈ UW := uw (i := 328) rfl rfl
set_option maxRecDepth 20000 in
theorem ly_1_1 : u_lay RX0 TX0 1 ∈ UW := uw (i := 330) rfl rfl
set_option maxRecDepth 20000 in
theorem ly_1_2 : u_lay RX0 TX0 2 ∈ UW := uw (i := 332) rfl rfl
set_option maxRecDepth 20000 in
theorem ly_1_3 : u_lay RX0 TX0 3 ∈ UW := uw (i := 334) rfl rfl
set_option maxRecDepth 20000 in
theorem ly_1_4 : u_lay RX0 TX0 4 ∈ UW := uw (i := 336) rfl rfl
set_option maxRecDepth 20000 in
theorem ly_1_5 : u_lay RX0 TX0 5 ∈ UW := uw (i := 338) rfl rfl
set_option maxRecDepth 20000 in
theorem ly_1_6 : u_lay RX0 TX0 6 ∈ UW := uw (i := 340) rfl rfl
set_option maxRecDepth 20000 in
theorem ly_1_7 : u_lay RX0 TX0 7 ∈ UW := uw (i := 342) rfl rfl
set_option maxRecDepth 20000 in
theorem ly_1_8 : u_lay RX0 TX0 8 ∈ UW := uw (i := 344) rfl rfl
set_option maxRecDepth 20000 in
theorem ly_1_9 : u_lay RX0 TX0 9 ∈ UW := uw (i := 346) rfl rfl
set_option maxRecDepth 20000 in
theorem ly_1_10 : u_lay RX0 TX0 10 ∈ UW := uw (i := 348) rfl rfl
set_option maxRecDepth 20000 in
theorem ly_1_11 : u_lay RX0 TX0 11 ∈ UW := uw (i := 350) rfl rfl
set_option maxRecDepth 20000 in
theorem ly_1_12 : u_lay RX0 TX0 12 ∈ UW := uw (i := 352) rfl rfl
set_option maxRecDepth 20000 in
theorem ly_1_13 : u_lay RX0 TX0 13 ∈ UW := uw (i := 354) rfl rfl
set_option maxRecDepth 20000 in
theorem ly_1_14 : u_lay RX0 TX0 14 ∈ UW := uw (i := 356) rfl rfl
set_option maxRecDepth 20000 in
theorem ly_1_15 : u_lay RX0 TX0 15 ∈ UW := uw (i := 358) rfl rfl
set_option maxRecDepth 20000 in
theorem ly_1_16 : u_lay RX0 TX0 16 ∈ UW := uw (i := 360) rfl rfl
set_option maxRecDepth 20000 in
theorem ly_1_17 : u_lay RX0 TX0 17 ∈ UW := uw (i := 362) rfl rfl
theorem ly_1 : ∀ w ∈ u_ws RX0 TX0 18, w ∈ UW := fun w hw => by
  obtain ⟨k, hk, rfl⟩ := List.mem_map.mp hw
  have hk := List.mem_range.mp hk
  match k, hk with
  | 0, _ => exact ly_1_0
  | 1, _ => exact ly_1_1
  | 2, _ => exact ly_1_2
  | 3, _ => exact ly_1_3
  | 4, _ => exact ly_1_4
  | 5, _ => exact ly_1_5
  | 6, _ => exact ly_1_6
  | 7, _ => exact ly_1_7
  | 8, _ => exact ly_1_8
  | 9, _ => exact ly_1_9
  | 10, _ => exact ly_1_10
  | 11, _ => exact ly_1_11
  | 12, _ => exact ly_1_12
  | 13, _ => exact ly_1_13
  | 14, _ => exact ly_1_14
  | 15, _ => exact ly_1_15
  | 16, _ => exact ly_1_16
  | 17, _ => exact ly_1_17
  | _ + 18, h => exact absurd h (by omega)
set_option maxRecDepth 20000 in
theorem ins_1 : Cond.instantiable RX0 18 ∈ UW := uw (i := 290) rfl rfl
set_option maxRecDepth 20000 in
theorem ini_1 : Cond.initialized RX0 ∈ UW := uw (i := 63) rfl rfl
set_option maxRecDepth 20000 in
theorem ly_2_0 : u_lay RX1 TX1 0 ∈ UW := uw (i := 590) rfl rfl
set_option maxRecDepth 20000 in
theorem ly_2_1 : u_lay RX1 TX1 1 ∈ UW := uw (i := 592) rfl rfl
set_option maxRecDepth 20000 in
theorem ly_2_2 : u_lay RX1 TX1 2 ∈ UW := uw (i := 594) rfl rfl
set_option maxRecDepth 20000 in
theorem ly_2_3 : u_lay RX1 TX1 3 ∈ UW := uw (i := 596) rfl rfl
theorem ly_2 : ∀ w ∈ u_ws RX1 TX1 4, w ∈ UW := fun w hw => by
  obtain ⟨k, hk, rfl⟩ := List.mem_map.mp hw
  have hk := List.mem_range.mp hk
  match k, hk with
  | 0, _ => exact ly_2_0
  | 1, _ => exact ly_2_1
  | 2, _ => exact ly_2_2
  | 3, _ => exact ly_2_3
  | _ + 4, h => exact absurd h (by omega)
set_option maxRecDepth 20000 in
theorem ins_2 : Cond.instantiable RX1 4 ∈ UW := uw (i := 579) rfl rfl
set_option maxRecDepth 20000 in
theorem ini_2 : Cond.initialized RX1 ∈ UW := uw (i := 71) rfl rfl
set_option maxRecDepth 20000 in
theorem ly_3_0 : u_lay RX2 TX2 0 ∈ UW := uw (i := 711) rfl rfl
set_option maxRecDepth 20000 in
theorem ly_3_1 : u_lay RX2 TX2 1 ∈ UW := uw (i := 713) rfl rfl
theorem ly_3 : ∀ w ∈ u_ws RX2 TX2 2, w ∈ UW := fun w hw => by
  obtain ⟨k, hk, rfl⟩ := List.mem_map.mp hw
  have hk := List.mem_range.mp hk
  match k, hk with
  | 0, _ => exact ly_3_0
  | 1, _ => exact ly_3_1
  | _ + 2, h => exact absurd h (by omega)
set_option maxRecDepth 20000 in
theorem ins_3 : Cond.instantiable RX2 2 ∈ UW := uw (i := 702) rfl rfl
set_option maxRecDepth 20000 in
theorem ini_3 : Cond.initialized RX2 ∈ UW := uw (i := 72) rfl rfl
set_option maxRecDepth 20000 in
theorem ly_4_0 : u_lay RX3 TX3 0 ∈ UW := uw (i := 122) rfl rfl
set_option maxRecDepth 20000 in
theorem ly_4_1 : u_lay RX3 TX3 1 ∈ UW := uw (i := 124) rfl rfl
set_option maxRecDepth 20000 in
theorem ly_4_2 : u_lay RX3 TX3 2 ∈ UW := uw (i := 126) rfl rfl
set_option maxRecDepth 20000 in
theorem ly_4_3 : u_lay RX3 TX3 3 ∈ UW := uw (i := 128) rfl rfl
set_option maxRecDepth 20000 in
theorem ly_4_4 : u_lay RX3 TX3 4 ∈ UW := uw (i := 130) rfl rfl
set_option maxRecDepth 20000 in
theorem ly_4_5 : u_lay RX3 TX3 5 ∈ UW := uw (i := 132) rfl rfl
set_option maxRecDepth 20000 in
theorem ly_4_6 : u_lay RX3 TX3 6 ∈ UW := uw (i := 134) rfl rfl
set_option maxRecDepth 20000 in
theorem ly_4_7 : u_lay RX3 TX3 7 ∈ UW := uw (i := 136) rfl rfl
set_option maxRecDepth 20000 in
theorem ly_4_8 : u_lay RX3 TX3 8 ∈ UW := uw (i := 138) rfl rfl
set_option maxRecDepth 20000 in
theorem ly_4_9 : u_lay RX3 TX3 9 ∈ UW := uw (i := 140) rfl rfl
set_option maxRecDepth 20000 in
theorem ly_4_10 : u_lay RX3 TX3 10 ∈ UW := uw (i := 142) rfl rfl
set_option maxRecDepth 20000 in
theorem ly_4_11 : u_lay RX3 TX3 11 ∈ UW := uw (i := 144) rfl rfl
set_option maxRecDepth 20000 in
theorem ly_4_12 : u_lay RX3 TX3 12 ∈ UW := uw (i := 146) rfl rfl
set_option maxRecDepth 20000 in
theorem ly_4_13 : u_lay RX3 TX3 13 ∈ UW := uw (i := 148) rfl rfl
theorem ly_4 : ∀ w ∈ u_ws RX3 TX3 14, w ∈ UW := fun w hw => by
  obtain ⟨k, hk, rfl⟩ := List.mem_map.mp hw
  have hk := List.mem_range.mp hk
  match k, hk with
  | 0, _ => exact ly_4_0
  | 1, _ => exact ly_4_1
  | 2, _ => exact ly_4_2
  | 3, _ => exact ly_4_3
  | 4, _ => exact ly_4_4
  | 5, _ => exact ly_4_5
  | 6, _ => exact ly_4_6
  | 7, _ => exact ly_4_7
  | 8, _ => exact ly_4_8
  | 9, _ => exact ly_4_9
  | 10, _ => exact ly_4_10
  | 11, _ => exact ly_4_11
  | 12, _ => exact ly_4_12
  | 13, _ => exact ly_4_13
  | _ + 14, h => exact absurd h (by omega)
set_option maxRecDepth 20000 in
theorem ins_4 : Cond.instantiable RX3 14 ∈ UW := uw (i := 74) rfl rfl
set_option maxRecDepth 20000 in
theorem ini_4 : Cond.initialized RX3 ∈ UW := uw (i := 53) rfl rfl
set_option maxRecDepth 20000 in
theorem ly_5_0 : u_lay RX4 TX4 0 ∈ UW := uw (i := 897) rfl rfl
set_option maxRecDepth 20000 in
theorem ly_5_1 : u_lay RX4 TX4 1 ∈ UW := uw (i := 899) rfl rfl
set_option maxRecDepth 20000 in
theorem ly_5_2 : u_lay RX4 TX4 2 ∈ UW := uw (i := 901) rfl rfl
set_option maxRecDepth 20000 in
theorem ly_5_3 : u_lay RX4 TX4 3 ∈ UW := uw (i := 903) rfl rfl
set_option maxRecDepth 20000 in
theorem ly_5_4 : u_lay RX4 TX4 4 ∈ UW := uw (i := 905) rfl rfl
set_option maxRecDepth 20000 in
theorem ly_5_5 : u_lay RX4 TX4 5 ∈ UW := uw (i := 907) rfl rfl
set_option maxRecDepth 20000 in
theorem ly_5_6 : u_lay RX4 TX4 6 ∈ UW := uw (i := 909) rfl rfl
set_option maxRecDepth 20000 in
theorem ly_5_7 : u_lay RX4 TX4 7 ∈ UW := uw (i := 911) rfl rfl
set_option maxRecDepth 20000 in
theorem ly_5_8 : u_lay RX4 TX4 8 ∈ UW := uw (i := 913) rfl rfl
set_option maxRecDepth 20000 in
theorem ly_5_9 : u_lay RX4 TX4 9 ∈ UW := uw (i := 915) rfl rfl
set_option maxRecDepth 20000 in
theorem ly_5_10 : u_lay RX4 TX4 10 ∈ UW := uw (i := 917) rfl rfl
set_option maxRecDepth 20000 in
theorem ly_5_11 : u_lay RX4 TX4 11 ∈ UW := uw (i := 919) rfl rfl
set_option maxRecDepth 20000 in
theorem ly_5_12 : u_lay RX4 TX4 12 ∈ UW := uw (i := 921) rfl rfl
set_option maxRecDepth 20000 in
theorem ly_5_13 : u_lay RX4 TX4 13 ∈ UW := uw (i := 923) rfl rfl
set_option maxRecDepth 20000 in
theorem ly_5_14 : u_lay RX4 TX4 14 ∈ UW := uw (i := 925) rfl rfl
set_option maxRecDepth 20000 in
theorem ly_5_15 : u_lay RX4 TX4 15 ∈ UW := uw (i := 927) rfl rfl
set_option maxRecDepth 20000 in
theorem ly_5_16 : u_lay RX4 TX4 16 ∈ UW := uw (i := 929) rfl rfl
set_option maxRecDepth 20000 in
theorem ly_5_17 : u_lay RX4 TX4 17 ∈ UW := uw (i := 931) rfl rfl
set_option maxRecDepth 20000 in
theorem ly_5_18 : u_lay RX4 TX4 18 ∈ UW := uw (i := 933) rfl rfl
set_option maxRecDepth 20000 in
theorem ly_5_19 : u_lay RX4 TX4 19 ∈ UW := uw (i := 935) rfl rfl
set_option maxRecDepth 20000 in
theorem ly_5_20 : u_lay RX4 TX4 20 ∈ UW := uw (i := 937) rfl rfl
set_option maxRecDepth 20000 in
theorem ly_5_21 : u_lay RX4 TX4 21 ∈ UW := uw (i := 939) rfl rfl
set_option maxRecDepth 20000 in
theorem ly_5_22 : u_lay RX4 TX4 22 ∈ UW := uw (i := 941) rfl rfl
set_option maxRecDepth 20000 in
theorem ly_5_23 : u_lay RX4 TX4 23 ∈ UW := uw (i := 943) rfl rfl
set_option maxRecDepth 20000 in
theorem ly_5_24 : u_lay RX4 TX4 24 ∈ UW := uw (i := 945) rfl rfl
set_option maxRecDepth 20000 in
theorem ly_5_25 : u_lay RX4 TX4 25 ∈ UW := uw (i := 947) rfl rfl
set_option maxRecDepth 20000 in
theorem ly_5_26 : u_lay RX4 TX4 26 ∈ UW := uw (i := 949) rfl rfl
set_option maxRecDepth 20000 in
theorem ly_5_27 : u_lay RX4 TX4 27 ∈ UW := uw (i := 951) rfl rfl
set_option maxRecDepth 20000 in
theorem ly_5_28 : u_lay RX4 TX4 28 ∈ UW := uw (i := 953) rfl rfl
set_option maxRecDepth 20000 in
theorem ly_5_29 : u_lay RX4 TX4 29 ∈ UW := uw (i := 955) rfl rfl
set_option maxRecDepth 20000 in
theorem ly_5_30 : u_lay RX4 TX4 30 ∈ UW := uw (i := 957) rfl rfl
set_option maxRecDepth 20000 in
theorem ly_5_31 : u_lay RX4 TX4 31 ∈ UW := uw (i := 959) rfl rfl
set_option maxRecDepth 20000 in
theorem ly_5_32 : u_lay RX4 TX4 32 ∈ UW := uw (i := 961) rfl rfl
set_option maxRecDepth 20000 in
theorem ly_5_33 : u_lay RX4 TX4 33 ∈ UW := uw (i := 963) rfl rfl
set_option maxRecDepth 20000 in
theorem ly_5_34 : u_lay RX4 TX4 34 ∈ UW := uw (i := 965) rfl rfl
set_option maxRecDepth 20000 in
theorem ly_5_35 : u_lay RX4 TX4 35 ∈ UW := uw (i := 967) rfl rfl
set_option maxRecDepth 20000 in
theorem ly_5_36 : u_lay RX4 TX4 36 ∈ UW := uw (i := 969) rfl rfl
set_option maxRecDepth 20000 in
theorem ly_5_37 : u_lay RX4 TX4 37 ∈ UW := uw (i := 971) rfl rfl
theorem ly_5 : ∀ w ∈ u_ws RX4 TX4 38, w ∈ UW := fun w hw => by
  obtain ⟨k, hk, rfl⟩ := List.mem_map.mp hw
  have hk := List.mem_range.mp hk
  match k, hk with
  | 0, _ => exact ly_5_0
  | 1, _ => exact ly_5_1
  | 2, _ => exact ly_5_2
  | 3, _ => exact ly_5_3
  | 4, _ => exact ly_5_4
  | 5, _ => exact ly_5_5
  | 6, _ => exact ly_5_6
  | 7, _ => exact ly_5_7
  | 8, _ => exact ly_5_8
  | 9, _ => exact ly_5_9
  | 10, _ => exact ly_5_10
  | 11, _ => exact ly_5_11
  | 12, _ => exact ly_5_12
  | 13, _ => exact ly_5_13
  | 14, _ => exact ly_5_14
  | 15, _ => exact ly_5_15
  | 16, _ => exact ly_5_16
  | 17, _ => exact ly_5_17
  | 18, _ => exact ly_5_18
  | 19, _ => exact ly_5_19
  | 20, _ => exact ly_5_20
  | 21, _ => exact ly_5_21
  | 22, _ => exact ly_5_22
  | 23, _ => exact ly_5_23
  | 24, _ => exact ly_5_24
  | 25, _ => exact ly_5_25
  | 26, _ => exact ly_5_26
  | 27, _ => exact ly_5_27
  | 28, _ => exact ly_5_28
  | 29, _ => exact ly_5_29
  | 30, _ => exact ly_5_30
  | 31, _ => exact ly_5_31
  | 32, _ => exact ly_5_32
  | 33, _ => exact ly_5_33
  | 34, _ => exact ly_5_34
  | 35, _ => exact ly_5_35
  | 36, _ => exact ly_5_36
  | 37, _ => exact ly_5_37
  | _ + 38, h => exact absurd h (by omega)
set_option maxRecDepth 20000 in
theorem ins_5 : Cond.instantiable RX4 38 ∈ UW := uw (i := 853) rfl rfl
set_option maxRecDepth 20000 in
theorem ini_5 : Cond.initialized RX4 ∈ UW := uw (i := 57) rfl rfl
/-- what holds of each class of vwCl -/
def okC (ci : Nat) (r : vw_C) : Prop := (∀ w ∈ u_ws r.1 r.2.1 r.2.2, w ∈ UW) ∧ (∀ k, k < r.2.2 → parseFieldDescriptor (r.2.1 k).2.2.1 = some (tyOf ci k)) ∧ (∀ a, a < r.2.2 → ∀ b, b < r.2.2 → a ≠ b → (r.2.1 a).2.1 ≠ (r.2.1 b).2.1) ∧ r.2.2 = nOf ci ∧ Cond.instantiable r.1 r.2.2 ∈ UW ∧ Cond.initialized r.1 ∈ UW ∧ (∀ k, k < r.2.2 → defaultValue (tyOf ci k) = fvt (tyOf ci k) 0 0 none)
theorem df_0 : ∀ k, k < 3 → defaultValue (tyJx4a65c k) = fvt (tyJx4a65c k) 0 0 none := fun k hk => by
  match k, hk with
  | 0, _ => rfl
  | 1, _ => rfl
  | 2, _ => rfl
  | _ + 3, h => exact absurd h (by omega)
theorem df_1 : ∀ k, k < 18 → defaultValue (tyX0 k) = fvt (tyX0 k) 0 0 none := fun k hk => by
  match k, hk with
  | 0, _ => rfl
  | 1, _ => rfl
  | 2, _ => rfl
  | 3, _ => rfl
  | 4, _ => rfl
  | 5, _ => rfl
  | 6, _ => rfl
  | 7, _ => rfl
  | 8, _ => rfl
  | 9, _ => rfl
  | 10, _ => rfl
  | 11, _ => rfl
  | 12, _ => rfl
  | 13, _ => rfl
  | 14, _ => rfl
  | 15, _ => rfl
  | 16, _ => rfl
  | 17, _ => rfl
  | _ + 18, h => exact absurd h (by omega)
theorem df_2 : ∀ k, k < 4 → defaultValue (tyX1 k) = fvt (tyX1 k) 0 0 none := fun k hk => by
  match k, hk with
  | 0, _ => rfl
  | 1, _ => rfl
  | 2, _ => rfl
  | 3, _ => rfl
  | _ + 4, h => exact absurd h (by omega)
theorem df_3 : ∀ k, k < 2 → defaultValue (tyX2 k) = fvt (tyX2 k) 0 0 none := fun k hk => by
  match k, hk with
  | 0, _ => rfl
  | 1, _ => rfl
  | _ + 2, h => exact absurd h (by omega)
theorem df_4 : ∀ k, k < 14 → defaultValue (tyX3 k) = fvt (tyX3 k) 0 0 none := fun k hk => by
  match k, hk with
  | 0, _ => rfl
  | 1, _ => rfl
  | 2, _ => rfl
  | 3, _ => rfl
  | 4, _ => rfl
  | 5, _ => rfl
  | 6, _ => rfl
  | 7, _ => rfl
  | 8, _ => rfl
  | 9, _ => rfl
  | 10, _ => rfl
  | 11, _ => rfl
  | 12, _ => rfl
  | 13, _ => rfl
  | _ + 14, h => exact absurd h (by omega)
theorem df_5 : ∀ k, k < 38 → defaultValue (tyX4 k) = fvt (tyX4 k) 0 0 none := fun k hk => by
  match k, hk with
  | 0, _ => rfl
  | 1, _ => rfl
  | 2, _ => rfl
  | 3, _ => rfl
  | 4, _ => rfl
  | 5, _ => rfl
  | 6, _ => rfl
  | 7, _ => rfl
  | 8, _ => rfl
  | 9, _ => rfl
  | 10, _ => rfl
  | 11, _ => rfl
  | 12, _ => rfl
  | 13, _ => rfl
  | 14, _ => rfl
  | 15, _ => rfl
  | 16, _ => rfl
  | 17, _ => rfl
  | 18, _ => rfl
  | 19, _ => rfl
  | 20, _ => rfl
  | 21, _ => rfl
  | 22, _ => rfl
  | 23, _ => rfl
  | 24, _ => rfl
  | 25, _ => rfl
  | 26, _ => rfl
  | 27, _ => rfl
  | 28, _ => rfl
  | 29, _ => rfl
  | 30, _ => rfl
  | 31, _ => rfl
  | 32, _ => rfl
  | 33, _ => rfl
  | 34, _ => rfl
  | 35, _ => rfl
  | 36, _ => rfl
  | 37, _ => rfl
  | _ + 38, h => exact absurd h (by omega)
theorem okC_at {ci : Nat} {r : vw_C} (h : vwCl[ci]? = some r) : okC ci r := by
  match ci, h with
  | 0, h => cases h; exact ⟨ly_0, tyJx4a65c_ok, nmJx4a65c, rfl, ins_0, ini_0, df_0⟩
  | 1, h => cases h; exact ⟨ly_1, tyX0_ok, nmX0, rfl, ins_1, ini_1, df_1⟩
  | 2, h => cases h; exact ⟨ly_2, tyX1_ok, nmX1, rfl, ins_2, ini_2, df_2⟩
  | 3, h => cases h; exact ⟨ly_3, tyX2_ok, nmX2, rfl, ins_3, ini_3, df_3⟩
  | 4, h => cases h; exact ⟨ly_4, tyX3_ok, nmX3, rfl, ins_4, ini_4, df_4⟩
  | 5, h => cases h; exact ⟨ly_5, tyX4_ok, nmX4, rfl, ins_5, ini_5, df_5⟩
  | _ + 6, h => exact absurd (vwCl_at h) (by omega)
/-- the links of fields: class, index, named class, class of vwCl, place -/
def lkF : List (String × Nat × String × Nat × Nat) := [("java/util/ArrayList", 9, "java/util/ArrayList", 0, 1), ("java/util/ArrayList", 48, "java/util/ArrayList", 0, 2), ("java/util/AbstractList", 7, "java/util/AbstractList", 0, 0), ("java/util/ArrayList", 63, "java/util/ArrayList", 0, 0), ("Claimclub", 10, "Claimclub", 4, 0), ("Claimclub", 16, "Claimclub", 4, 1), ("Claimclub", 19, "Claimclub", 4, 2), ("Claimclub", 22, "Claimclub", 4, 3), ("Claimclub", 26, "Claimclub", 4, 4), ("Claimclub", 32, "Claimclub", 4, 5), ("Claimclub", 35, "Claimclub", 4, 6), ("Claimclub", 38, "Claimclub", 4, 7), ("Claimclub", 41, "Claimclub", 4, 8), ("Claimclub", 44, "Claimclub", 4, 9), ("Claimclub", 47, "Claimclub", 4, 10), ("Claimclub", 50, "Claimclub", 4, 11), ("Claimclub", 53, "Claimclub", 4, 12), ("Claimclub", 56, "Claimclub", 4, 13), ("Claimclub$Claim", 53, "Claimclub$Claim", 1, 0), ("Claimclub", 186, "Claimclub$Claim", 1, 0), ("Claimclub$Claim", 56, "Claimclub$Claim", 1, 1), ("Claimclub", 216, "Claimclub$Claim", 1, 1), ("Claimclub$Claim", 59, "Claimclub$Claim", 1, 2), ("Claimclub", 155, "Claimclub$Claim", 1, 2), ("Claimclub$Claim", 62, "Claimclub$Claim", 1, 3), ("Claimclub", 219, "Claimclub$Claim", 1, 3), ("Claimclub$Claim", 65, "Claimclub$Claim", 1, 4), ("Claimclub", 103, "Claimclub$Claim", 1, 4), ("Claimclub$Claim", 9, "Claimclub$Claim", 1, 5), ("Claimclub", 357, "Claimclub$Claim", 1, 5), ("Claimclub$Claim", 15, "Claimclub$Claim", 1, 6), ("Claimclub$Claim", 19, "Claimclub$Claim", 1, 7), ("Claimclub", 171, "Claimclub$Claim", 1, 7), ("Claimclub$Claim", 22, "Claimclub$Claim", 1, 8), ("Claimclub", 197, "Claimclub$Claim", 1, 8), ("Claimclub$Claim", 25, "Claimclub$Claim", 1, 9), ("Claimclub", 174, "Claimclub$Claim", 1, 9), ("Claimclub$Claim", 28, "Claimclub$Claim", 1, 10), ("Claimclub", 100, "Claimclub$Claim", 1, 10), ("Claimclub$Claim", 31, "Claimclub$Claim", 1, 11), ("Claimclub", 152, "Claimclub$Claim", 1, 11), ("Claimclub$Claim", 34, "Claimclub$Claim", 1, 12), ("Claimclub", 231, "Claimclub$Claim", 1, 12), ("Claimclub$Claim", 37, "Claimclub$Claim", 1, 13), ("Claimclub", 238, "Claimclub$Claim", 1, 13), ("Claimclub$Claim", 40, "Claimclub$Claim", 1, 14), ("Claimclub", 241, "Claimclub$Claim", 1, 14), ("Claimclub$Claim", 43, "Claimclub$Claim", 1, 15), ("Claimclub", 360, "Claimclub$Claim", 1, 15), ("Claimclub$Claim", 46, "Claimclub$Claim", 1, 16), ("Claimclub$Claim", 50, "Claimclub$Claim", 1, 17), ("Claimclub$Offer", 13, "Claimclub$Offer", 2, 0), ("Claimclub$Offer", 17, "Claimclub$Offer", 2, 1), ("Claimclub", 225, "Claimclub$Offer", 2, 1), ("Claimclub$Offer", 20, "Claimclub$Offer", 2, 2), ("Claimclub", 228, "Claimclub$Offer", 2, 2), ("Claimclub$Offer", 7, "Claimclub$Offer", 2, 3), ("Claimclub$Thing", 13, "Claimclub$Thing", 3, 0), ("Claimclub", 309, "Claimclub$Thing", 3, 0), ("Claimclub$Thing", 7, "Claimclub$Thing", 3, 1), ("Claimclub", 304, "Claimclub$Thing", 3, 1), ("ClaimclubModel", 97, "ClaimclubModel", 5, 0), ("ClaimclubModel", 110, "ClaimclubModel", 5, 1), ("ClaimclubModel", 128, "ClaimclubModel", 5, 2), ("ClaimclubModel", 9, "ClaimclubModel", 5, 3), ("ClaimclubModel", 140, "ClaimclubModel", 5, 4), ("ClaimclubModel", 143, "ClaimclubModel", 5, 5), ("ClaimclubModel", 15, "ClaimclubModel", 5, 6), ("ClaimclubModel", 100, "ClaimclubModel", 5, 7), ("ClaimclubModel", 19, "ClaimclubModel", 5, 8), ("ClaimclubModel", 23, "ClaimclubModel", 5, 9), ("ClaimclubModel", 26, "ClaimclubModel", 5, 10), ("ClaimclubModel", 30, "ClaimclubModel", 5, 11), ("ClaimclubModel", 33, "ClaimclubModel", 5, 12), ("ClaimclubModel", 36, "ClaimclubModel", 5, 13), ("ClaimclubModel", 39, "ClaimclubModel", 5, 14), ("ClaimclubModel", 42, "ClaimclubModel", 5, 15), ("ClaimclubModel", 46, "ClaimclubModel", 5, 16), ("ClaimclubModel", 49, "ClaimclubModel", 5, 17), ("ClaimclubModel", 52, "ClaimclubModel", 5, 18), ("ClaimclubModel", 55, "ClaimclubModel", 5, 19), ("ClaimclubModel", 58, "ClaimclubModel", 5, 20), ("ClaimclubModel", 61, "ClaimclubModel", 5, 21), ("ClaimclubModel", 64, "ClaimclubModel", 5, 22), ("ClaimclubModel", 107, "ClaimclubModel", 5, 23), ("ClaimclubModel", 67, "ClaimclubModel", 5, 24), ("ClaimclubModel", 70, "ClaimclubModel", 5, 25), ("ClaimclubModel", 73, "ClaimclubModel", 5, 26), ("ClaimclubModel", 76, "ClaimclubModel", 5, 27), ("ClaimclubModel", 79, "ClaimclubModel", 5, 28), ("ClaimclubModel", 82, "ClaimclubModel", 5, 29), ("ClaimclubModel", 85, "ClaimclubModel", 5, 30), ("ClaimclubModel", 213, "ClaimclubModel", 5, 31), ("ClaimclubModel", 88, "ClaimclubModel", 5, 32), ("ClaimclubModel", 91, "ClaimclubModel", 5, 33), ("ClaimclubModel", 216, "ClaimclubModel", 5, 34), ("ClaimclubModel", 219, "ClaimclubModel", 5, 35), ("ClaimclubModel", 222, "ClaimclubModel", 5, 36), ("ClaimclubModel", 94, "ClaimclubModel", 5, 37)]
def okF (z : String × Nat × String × Nat × Nat) : Prop := ∃ r, vwCl[z.2.2.2.1]? = some r ∧ z.2.2.2.2 < r.2.2 ∧ Cond.fieldLink z.1 z.2.1 z.2.2.1 (r.2.1 z.2.2.2.2).2.1 (r.2.1 z.2.2.2.2).2.2.1 ∈ UW ∧ (z.2.2.1 = (r.2.1 z.2.2.2.2).1 ∨ Cond.sameField z.2.2.1 (r.2.1 z.2.2.2.2).1 (r.2.1 z.2.2.2.2).2.1 (r.2.1 z.2.2.2.2).2.2.1 ∈ UW)
set_option maxRecDepth 20000 in
theorem lf_0 : okF ("java/util/ArrayList", 9, "java/util/ArrayList", 0, 1) := ⟨_, rfl, by decide, uw (i := 95) rfl rfl, Or.inl rfl⟩
set_option maxRecDepth 20000 in
theorem lf_1 : okF ("java/util/ArrayList", 48, "java/util/ArrayList", 0, 2) := ⟨_, rfl, by decide, uw (i := 96) rfl rfl, Or.inl rfl⟩
set_option maxRecDepth 20000 in
theorem lf_2 : okF ("java/util/AbstractList", 7, "java/util/AbstractList", 0, 0) := ⟨_, rfl, by decide, uw (i := 97) rfl rfl, Or.inl rfl⟩
set_option maxRecDepth 20000 in
theorem lf_3 : okF ("java/util/ArrayList", 63, "java/util/ArrayList", 0, 0) := ⟨_, rfl, by decide, uw (i := 98) rfl rfl, Or.inr (uw (i := 99) rfl rfl)⟩
set_option maxRecDepth 20000 in
theorem lf_4 : okF ("Claimclub", 10, "Claimclub", 4, 0) := ⟨_, rfl, by decide, uw (i := 108) rfl rfl, Or.inl rfl⟩
set_option maxRecDepth 20000 in
theorem lf_5 : okF ("Claimclub", 16, "Claimclub", 4, 1) := ⟨_, rfl, by decide, uw (i := 109) rfl rfl, Or.inl rfl⟩
set_option maxRecDepth 20000 in
theorem lf_6 : okF ("Claimclub", 19, "Claimclub", 4, 2) := ⟨_, rfl, by decide, uw (i := 110) rfl rfl, Or.inl rfl⟩
set_option maxRecDepth 20000 in
theorem lf_7 : okF ("Claimclub", 22, "Claimclub", 4, 3) := ⟨_, rfl, by decide, uw (i := 111) rfl rfl, Or.inl rfl⟩
set_option maxRecDepth 20000 in
theorem lf_8 : okF ("Claimclub", 26, "Claimclub", 4, 4) := ⟨_, rfl, by decide, uw (i := 112) rfl rfl, Or.inl rfl⟩
set_option maxRecDepth 20000 in
theorem lf_9 : okF ("Claimclub", 32, "Claimclub", 4, 5) := ⟨_, rfl, by decide, uw (i := 113) rfl rfl, Or.inl rfl⟩
set_option maxRecDepth 20000 in
theorem lf_10 : okF ("Claimclub", 35, "Claimclub", 4, 6) := ⟨_, rfl, by decide, uw (i := 114) rfl rfl, Or.inl rfl⟩
set_option maxRecDepth 20000 in
theorem lf_11 : okF ("Claimclub", 38, "Claimclub", 4, 7) := ⟨_, rfl, by decide, uw (i := 115) rfl rfl, Or.inl rfl⟩
set_option maxRecDepth 20000 in
theorem lf_12 : okF ("Claimclub", 41, "Claimclub", 4, 8) := ⟨_, rfl, by decide, uw (i := 116) rfl rfl, Or.inl rfl⟩
set_option maxRecDepth 20000 in
theorem lf_13 : okF ("Claimclub", 44, "Claimclub", 4, 9) := ⟨_, rfl, by decide, uw (i := 117) rfl rfl, Or.inl rfl⟩
set_option maxRecDepth 20000 in
theorem lf_14 : okF ("Claimclub", 47, "Claimclub", 4, 10) := ⟨_, rfl, by decide, uw (i := 118) rfl rfl, Or.inl rfl⟩
set_option maxRecDepth 20000 in
theorem lf_15 : okF ("Claimclub", 50, "Claimclub", 4, 11) := ⟨_, rfl, by decide, uw (i := 119) rfl rfl, Or.inl rfl⟩
set_option maxRecDepth 20000 in
theorem lf_16 : okF ("Claimclub", 53, "Claimclub", 4, 12) := ⟨_, rfl, by decide, uw (i := 120) rfl rfl, Or.inl rfl⟩
set_option maxRecDepth 20000 in
theorem lf_17 : okF ("Claimclub", 56, "Claimclub", 4, 13) := ⟨_, rfl, by decide, uw (i := 121) rfl rfl, Or.inl rfl⟩
set_option maxRecDepth 20000 in
theorem lf_18 : okF ("Claimclub$Claim", 53, "Claimclub$Claim", 1, 0) := ⟨_, rfl, by decide, uw (i := 295) rfl rfl, Or.inl rfl⟩
set_option maxRecDepth 20000 in
theorem lf_19 : okF ("Claimclub", 186, "Claimclub$Claim", 1, 0) := ⟨_, rfl, by decide, uw (i := 296) rfl rfl, Or.inl rfl⟩
set_option maxRecDepth 20000 in
theorem lf_20 : okF ("Claimclub$Claim", 56, "Claimclub$Claim", 1, 1) := ⟨_, rfl, by decide, uw (i := 297) rfl rfl, Or.inl rfl⟩
set_option maxRecDepth 20000 in
theorem lf_21 : okF ("Claimclub", 216, "Claimclub$Claim", 1, 1) := ⟨_, rfl, by decide, uw (i := 298) rfl rfl, Or.inl rfl⟩
set_option maxRecDepth 20000 in
theorem lf_22 : okF ("Claimclub$Claim", 59, "Claimclub$Claim", 1, 2) := ⟨_, rfl, by decide, uw (i := 299) rfl rfl, Or.inl rfl⟩
set_option maxRecDepth 20000 in
theorem lf_23 : okF ("Claimclub", 155, "Claimclub$Claim", 1, 2) := ⟨_, rfl, by decide, uw (i := 300) rfl rfl, Or.inl rfl⟩
set_option maxRecDepth 20000 in
theorem lf_24 : okF ("Claimclub$Claim", 62, "Claimclub$Claim", 1, 3) := ⟨_, rfl, by decide, uw (i := 301) rfl rfl, Or.inl rfl⟩
set_option maxRecDepth 20000 in
theorem lf_25 : okF ("Claimclub", 219, "Claimclub$Claim", 1, 3) := ⟨_, rfl, by decide, uw (i := 302) rfl rfl, Or.inl rfl⟩
set_option maxRecDepth 20000 in
theorem lf_26 : okF ("Claimclub$Claim", 65, "Claimclub$Claim", 1, 4) := ⟨_, rfl, by decide, uw (i := 303) rfl rfl, Or.inl rfl⟩
set_option maxRecDepth 20000 in
theorem lf_27 : okF ("Claimclub", 103, "Claimclub$Claim", 1, 4) := ⟨_, rfl, by decide, uw (i := 304) rfl rfl, Or.inl rfl⟩
set_option maxRecDepth 20000 in
theorem lf_28 : okF ("Claimclub$Claim", 9, "Claimclub$Claim", 1, 5) := ⟨_, rfl, by decide, uw (i := 305) rfl rfl, Or.inl rfl⟩
set_option maxRecDepth 20000 in
theorem lf_29 : okF ("Claimclub", 357, "Claimclub$Claim", 1, 5) := ⟨_, rfl, by decide, uw (i := 306) rfl rfl, Or.inl rfl⟩
set_option maxRecDepth 20000 in
theorem lf_30 : okF ("Claimclub$Claim", 15, "Claimclub$Claim", 1, 6) := ⟨_, rfl, by decide, uw (i := 307) rfl rfl, Or.inl rfl⟩
set_option maxRecDepth 20000 in
theorem lf_31 : okF ("Claimclub$Claim", 19, "Claimclub$Claim", 1, 7) := ⟨_, rfl, by decide, uw (i := 308) rfl rfl, Or.inl rfl⟩
set_option maxRecDepth 20000 in
theorem lf_32 : okF ("Claimclub", 171, "Claimclub$Claim", 1, 7) := ⟨_, rfl, by decide, uw (i := 309) rfl rfl, Or.inl rfl⟩
set_option maxRecDepth 20000 in
theorem lf_33 : okF ("Claimclub$Claim", 22, "Claimclub$Claim", 1, 8) := ⟨_, rfl, by decide, uw (i := 310) rfl rfl, Or.inl rfl⟩
set_option maxRecDepth 20000 in
theorem lf_34 : okF ("Claimclub", 197, "Claimclub$Claim", 1, 8) := ⟨_, rfl, by decide, uw (i := 311) rfl rfl, Or.inl rfl⟩
set_option maxRecDepth 20000 in
theorem lf_35 : okF ("Claimclub$Claim", 25, "Claimclub$Claim", 1, 9) := ⟨_, rfl, by decide, uw (i := 312) rfl rfl, Or.inl rfl⟩
set_option maxRecDepth 20000 in
theorem lf_36 : okF ("Claimclub", 174, "Claimclub$Claim", 1, 9) := ⟨_, rfl, by decide, uw (i := 313) rfl rfl, Or.inl rfl⟩
set_option maxRecDepth 20000 in
theorem lf_37 : okF ("Claimclub$Claim", 28, "Claimclub$Claim", 1, 10) := ⟨_, rfl, by decide, uw (i := 314) rfl rfl, Or.inl rfl⟩
set_option maxRecDepth 20000 in
theorem lf_38 : okF ("Claimclub", 100, "Claimclub$Claim", 1, 10) := ⟨_, rfl, by decide, uw (i := 315) rfl rfl, Or.inl rfl⟩
set_option maxRecDepth 20000 in
theorem lf_39 : okF ("Claimclub$Claim", 31, "Claimclub$Claim", 1, 11) := ⟨_, rfl, by decide, uw (i := 316) rfl rfl, Or.inl rfl⟩
set_option maxRecDepth 20000 in
theorem lf_40 : okF ("Claimclub", 152, "Claimclub$Claim", 1, 11) := ⟨_, rfl, by decide, uw (i := 317) rfl rfl, Or.inl rfl⟩
set_option maxRecDepth 20000 in
theorem lf_41 : okF ("Claimclub$Claim", 34, "Claimclub$Claim", 1, 12) := ⟨_, rfl, by decide, uw (i := 318) rfl rfl, Or.inl rfl⟩
set_option maxRecDepth 20000 in
theorem lf_42 : okF ("Claimclub", 231, "Claimclub$Claim", 1, 12) := ⟨_, rfl, by decide, uw (i := 319) rfl rfl, Or.inl rfl⟩
set_option maxRecDepth 20000 in
theorem lf_43 : okF ("Claimclub$Claim", 37, "Claimclub$Claim", 1, 13) := ⟨_, rfl, by decide, uw (i := 320) rfl rfl, Or.inl rfl⟩
set_option maxRecDepth 20000 in
theorem lf_44 : okF ("Claimclub", 238, "Claimclub$Claim", 1, 13) := ⟨_, rfl, by decide, uw (i := 321) rfl rfl, Or.inl rfl⟩
set_option maxRecDepth 20000 in
theorem lf_45 : okF ("Claimclub$Claim", 40, "Claimclub$Claim", 1, 14) := ⟨_, rfl, by decide, uw (i := 322) rfl rfl, Or.inl rfl⟩
set_option maxRecDepth 20000 in
theorem lf_46 : okF ("Claimclub", 241, "Claimclub$Claim", 1, 14) := ⟨_, rfl, by decide, uw (i := 323) rfl rfl, Or.inl rfl⟩
set_option maxRecDepth 20000 in
theorem lf_47 : okF ("Claimclub$Claim", 43, "Claimclub$Claim", 1, 15) := ⟨_, rfl, by decide, uw (i := 324) rfl rfl, Or.inl rfl⟩
set_option maxRecDepth 20000 in
theorem lf_48 : okF ("Claimclub", 360, "Claimclub$Claim", 1, 15) := ⟨_, rfl, by decide, uw (i := 325) rfl rfl, Or.inl rfl⟩
set_option maxRecDepth 20000 in
theorem lf_49 : okF ("Claimclub$Claim", 46, "Claimclub$Claim", 1, 16) := ⟨_, rfl, by decide, uw (i := 326) rfl rfl, Or.inl rfl⟩
set_option maxRecDepth 20000 in
theorem lf_50 : okF ("Claimclub$Claim", 50, "Claimclub$Claim", 1, 17) := ⟨_, rfl, by decide, uw (i := 327) rfl rfl, Or.inl rfl⟩
set_option maxRecDepth 20000 in
theorem lf_51 : okF ("Claimclub$Offer", 13, "Claimclub$Offer", 2, 0) := ⟨_, rfl, by decide, uw (i := 584) rfl rfl, Or.inl rfl⟩
set_option maxRecDepth 20000 in
theorem lf_52 : okF ("Claimclub$Offer", 17, "Claimclub$Offer", 2, 1) := ⟨_, rfl, by decide, uw (i := 585) rfl rfl, Or.inl rfl⟩
set_option maxRecDepth 20000 in
theorem lf_53 : okF ("Claimclub", 225, "Claimclub$Offer", 2, 1) := ⟨_, rfl, by decide, uw (i := 586) rfl rfl, Or.inl rfl⟩
set_option maxRecDepth 20000 in
theorem lf_54 : okF ("Claimclub$Offer", 20, "Claimclub$Offer", 2, 2) := ⟨_, rfl, by decide, uw (i := 587) rfl rfl, Or.inl rfl⟩
set_option maxRecDepth 20000 in
theorem lf_55 : okF ("Claimclub", 228, "Claimclub$Offer", 2, 2) := ⟨_, rfl, by decide, uw (i := 588) rfl rfl, Or.inl rfl⟩
set_option maxRecDepth 20000 in
theorem lf_56 : okF ("Claimclub$Offer", 7, "Claimclub$Offer", 2, 3) := ⟨_, rfl, by decide, uw (i := 589) rfl rfl, Or.inl rfl⟩
set_option maxRecDepth 20000 in
theorem lf_57 : okF ("Claimclub$Thing", 13, "Claimclub$Thing", 3, 0) := ⟨_, rfl, by decide, uw (i := 707) rfl rfl, Or.inl rfl⟩
set_option maxRecDepth 20000 in
theorem lf_58 : okF ("Claimclub", 309, "Claimclub$Thing", 3, 0) := ⟨_, rfl, by decide, uw (i := 708) rfl rfl, Or.inl rfl⟩
set_option maxRecDepth 20000 in
theorem lf_59 : okF ("Claimclub$Thing", 7, "Claimclub$Thing", 3, 1) := ⟨_, rfl, by decide, uw (i := 709) rfl rfl, Or.inl rfl⟩
set_option maxRecDepth 20000 in
theorem lf_60 : okF ("Claimclub", 304, "Claimclub$Thing", 3, 1) := ⟨_, rfl, by decide, uw (i := 710) rfl rfl, Or.inl rfl⟩
set_option maxRecDepth 20000 in
theorem lf_61 : okF ("ClaimclubModel", 97, "ClaimclubModel", 5, 0) := ⟨_, rfl, by decide, uw (i := 859) rfl rfl, Or.inl rfl⟩
set_option maxRecDepth 20000 in
theorem lf_62 : okF ("ClaimclubModel", 110, "ClaimclubModel", 5, 1) := ⟨_, rfl, by decide, uw (i := 860) rfl rfl, Or.inl rfl⟩
set_option maxRecDepth 20000 in
theorem lf_63 : okF ("ClaimclubModel", 128, "ClaimclubModel", 5, 2) := ⟨_, rfl, by decide, uw (i := 861) rfl rfl, Or.inl rfl⟩
set_option maxRecDepth 20000 in
theorem lf_64 : okF ("ClaimclubModel", 9, "ClaimclubModel", 5, 3) := ⟨_, rfl, by decide, uw (i := 862) rfl rfl, Or.inl rfl⟩
set_option maxRecDepth 20000 in
theorem lf_65 : okF ("ClaimclubModel", 140, "ClaimclubModel", 5, 4) := ⟨_, rfl, by decide, uw (i := 863) rfl rfl, Or.inl rfl⟩
set_option maxRecDepth 20000 in
theorem lf_66 : okF ("ClaimclubModel", 143, "ClaimclubModel", 5, 5) := ⟨_, rfl, by decide, uw (i := 864) rfl rfl, Or.inl rfl⟩
set_option maxRecDepth 20000 in
theorem lf_67 : okF ("ClaimclubModel", 15, "ClaimclubModel", 5, 6) := ⟨_, rfl, by decide, uw (i := 865) rfl rfl, Or.inl rfl⟩
set_option maxRecDepth 20000 in
theorem lf_68 : okF ("ClaimclubModel", 100, "ClaimclubModel", 5, 7) := ⟨_, rfl, by decide, uw (i := 866) rfl rfl, Or.inl rfl⟩
set_option maxRecDepth 20000 in
theorem lf_69 : okF ("ClaimclubModel", 19, "ClaimclubModel", 5, 8) := ⟨_, rfl, by decide, uw (i := 867) rfl rfl, Or.inl rfl⟩
set_option maxRecDepth 20000 in
theorem lf_70 : okF ("ClaimclubModel", 23, "ClaimclubModel", 5, 9) := ⟨_, rfl, by decide, uw (i := 868) rfl rfl, Or.inl rfl⟩
set_option maxRecDepth 20000 in
theorem lf_71 : okF ("ClaimclubModel", 26, "ClaimclubModel", 5, 10) := ⟨_, rfl, by decide, uw (i := 869) rfl rfl, Or.inl rfl⟩
set_option maxRecDepth 20000 in
theorem lf_72 : okF ("ClaimclubModel", 30, "ClaimclubModel", 5, 11) := ⟨_, rfl, by decide, uw (i := 870) rfl rfl, Or.inl rfl⟩
set_option maxRecDepth 20000 in
theorem lf_73 : okF ("ClaimclubModel", 33, "ClaimclubModel", 5, 12) := ⟨_, rfl, by decide, uw (i := 871) rfl rfl, Or.inl rfl⟩
set_option maxRecDepth 20000 in
theorem lf_74 : okF ("ClaimclubModel", 36, "ClaimclubModel", 5, 13) := ⟨_, rfl, by decide, uw (i := 872) rfl rfl, Or.inl rfl⟩
set_option maxRecDepth 20000 in
theorem lf_75 : okF ("ClaimclubModel", 39, "ClaimclubModel", 5, 14) := ⟨_, rfl, by decide, uw (i := 873) rfl rfl, Or.inl rfl⟩
set_option maxRecDepth 20000 in
theorem lf_76 : okF ("ClaimclubModel", 42, "ClaimclubModel", 5, 15) := ⟨_, rfl, by decide, uw (i := 874) rfl rfl, Or.inl rfl⟩
set_option maxRecDepth 20000 in
theorem lf_77 : okF ("ClaimclubModel", 46, "ClaimclubModel", 5, 16) := ⟨_, rfl, by decide, uw (i := 875) rfl rfl, Or.inl rfl⟩
set_option maxRecDepth 20000 in
theorem lf_78 : okF ("ClaimclubModel", 49, "ClaimclubModel", 5, 17) := ⟨_, rfl, by decide, uw (i := 876) rfl rfl, Or.inl rfl⟩
set_option maxRecDepth 20000 in
theorem lf_79 : okF ("ClaimclubModel", 52, "ClaimclubModel", 5, 18) := ⟨_, rfl, by decide, uw (i := 877) rfl rfl, Or.inl rfl⟩
set_option maxRecDepth 20000 in
theorem lf_80 : okF ("ClaimclubModel", 55, "ClaimclubModel", 5, 19) := ⟨_, rfl, by decide, uw (i := 878) rfl rfl, Or.inl rfl⟩
set_option maxRecDepth 20000 in
theorem lf_81 : okF ("ClaimclubModel", 58, "ClaimclubModel", 5, 20) := ⟨_, rfl, by decide, uw (i := 879) rfl rfl, Or.inl rfl⟩
set_option maxRecDepth 20000 in
theorem lf_82 : okF ("ClaimclubModel", 61, "ClaimclubModel", 5, 21) := ⟨_, rfl, by decide, uw (i := 880) rfl rfl, Or.inl rfl⟩
set_option maxRecDepth 20000 in
theorem lf_83 : okF ("ClaimclubModel", 64, "ClaimclubModel", 5, 22) := ⟨_, rfl, by decide, uw (i := 881) rfl rfl, Or.inl rfl⟩
set_option maxRecDepth 20000 in
theorem lf_84 : okF ("ClaimclubModel", 107, "ClaimclubModel", 5, 23) := ⟨_, rfl, by decide, uw (i := 882) rfl rfl, Or.inl rfl⟩
set_option maxRecDepth 20000 in
theorem lf_85 : okF ("ClaimclubModel", 67, "ClaimclubModel", 5, 24) := ⟨_, rfl, by decide, uw (i := 883) rfl rfl, Or.inl rfl⟩
set_option maxRecDepth 20000 in
theorem lf_86 : okF ("ClaimclubModel", 70, "ClaimclubModel", 5, 25) := ⟨_, rfl, by decide, uw (i := 884) rfl rfl, Or.inl rfl⟩
set_option maxRecDepth 20000 in
theorem lf_87 : okF ("ClaimclubModel", 73, "ClaimclubModel", 5, 26) := ⟨_, rfl, by decide, uw (i := 885) rfl rfl, Or.inl rfl⟩
set_option maxRecDepth 20000 in
theorem lf_88 : okF ("ClaimclubModel", 76, "ClaimclubModel", 5, 27) := ⟨_, rfl, by decide, uw (i := 886) rfl rfl, Or.inl rfl⟩
set_option maxRecDepth 20000 in
theorem lf_89 : okF ("ClaimclubModel", 79, "ClaimclubModel", 5, 28) := ⟨_, rfl, by decide, uw (i := 887) rfl rfl, Or.inl rfl⟩
set_option maxRecDepth 20000 in
theorem lf_90 : okF ("ClaimclubModel", 82, "ClaimclubModel", 5, 29) := ⟨_, rfl, by decide, uw (i := 888) rfl rfl, Or.inl rfl⟩
set_option maxRecDepth 20000 in
theorem lf_91 : okF ("ClaimclubModel", 85, "ClaimclubModel", 5, 30) := ⟨_, rfl, by decide, uw (i := 889) rfl rfl, Or.inl rfl⟩
set_option maxRecDepth 20000 in
theorem lf_92 : okF ("ClaimclubModel", 213, "ClaimclubModel", 5, 31) := ⟨_, rfl, by decide, uw (i := 890) rfl rfl, Or.inl rfl⟩
set_option maxRecDepth 20000 in
theorem lf_93 : okF ("ClaimclubModel", 88, "ClaimclubModel", 5, 32) := ⟨_, rfl, by decide, uw (i := 891) rfl rfl, Or.inl rfl⟩
set_option maxRecDepth 20000 in
theorem lf_94 : okF ("ClaimclubModel", 91, "ClaimclubModel", 5, 33) := ⟨_, rfl, by decide, uw (i := 892) rfl rfl, Or.inl rfl⟩
set_option maxRecDepth 20000 in
theorem lf_95 : okF ("ClaimclubModel", 216, "ClaimclubModel", 5, 34) := ⟨_, rfl, by decide, uw (i := 893) rfl rfl, Or.inl rfl⟩
set_option maxRecDepth 20000 in
theorem lf_96 : okF ("ClaimclubModel", 219, "ClaimclubModel", 5, 35) := ⟨_, rfl, by decide, uw (i := 894) rfl rfl, Or.inl rfl⟩
set_option maxRecDepth 20000 in
theorem lf_97 : okF ("ClaimclubModel", 222, "ClaimclubModel", 5, 36) := ⟨_, rfl, by decide, uw (i := 895) rfl rfl, Or.inl rfl⟩
set_option maxRecDepth 20000 in
theorem lf_98 : okF ("ClaimclubModel", 94, "ClaimclubModel", 5, 37) := ⟨_, rfl, by decide, uw (i := 896) rfl rfl, Or.inl rfl⟩
set_option maxRecDepth 4000 in
theorem lkF_ok : ∀ z ∈ lkF, okF z := List.forall_mem_cons.mpr ⟨lf_0, List.forall_mem_cons.mpr ⟨lf_1, List.forall_mem_cons.mpr ⟨lf_2, List.forall_mem_cons.mpr ⟨lf_3, List.forall_mem_cons.mpr ⟨lf_4, List.forall_mem_cons.mpr ⟨lf_5, List.forall_mem_cons.mpr ⟨lf_6, List.forall_mem_cons.mpr ⟨lf_7, List.forall_mem_cons.mpr ⟨lf_8, List.forall_mem_cons.mpr ⟨lf_9, List.forall_mem_cons.mpr ⟨lf_10, List.forall_mem_cons.mpr ⟨lf_11, List.forall_mem_cons.mpr ⟨lf_12, List.forall_mem_cons.mpr ⟨lf_13, List.forall_mem_cons.mpr ⟨lf_14, List.forall_mem_cons.mpr ⟨lf_15, List.forall_mem_cons.mpr ⟨lf_16, List.forall_mem_cons.mpr ⟨lf_17, List.forall_mem_cons.mpr ⟨lf_18, List.forall_mem_cons.mpr ⟨lf_19, List.forall_mem_cons.mpr ⟨lf_20, List.forall_mem_cons.mpr ⟨lf_21, List.forall_mem_cons.mpr ⟨lf_22, List.forall_mem_cons.mpr ⟨lf_23, List.forall_mem_cons.mpr ⟨lf_24, List.forall_mem_cons.mpr ⟨lf_25, List.forall_mem_cons.mpr ⟨lf_26, List.forall_mem_cons.mpr ⟨lf_27, List.forall_mem_cons.mpr ⟨lf_28, List.forall_mem_cons.mpr ⟨lf_29, List.forall_mem_cons.mpr ⟨lf_30, List.forall_mem_cons.mpr ⟨lf_31, List.forall_mem_cons.mpr ⟨lf_32, List.forall_mem_cons.mpr ⟨lf_33, List.forall_mem_cons.mpr ⟨lf_34, List.forall_mem_cons.mpr ⟨lf_35, List.forall_mem_cons.mpr ⟨lf_36, List.forall_mem_cons.mpr ⟨lf_37, List.forall_mem_cons.mpr ⟨lf_38, List.forall_mem_cons.mpr ⟨lf_39, List.forall_mem_cons.mpr ⟨lf_40, List.forall_mem_cons.mpr ⟨lf_41, List.forall_mem_cons.mpr ⟨lf_42, List.forall_mem_cons.mpr ⟨lf_43, List.forall_mem_cons.mpr ⟨lf_44, List.forall_mem_cons.mpr ⟨lf_45, List.forall_mem_cons.mpr ⟨lf_46, List.forall_mem_cons.mpr ⟨lf_47, List.forall_mem_cons.mpr ⟨lf_48, List.forall_mem_cons.mpr ⟨lf_49, List.forall_mem_cons.mpr ⟨lf_50, List.forall_mem_cons.mpr ⟨lf_51, List.forall_mem_cons.mpr ⟨lf_52, List.forall_mem_cons.mpr ⟨lf_53, List.forall_mem_cons.mpr ⟨lf_54, List.forall_mem_cons.mpr ⟨lf_55, List.forall_mem_cons.mpr ⟨lf_56, List.forall_mem_cons.mpr ⟨lf_57, List.forall_mem_cons.mpr ⟨lf_58, List.forall_mem_cons.mpr ⟨lf_59, List.forall_mem_cons.mpr ⟨lf_60, List.forall_mem_cons.mpr ⟨lf_61, List.forall_mem_cons.mpr ⟨lf_62, List.forall_mem_cons.mpr ⟨lf_63, List.forall_mem_cons.mpr ⟨lf_64, List.forall_mem_cons.mpr ⟨lf_65, List.forall_mem_cons.mpr ⟨lf_66, List.forall_mem_cons.mpr ⟨lf_67, List.forall_mem_cons.mpr ⟨lf_68, List.forall_mem_cons.mpr ⟨lf_69, List.forall_mem_cons.mpr ⟨lf_70, List.forall_mem_cons.mpr ⟨lf_71, List.forall_mem_cons.mpr ⟨lf_72, List.forall_mem_cons.mpr ⟨lf_73, List.forall_mem_cons.mpr ⟨lf_74, List.forall_mem_cons.mpr ⟨lf_75, List.forall_mem_cons.mpr ⟨lf_76, List.forall_mem_cons.mpr ⟨lf_77, List.forall_mem_cons.mpr ⟨lf_78, List.forall_mem_cons.mpr ⟨lf_79, List.forall_mem_cons.mpr ⟨lf_80, List.forall_mem_cons.mpr ⟨lf_81, List.forall_mem_cons.mpr ⟨lf_82, List.forall_mem_cons.mpr ⟨lf_83, List.forall_mem_cons.mpr ⟨lf_84, List.forall_mem_cons.mpr ⟨lf_85, List.forall_mem_cons.mpr ⟨lf_86, List.forall_mem_cons.mpr ⟨lf_87, List.forall_mem_cons.mpr ⟨lf_88, List.forall_mem_cons.mpr ⟨lf_89, List.forall_mem_cons.mpr ⟨lf_90, List.forall_mem_cons.mpr ⟨lf_91, List.forall_mem_cons.mpr ⟨lf_92, List.forall_mem_cons.mpr ⟨lf_93, List.forall_mem_cons.mpr ⟨lf_94, List.forall_mem_cons.mpr ⟨lf_95, List.forall_mem_cons.mpr ⟨lf_96, List.forall_mem_cons.mpr ⟨lf_97, List.forall_mem_cons.mpr ⟨lf_98, fun _ h => absurd h List.not_mem_nil⟩⟩⟩⟩⟩⟩⟩⟩⟩⟩⟩⟩⟩⟩⟩⟩⟩⟩⟩⟩⟩⟩⟩⟩⟩⟩⟩⟩⟩⟩⟩⟩⟩⟩⟩⟩⟩⟩⟩⟩⟩⟩⟩⟩⟩⟩⟩⟩⟩⟩⟩⟩⟩⟩⟩⟩⟩⟩⟩⟩⟩⟩⟩⟩⟩⟩⟩⟩⟩⟩⟩⟩⟩⟩⟩⟩⟩⟩⟩⟩⟩⟩⟩⟩⟩⟩⟩⟩⟩⟩⟩⟩⟩⟩⟩⟩⟩⟩⟩
def lkC : List (String × Nat × Nat) := [("ClaimclubLaw", 8, 4), ("Claimclub", 7, 0), ("Claimclub", 68, 1), ("Claimclub", 202, 2), ("Claimclub", 294, 3), ("ClaimclubLaw", 105, 5)]
def okCl (z : String × Nat × Nat) : Prop := ∃ r, vwCl[z.2.2]? = some r ∧ Cond.classLink z.1 z.2.1 r.1 ∈ UW
set_option maxRecDepth 20000 in
theorem lc_0 : okCl ("ClaimclubLaw", 8, 4) := ⟨_, rfl, uw (i := 73) rfl rfl⟩
set_option maxRecDepth 20000 in
theorem lc_1 : okCl ("Claimclub", 7, 0) := ⟨_, rfl, uw (i := 81) rfl rfl⟩
set_option maxRecDepth 20000 in
theorem lc_2 : okCl ("Claimclub", 68, 1) := ⟨_, rfl, uw (i := 177) rfl rfl⟩
set_option maxRecDepth 20000 in
theorem lc_3 : okCl ("Claimclub", 202, 2) := ⟨_, rfl, uw (i := 578) rfl rfl⟩
set_option maxRecDepth 20000 in
theorem lc_4 : okCl ("Claimclub", 294, 3) := ⟨_, rfl, uw (i := 701) rfl rfl⟩
set_option maxRecDepth 20000 in
theorem lc_5 : okCl ("ClaimclubLaw", 105, 5) := ⟨_, rfl, uw (i := 852) rfl rfl⟩
theorem lkC_ok : ∀ z ∈ lkC, okCl z := List.forall_mem_cons.mpr ⟨lc_0, List.forall_mem_cons.mpr ⟨lc_1, List.forall_mem_cons.mpr ⟨lc_2, List.forall_mem_cons.mpr ⟨lc_3, List.forall_mem_cons.mpr ⟨lc_4, List.forall_mem_cons.mpr ⟨lc_5, fun _ h => absurd h List.not_mem_nil⟩⟩⟩⟩⟩⟩