set_option maxRecDepth 100000 in
theorem gw_ps {ws : List Cond} (ps : List Nat) (hp : ws = ps.filterMap (fun i => tables_1[i]?)) (h : ws.all goodWord = true) : ∀ w ∈ ws, w ∈ gw := by
  intro w hw
  have h1 := List.all_eq_true.mp h w hw
  rw [hp] at hw
  obtain ⟨i, -, hi⟩ := List.mem_filterMap.mp hw
  exact gw_tb i hi h1
theorem gw_c {a : Cond} {l : List Cond} (h : a ∈ gw) (hl : ∀ w ∈ l, w ∈ gw) : ∀ w ∈ a :: l, w ∈ gw := List.forall_mem_cons.mpr ⟨h, hl⟩
theorem gw_n : ∀ w ∈ ([] : List Cond), w ∈ gw := fun _ h => absurd h List.not_mem_nil
theorem iX0 : ∀ w ∈ u_ws RX0 TX0 16, w ∈ gw := gw_ps [151, 153, 155, 157, 159, 161, 163, 165, 167, 169, 171, 173, 175, 177, 179, 181] (by decide +kernel) (by decide +kernel)
theorem iX1 : ∀ w ∈ u_ws RX1 TX1 3, w ∈ gw := gw_ps [63, 65, 67] (by decide +kernel) (by decide +kernel)
theorem iX2 : ∀ w ∈ u_ws RX2 TX2 11, w ∈ gw := gw_ps [91, 93, 95, 97, 99, 101, 103, 105, 107, 109, 111] (by decide +kernel) (by decide +kernel)
theorem iX3 : ∀ w ∈ u_ws RX3 TX3 3, w ∈ gw := gw_ps [197, 199, 201] (by decide +kernel) (by decide +kernel)
theorem iX4 : ∀ w ∈ u_ws RX4 TX4 4, w ∈ gw := gw_ps [219, 221, 223, 225] (by decide +kernel) (by decide +kernel)
theorem iX5 : ∀ w ∈ u_ws RX5 TX5 4, w ∈ gw := gw_ps [47, 49, 51, 53] (by decide +kernel) (by decide +kernel)
theorem iX6 : ∀ w ∈ u_ws RX6 TX6 11, w ∈ gw := gw_ps [239, 241, 243, 245, 247, 249, 251, 253, 255, 257, 259] (by decide +kernel) (by decide +kernel)
theorem iX7 : ∀ w ∈ u_ws RX7 TX7 33, w ∈ gw := gw_ps [877, 879, 881, 883, 885, 887, 889, 891, 893, 895, 897, 899, 901, 903, 905, 907, 909, 911, 913, 915, 917, 919, 921, 923, 925, 927, 929, 931, 933, 935, 937, 939, 941] (by decide +kernel) (by decide +kernel)
set_option maxRecDepth 100000 in
theorem gX5_15 : GF RX5 15 5 0 := ⟨RX5, TX5, 4, iX5, gw_tb 38 rfl rfl, rfl, by decide⟩
set_option maxRecDepth 100000 in
theorem pX5_15 : PF RX5 15 5 0 .int := ⟨RX5, TX5, 4, tyX5, iX5, tyX5_ok, nmX5, gw_tb 38 rfl rfl, rfl, by decide, rfl, rfl⟩
set_option maxRecDepth 100000 in
theorem gX2_121 : GF RX2 121 5 0 := ⟨RX5, TX5, 4, iX5, gw_tb 39 rfl rfl, rfl, by decide⟩
set_option maxRecDepth 100000 in
theorem pX2_121 : PF RX2 121 5 0 .int := ⟨RX5, TX5, 4, tyX5, iX5, tyX5_ok, nmX5, gw_tb 39 rfl rfl, rfl, by decide, rfl, rfl⟩
set_option maxRecDepth 100000 in
theorem gX6_242 : GF RX6 242 5 0 := ⟨RX5, TX5, 4, iX5, gw_tb 40 rfl rfl, rfl, by decide⟩
set_option maxRecDepth 100000 in
theorem pX6_242 : PF RX6 242 5 0 .int := ⟨RX5, TX5, 4, tyX5, iX5, tyX5_ok, nmX5, gw_tb 40 rfl rfl, rfl, by decide, rfl, rfl⟩
set_option maxRecDepth 100000 in
theorem gX5_19 : GF RX5 19 5 1 := ⟨RX5, TX5, 4, iX5, gw_tb 41 rfl rfl, rfl, by decide⟩
set_option maxRecDepth 100000 in
theorem pX5_19 : PF RX5 19 5 1 .int := ⟨RX5, TX5, 4, tyX5, iX5, tyX5_ok, nmX5, gw_tb 41 rfl rfl, rfl, by decide, rfl, rfl⟩
set_option maxRecDepth 100000 in
theorem gX6_245 : GF RX6 245 5 1 := ⟨RX5, TX5, 4, iX5, gw_tb 42 rfl rfl, rfl, by decide⟩
set_option maxRecDepth 100000 in
theorem pX6_245 : PF RX6 245 5 1 .int := ⟨RX5, TX5, 4, tyX5, iX5, tyX5_ok, nmX5, gw_tb 42 rfl rfl, rfl, by decide, rfl, rfl⟩
set_option maxRecDepth 100000 in
theorem gX5_22 : GF RX5 22 5 2 := ⟨RX5, TX5, 4, iX5, gw_tb 43 rfl rfl, rfl, by decide⟩
set_option maxRecDepth 100000 in
theorem pX5_22 : PF RX5 22 5 2 .int := ⟨RX5, TX5, 4, tyX5, iX5, tyX5_ok, nmX5, gw_tb 43 rfl rfl, rfl, by decide, rfl, rfl⟩
set_option maxRecDepth 100000 in
theorem gX1_25 : GF RX1 25 5 2 := ⟨RX5, TX5, 4, iX5, gw_tb 44 rfl rfl, rfl, by decide⟩
set_option maxRecDepth 100000 in
theorem pX1_25 : PF RX1 25 5 2 .int := ⟨RX5, TX5, 4, tyX5, iX5, tyX5_ok, nmX5, gw_tb 44 rfl rfl, rfl, by decide, rfl, rfl⟩
set_option maxRecDepth 100000 in
theorem gX5_9 : GF RX5 9 5 3 := ⟨RX5, TX5, 4, iX5, gw_tb 45 rfl rfl, rfl, by decide⟩
set_option maxRecDepth 100000 in
theorem gX1_29 : GF RX1 29 5 3 := ⟨RX5, TX5, 4, iX5, gw_tb 46 rfl rfl, rfl, by decide⟩
set_option maxRecDepth 100000 in
theorem gX1_11 : GF RX1 11 1 0 := ⟨RX1, TX1, 3, iX1, gw_tb 57 rfl rfl, rfl, by decide⟩
set_option maxRecDepth 100000 in
theorem gX6_230 : GF RX6 230 1 0 := ⟨RX1, TX1, 3, iX1, gw_tb 58 rfl rfl, rfl, by decide⟩
set_option maxRecDepth 100000 in
theorem gX1_17 : GF RX1 17 1 1 := ⟨RX1, TX1, 3, iX1, gw_tb 59 rfl rfl, rfl, by decide⟩
set_option maxRecDepth 100000 in
theorem gX0_121 : GF RX0 121 1 1 := ⟨RX1, TX1, 3, iX1, gw_tb 60 rfl rfl, rfl, by decide⟩
set_option maxRecDepth 100000 in
theorem gX6_212 : GF RX6 212 1 1 := ⟨RX1, TX1, 3, iX1, gw_tb 61 rfl rfl, rfl, by decide⟩
set_option maxRecDepth 100000 in
theorem gX1_21 : GF RX1 21 1 2 := ⟨RX1, TX1, 3, iX1, gw_tb 62 rfl rfl, rfl, by decide⟩
set_option maxRecDepth 100000 in
theorem gX2_9 : GF RX2 9 2 0 := ⟨RX2, TX2, 11, iX2, gw_tb 78 rfl rfl, rfl, by decide⟩
set_option maxRecDepth 100000 in
theorem gX2_26 : GF RX2 26 2 1 := ⟨RX2, TX2, 11, iX2, gw_tb 79 rfl rfl, rfl, by decide⟩
set_option maxRecDepth 100000 in
theorem pX2_26 : PF RX2 26 2 1 .int := ⟨RX2, TX2, 11, tyX2, iX2, tyX2_ok, nmX2, gw_tb 79 rfl rfl, rfl, by decide, rfl, rfl⟩
set_option maxRecDepth 100000 in
theorem gX6_218 : GF RX6 218 2 1 := ⟨RX2, TX2, 11, iX2, gw_tb 80 rfl rfl, rfl, by decide⟩
set_option maxRecDepth 100000 in
theorem pX6_218 : PF RX6 218 2 1 .int := ⟨RX2, TX2, 11, tyX2, iX2, tyX2_ok, nmX2, gw_tb 80 rfl rfl, rfl, by decide, rfl, rfl⟩
set_option maxRecDepth 100000 in
theorem gX2_18 : GF RX2 18 2 2 := ⟨RX2, TX2, 11, iX2, gw_tb 81 rfl rfl, rfl, by decide⟩
set_option maxRecDepth 100000 in
theorem gX6_233 : GF RX6 233 2 2 := ⟨RX2, TX2, 11, iX2, gw_tb 82 rfl rfl, rfl, by decide⟩
set_option maxRecDepth 100000 in
theorem gX2_59 : GF RX2 59 2 3 := ⟨RX2, TX2, 11, iX2, gw_tb 83 rfl rfl, rfl, by decide⟩
set_option maxRecDepth 100000 in
theorem pX2_59 : PF RX2 59 2 3 .int := ⟨RX2, TX2, 11, tyX2, iX2, tyX2_ok, nmX2, gw_tb 83 rfl rfl, rfl, by decide, rfl, rfl⟩
set_option maxRecDepth 100000 in
theorem gX2_52 : GF RX2 52 2 4 := ⟨RX2, TX2, 11, iX2, gw_tb 84 rfl rfl, rfl, by decide⟩
set_option maxRecDepth 100000 in
theorem pX2_52 : PF RX2 52 2 4 .int := ⟨RX2, TX2, 11, tyX2, iX2, tyX2_ok, nmX2, gw_tb 84 rfl rfl, rfl, by decide, rfl, rfl⟩
set_option maxRecDepth 100000 in
theorem gX2_30 : GF RX2 30 2 5 := ⟨RX2, TX2, 11, iX2, gw_tb 85 rfl rfl, rfl, by decide⟩
set_option maxRecDepth 100000 in
theorem pX2_30 : PF RX2 30 2 5 .int := ⟨RX2, TX2, 11, tyX2, iX2, tyX2_ok, nmX2, gw_tb 85 rfl rfl, rfl, by decide, rfl, rfl⟩
set_option maxRecDepth 100000 in
theorem gX2_33 : GF RX2 33 2 6 := ⟨RX2, TX2, 11, iX2, gw_tb 86 rfl rfl, rfl, by decide⟩
set_option maxRecDepth 100000 in
theorem pX2_33 : PF RX2 33 2 6 .int := ⟨RX2, TX2, 11, tyX2, iX2, tyX2_ok, nmX2, gw_tb 86 rfl rfl, rfl, by decide, rfl, rfl⟩
set_option maxRecDepth 100000 in
theorem gX2_22 : GF RX2 22 2 7 := ⟨RX2, TX2, 11, iX2, gw_tb 87 rfl rfl, rfl, by decide⟩
set_option maxRecDepth 100000 in
theorem gX2_36 : GF RX2 36 2 8 := ⟨RX2, TX2, 11, iX2, gw_tb 88 rfl rfl, rfl, by decide⟩
set_option maxRecDepth 100000 in
theorem pX2_36 : PF RX2 36 2 8 .int := ⟨RX2, TX2, 11, tyX2, iX2, tyX2_ok, nmX2, gw_tb 88 rfl rfl, rfl, by decide, rfl, rfl⟩
set_option maxRecDepth 100000 in
theorem gX2_39 : GF RX2 39 2 9 := ⟨RX2, TX2, 11, iX2, gw_tb 89 rfl rfl, rfl, by decide⟩
set_option maxRecDepth 100000 in
theorem pX2_39 : PF RX2 39 2 9 .int := ⟨RX2, TX2, 11, tyX2, iX2, tyX2_ok, nmX2, gw_tb 89 rfl rfl, rfl, by decide, rfl, rfl⟩
set_option maxRecDepth 100000 in
theorem gX2_42 : GF RX2 42 2 10 := ⟨RX2, TX2, 11, iX2, gw_tb 90 rfl rfl, rfl, by decide⟩
set_option maxRecDepth 100000 in
theorem pX2_42 : PF RX2 42 2 10 .int := ⟨RX2, TX2, 11, tyX2, iX2, tyX2_ok, nmX2, gw_tb 90 rfl rfl, rfl, by decide, rfl, rfl⟩
set_option maxRecDepth 100000 in
theorem gX0_40 : GF RX0 40 0 0 := ⟨RX0, TX0, 16, iX0, gw_tb 121 rfl rfl, rfl, by decide⟩
set_option maxRecDepth 100000 in
theorem gX0_44 : GF RX0 44 0 1 := ⟨RX0, TX0, 16, iX0, gw_tb 122 rfl rfl, rfl, by decide⟩
set_option maxRecDepth 100000 in
theorem pX0_44 : PF RX0 44 0 1 .int := ⟨RX0, TX0, 16, tyX0, iX0, tyX0_ok, nmX0, gw_tb 122 rfl rfl, rfl, by decide, rfl, rfl⟩
set_option maxRecDepth 100000 in
theorem gX6_68 : GF RX6 68 0 1 := ⟨RX0, TX0, 16, iX0, gw_tb 123 rfl rfl, rfl, by decide⟩
set_option maxRecDepth 100000 in
theorem pX6_68 : PF RX6 68 0 1 .int := ⟨RX0, TX0, 16, tyX0, iX0, tyX0_ok, nmX0, gw_tb 123 rfl rfl, rfl, by decide, rfl, rfl⟩
set_option maxRecDepth 100000 in
theorem gX0_9 : GF RX0 9 0 2 := ⟨RX0, TX0, 16, iX0, gw_tb 124 rfl rfl, rfl, by decide⟩
set_option maxRecDepth 100000 in
theorem gX6_80 : GF RX6 80 0 2 := ⟨RX0, TX0, 16, iX0, gw_tb 125 rfl rfl, rfl, by decide⟩
set_option maxRecDepth 100000 in
theorem gX0_15 : GF RX0 15 0 3 := ⟨RX0, TX0, 16, iX0, gw_tb 126 rfl rfl, rfl, by decide⟩
set_option maxRecDepth 100000 in
theorem gX6_83 : GF RX6 83 0 3 := ⟨RX0, TX0, 16, iX0, gw_tb 127 rfl rfl, rfl, by decide⟩
set_option maxRecDepth 100000 in
theorem gX0_18 : GF RX0 18 0 4 := ⟨RX0, TX0, 16, iX0, gw_tb 128 rfl rfl, rfl, by decide⟩
set_option maxRecDepth 100000 in
theorem gX6_86 : GF RX6 86 0 4 := ⟨RX0, TX0, 16, iX0, gw_tb 129 rfl rfl, rfl, by decide⟩
set_option maxRecDepth 100000 in
theorem gX0_21 : GF RX0 21 0 5 := ⟨RX0, TX0, 16, iX0, gw_tb 130 rfl rfl, rfl, by decide⟩
set_option maxRecDepth 100000 in
theorem gX6_89 : GF RX6 89 0 5 := ⟨RX0, TX0, 16, iX0, gw_tb 131 rfl rfl, rfl, by decide⟩
set_option maxRecDepth 100000 in
theorem gX0_24 : GF RX0 24 0 6 := ⟨RX0, TX0, 16, iX0, gw_tb 132 rfl rfl, rfl, by decide⟩
set_option maxRecDepth 100000 in
theorem gX0_27 : GF RX0 27 0 7 := ⟨RX0, TX0, 16, iX0, gw_tb 133 rfl rfl, rfl, by decide⟩
set_option maxRecDepth 100000 in
theorem gX6_128 : GF RX6 128 0 7 := ⟨RX0, TX0, 16, iX0, gw_tb 134 rfl rfl, rfl, by decide⟩
set_option maxRecDepth 100000 in
theorem gX0_30 : GF RX0 30 0 8 := ⟨RX0, TX0, 16, iX0, gw_tb 135 rfl rfl, rfl, by decide⟩
set_option maxRecDepth 100000 in
theorem gX6_134 : GF RX6 134 0 8 := ⟨RX0, TX0, 16, iX0, gw_tb 136 rfl rfl, rfl, by decide⟩
set_option maxRecDepth 100000 in
theorem gX0_53 : GF RX0 53 0 9 := ⟨RX0, TX0, 16, iX0, gw_tb 137 rfl rfl, rfl, by decide⟩
set_option maxRecDepth 100000 in
theorem pX0_53 : PF RX0 53 0 9 .int := ⟨RX0, TX0, 16, tyX0, iX0, tyX0_ok, nmX0, gw_tb 137 rfl rfl, rfl, by decide, rfl, rfl⟩
set_option maxRecDepth 100000 in
theorem gX6_154 : GF RX6 154 0 9 := ⟨RX0, TX0, 16, iX0, gw_tb 138 rfl rfl, rfl, by decide⟩
set_option maxRecDepth 100000 in
theorem pX6_154 : PF RX6 154 0 9 .int := ⟨RX0, TX0, 16, tyX0, iX0, tyX0_ok, nmX0, gw_tb 138 rfl rfl, rfl, by decide, rfl, rfl⟩
set_option maxRecDepth 100000 in
theorem gX0_56 : GF RX0 56 0 10 := ⟨RX0, TX0, 16, iX0, gw_tb 139 rfl rfl, rfl, by decide⟩
set_option maxRecDepth 100000 in
theorem pX0_56 : PF RX0 56 0 10 .int := ⟨RX0, TX0, 16, tyX0, iX0, tyX0_ok, nmX0, gw_tb 139 rfl rfl, rfl, by decide, rfl, rfl⟩
set_option maxRecDepth 100000 in
theorem gX6_164 : GF RX6 164 0 10 := ⟨RX0, TX0, 16, iX0, gw_tb 140 rfl rfl, rfl, by decide⟩
set_option maxRecDepth 100000 in
theorem pX6_164 : PF RX6 164 0 10 .int := ⟨RX0, TX0, 16, tyX0, iX0, tyX0_ok, nmX0, gw_tb 140 rfl rfl, rfl, by decide, rfl, rfl⟩
set_option maxRecDepth 100000 in
theorem gX0_59 : GF RX0 59 0 11 := ⟨RX0, TX0, 16, iX0, gw_tb 141 rfl rfl, rfl, by decide⟩
set_option maxRecDepth 100000 in
theorem pX0_59 : PF RX0 59 0 11 .int := ⟨RX0, TX0, 16, tyX0, iX0, tyX0_ok, nmX0, gw_tb 141 rfl rfl, rfl, by decide, rfl, rfl⟩
set_option maxRecDepth 100000 in
theorem gX6_167 : GF RX6 167 0 11 := ⟨RX0, TX0, 16, iX0, gw_tb 142 rfl rfl, rfl, by decide⟩
set_option maxRecDepth 100000 in
theorem pX6_167 : PF RX6 167 0 11 .int := ⟨RX0, TX0, 16, tyX0, iX0, tyX0_ok, nmX0, gw_tb 142 rfl rfl, rfl, by decide, rfl, rfl⟩
set_option maxRecDepth 100000 in
theorem gX0_62 : GF RX0 62 0 12 := ⟨RX0, TX0, 16, iX0, gw_tb 143 rfl rfl, rfl, by decide⟩
set_option maxRecDepth 100000 in
theorem pX0_62 : PF RX0 62 0 12 .int := ⟨RX0, TX0, 16, tyX0, iX0, tyX0_ok, nmX0, gw_tb 143 rfl rfl, rfl, by decide, rfl, rfl⟩
set_option maxRecDepth 100000 in
theorem gX6_157 : GF RX6 157 0 12 := ⟨RX0, TX0, 16, iX0, gw_tb 144 rfl rfl, rfl, by decide⟩
set_option maxRecDepth 100000 in
theorem pX6_157 : PF RX6 157 0 12 .int := ⟨RX0, TX0, 16, tyX0, iX0, tyX0_ok, nmX0, gw_tb 144 rfl rfl, rfl, by decide, rfl, rfl⟩
set_option maxRecDepth 100000 in
theorem gX0_33 : GF RX0 33 0 13 := ⟨RX0, TX0, 16, iX0, gw_tb 145 rfl rfl, rfl, by decide⟩
set_option maxRecDepth 100000 in
theorem pX0_33 : PF RX0 33 0 13 .int := ⟨RX0, TX0, 16, tyX0, iX0, tyX0_ok, nmX0, gw_tb 145 rfl rfl, rfl, by decide, rfl, rfl⟩
set_option maxRecDepth 100000 in
theorem gX6_151 : GF RX6 151 0 13 := ⟨RX0, TX0, 16, iX0, gw_tb 146 rfl rfl, rfl, by decide⟩
set_option maxRecDepth 100000 in
theorem pX6_151 : PF RX6 151 0 13 .int := ⟨RX0, TX0, 16, tyX0, iX0, tyX0_ok, nmX0, gw_tb 146 rfl rfl, rfl, by decide, rfl, rfl⟩
set_option maxRecDepth 100000 in
theorem gX0_65 : GF RX0 65 0 14 := ⟨RX0, TX0, 16, iX0, gw_tb 147 rfl rfl, rfl, by decide⟩
set_option maxRecDepth 100000 in
theorem pX0_65 : PF RX0 65 0 14 .int := ⟨RX0, TX0, 16, tyX0, iX0, tyX0_ok, nmX0, gw_tb 147 rfl rfl, rfl, by decide, rfl, rfl⟩
set_option maxRecDepth 100000 in
theorem gX6_227 : GF RX6 227 0 14 := ⟨RX0, TX0, 16, iX0, gw_tb 148 rfl rfl, rfl, by decide⟩
set_option maxRecDepth 100000 in
theorem pX6_227 : PF RX6 227 0 14 .int := ⟨RX0, TX0, 16, tyX0, iX0, tyX0_ok, nmX0, gw_tb 148 rfl rfl, rfl, by decide, rfl, rfl⟩
set_option maxRecDepth 100000 in
theorem gX0_37 : GF RX0 37 0 15 := ⟨RX0, TX0, 16, iX0, gw_tb 149 rfl rfl, rfl, by decide⟩
set_option maxRecDepth 100000 in
theorem gX6_209 : GF RX6 209 0 15 := ⟨RX0, TX0, 16, iX0, gw_tb 150 rfl rfl, rfl, by decide⟩
set_option maxRecDepth 100000 in
theorem gX3_9 : GF RX3 9 3 0 := ⟨RX3, TX3, 3, iX3, gw_tb 191 rfl rfl, rfl, by decide⟩
set_option maxRecDepth 100000 in
theorem pX3_9 : PF RX3 9 3 0 .int := ⟨RX3, TX3, 3, tyX3, iX3, tyX3_ok, nmX3, gw_tb 191 rfl rfl, rfl, by decide, rfl, rfl⟩
set_option maxRecDepth 100000 in
theorem gX6_193 : GF RX6 193 3 0 := ⟨RX3, TX3, 3, iX3, gw_tb 192 rfl rfl, rfl, by decide⟩
set_option maxRecDepth 100000 in
theorem pX6_193 : PF RX6 193 3 0 .int := ⟨RX3, TX3, 3, tyX3, iX3, tyX3_ok, nmX3, gw_tb 192 rfl rfl, rfl, by decide, rfl, rfl⟩
set_option maxRecDepth 100000 in
theorem gX3_19 : GF RX3 19 3 1 := ⟨RX3, TX3, 3, iX3, gw_tb 193 rfl rfl, rfl, by decide⟩
set_option maxRecDepth 100000 in
theorem pX3_19 : PF RX3 19 3 1 .int := ⟨RX3, TX3, 3, tyX3, iX3, tyX3_ok, nmX3, gw_tb 193 rfl rfl, rfl, by decide, rfl, rfl⟩
set_option maxRecDepth 100000 in
theorem gX6_197 : GF RX6 197 3 1 := ⟨RX3, TX3, 3, iX3, gw_tb 194 rfl rfl, rfl, by decide⟩
set_option maxRecDepth 100000 in
theorem pX6_197 : PF RX6 197 3 1 .int := ⟨RX3, TX3, 3, tyX3, iX3, tyX3_ok, nmX3, gw_tb 194 rfl rfl, rfl, by decide, rfl, rfl⟩
set_option maxRecDepth 100000 in
theorem gX3_15 : GF RX3 15 3 2 := ⟨RX3, TX3, 3, iX3, gw_tb 195 rfl rfl, rfl, by decide⟩
set_option maxRecDepth 100000 in
theorem gX6_203 : GF RX6 203 3 2 := ⟨RX3, TX3, 3, iX3, gw_tb 196 rfl rfl, rfl, by decide⟩
set_option maxRecDepth 100000 in
theorem gX4_9 : GF RX4 9 4 0 := ⟨RX4, TX4, 4, iX4, gw_tb 213 rfl rfl, rfl, by decide⟩
set_option maxRecDepth 100000 in
theorem pX4_9 : PF RX4 9 4 0 .int := ⟨RX4, TX4, 4, tyX4, iX4, tyX4_ok, nmX4, gw_tb 213 rfl rfl, rfl, by decide, rfl, rfl⟩
set_option maxRecDepth 100000 in
theorem gX6_271 : GF RX6 271 4 0 := ⟨RX4, TX4, 4, iX4, gw_tb 214 rfl rfl, rfl, by decide⟩
set_option maxRecDepth 100000 in
theorem pX6_271 : PF RX6 271 4 0 .int := ⟨RX4, TX4, 4, tyX4, iX4, tyX4_ok, nmX4, gw_tb 214 rfl rfl, rfl, by decide, rfl, rfl⟩
set_option maxRecDepth 100000 in
theorem gX6_274 : GF RX6 274 4 1 := ⟨RX4, TX4, 4, iX4, gw_tb 215 rfl rfl, rfl, by decide⟩
set_option maxRecDepth 100000 in
theorem pX6_274 : PF RX6 274 4 1 .int := ⟨RX4, TX4, 4, tyX4, iX4, tyX4_ok, nmX4, gw_tb 215 rfl rfl, rfl, by decide, rfl, rfl⟩
set_option maxRecDepth 100000 in
theorem gX6_283 : GF RX6 283 4 2 := ⟨RX4, TX4, 4, iX4, gw_tb 216 rfl rfl, rfl, by decide⟩
set_option maxRecDepth 100000 in
theorem pX6_283 : PF RX6 283 4 2 .int := ⟨RX4, TX4, 4, tyX4, iX4, tyX4_ok, nmX4, gw_tb 216 rfl rfl, rfl, by decide, rfl, rfl⟩
set_option maxRecDepth 100000 in
theorem gX4_18 : GF RX4 18 4 3 := ⟨RX4, TX4, 4, iX4, gw_tb 217 rfl rfl, rfl, by decide⟩
set_option maxRecDepth 100000 in
theorem gX6_276 : GF RX6 276 4 3 := ⟨RX4, TX4, 4, iX4, gw_tb 218 rfl rfl, rfl, by decide⟩
set_option maxRecDepth 100000 in
theorem gX6_10 : GF RX6 10 6 0 := ⟨RX6, TX6, 11, iX6, gw_tb 228 rfl rfl, rfl, by decide⟩
set_option maxRecDepth 100000 in
theorem gX6_19 : GF RX6 19 6 1 := ⟨RX6, TX6, 11, iX6, gw_tb 229 rfl rfl, rfl, by decide⟩
set_option maxRecDepth 100000 in
theorem gX6_28 : GF RX6 28 6 2 := ⟨RX6, TX6, 11, iX6, gw_tb 230 rfl rfl, rfl, by decide⟩
set_option maxRecDepth 100000 in
theorem gX6_32 : GF RX6 32 6 3 := ⟨RX6, TX6, 11, iX6, gw_tb 231 rfl rfl, rfl, by decide⟩
set_option maxRecDepth 100000 in
theorem gX6_35 : GF RX6 35 6 4 := ⟨RX6, TX6, 11, iX6, gw_tb 232 rfl rfl, rfl, by decide⟩
set_option maxRecDepth 100000 in
theorem gX6_290 : GF RX6 290 6 5 := ⟨RX6, TX6, 11, iX6, gw_tb 233 rfl rfl, rfl, by decide⟩
set_option maxRecDepth 100000 in
theorem pX6_290 : PF RX6 290 6 5 .boolean := ⟨RX6, TX6, 11, tyX6, iX6, tyX6_ok, nmX6, gw_tb 233 rfl rfl, rfl, by decide, rfl, rfl⟩
set_option maxRecDepth 100000 in
theorem gX6_40 : GF RX6 40 6 6 := ⟨RX6, TX6, 11, iX6, gw_tb 234 rfl rfl, rfl, by decide⟩
set_option maxRecDepth 100000 in
theorem gX6_47 : GF RX6 47 6 7 := ⟨RX6, TX6, 11, iX6, gw_tb 235 rfl rfl, rfl, by decide⟩
set_option maxRecDepth 100000 in
theorem gX6_52 : GF RX6 52 6 8 := ⟨RX6, TX6, 11, iX6, gw_tb 236 rfl rfl, rfl, by decide⟩
set_option maxRecDepth 100000 in
theorem gX6_287 : GF RX6 287 6 9 := ⟨RX6, TX6, 11, iX6, gw_tb 237 rfl rfl, rfl, by decide⟩
set_option maxRecDepth 100000 in
theorem pX6_287 : PF RX6 287 6 9 .int := ⟨RX6, TX6, 11, tyX6, iX6, tyX6_ok, nmX6, gw_tb 237 rfl rfl, rfl, by decide, rfl, rfl⟩
set_option maxRecDepth 100000 in
theorem gX6_56 : GF RX6 56 6 10 := ⟨RX6, TX6, 11, iX6, gw_tb 238 rfl rfl, rfl, by decide⟩
set_option maxRecDepth 100000 in
theorem kX6_67 : Cond.constant RX6 67 (-1000000001) ∈ gw := gw_tb 272 rfl rfl
set_option maxRecDepth 100000 in
theorem kX6_72 : Cond.constant RX6 72 (-1000000003) ∈ gw := gw_tb 273 rfl rfl
set_option maxRecDepth 100000 in
theorem kX6_106 : Cond.constant RX6 106 (-1000000012) ∈ gw := gw_tb 320 rfl rfl
set_option maxRecDepth 100000 in
theorem kJ6_265 : Cond.constant RJ6 265 (1431655765) ∈ gw := gw_tb 388 rfl rfl
set_option maxRecDepth 100000 in
theorem kJ6_266 : Cond.constant RJ6 266 (858993459) ∈ gw := gw_tb 389 rfl rfl
set_option maxRecDepth 100000 in
theorem kJ6_267 : Cond.constant RJ6 267 (252645135) ∈ gw := gw_tb 390 rfl rfl
set_option maxRecDepth 100000 in
theorem kX0_79 : Cond.constant RX0 79 (1103515245) ∈ gw := gw_tb 434 rfl rfl
set_option maxRecDepth 100000 in
theorem kX6_181 : Cond.constant RX6 181 (-1000000005) ∈ gw := gw_tb 491 rfl rfl
set_option maxRecDepth 100000 in
theorem kX6_196 : Cond.constant RX6 196 (-1000000011) ∈ gw := gw_tb 520 rfl rfl
set_option maxRecDepth 100000 in
theorem kX3_28 : Cond.constant RX3 28 (-1000000005) ∈ gw := gw_tb 525 rfl rfl
set_option maxRecDepth 100000 in
theorem kJ2_227 : Cond.constant RJ2 227 (65536) ∈ gw := gw_tb 704 rfl rfl
set_option maxRecDepth 100000 in
theorem kJ11_110 : Cond.constant RJ11 110 (55232) ∈ gw := gw_tb 729 rfl rfl
set_option maxRecDepth 100000 in
theorem kJ11_76 : Cond.constant RJ11 76 (56320) ∈ gw := gw_tb 733 rfl rfl
set_option maxRecDepth 100000 in
theorem kX6_252 : Cond.constant RX6 252 (-1000000014) ∈ gw := gw_tb 767 rfl rfl
set_option maxRecDepth 100000 in
theorem kX6_253 : Cond.constant RX6 253 (-1000000013) ∈ gw := gw_tb 772 rfl rfl
set_option maxRecDepth 100000 in
theorem kX6_254 : Cond.constant RX6 254 (-99999) ∈ gw := gw_tb 773 rfl rfl
set_option maxRecDepth 100000 in
theorem kX6_255 : Cond.constant RX6 255 (99999) ∈ gw := gw_tb 774 rfl rfl
set_option maxRecDepth 100000 in
theorem kX6_286 : Cond.constant RX6 286 (-1000000002) ∈ gw := gw_tb 817 rfl rfl
set_option maxRecDepth 100000 in
theorem gX7_9 : GF RX7 9 7 0 := ⟨RX7, TX7, 33, iX7, gw_tb 844 rfl rfl, rfl, by decide⟩
set_option maxRecDepth 100000 in
theorem gX7_13 : GF RX7 13 7 1 := ⟨RX7, TX7, 33, iX7, gw_tb 845 rfl rfl, rfl, by decide⟩
set_option maxRecDepth 100000 in
theorem gX7_16 : GF RX7 16 7 2 := ⟨RX7, TX7, 33, iX7, gw_tb 846 rfl rfl, rfl, by decide⟩
set_option maxRecDepth 100000 in
theorem gX7_282 : GF RX7 282 7 3 := ⟨RX7, TX7, 33, iX7, gw_tb 847 rfl rfl, rfl, by decide⟩
set_option maxRecDepth 100000 in
theorem pX7_282 : PF RX7 282 7 3 .boolean := ⟨RX7, TX7, 33, tyX7, iX7, tyX7_ok, nmX7, gw_tb 847 rfl rfl, rfl, by decide, rfl, rfl⟩
set_option maxRecDepth 100000 in
theorem gX7_19 : GF RX7 19 7 4 := ⟨RX7, TX7, 33, iX7, gw_tb 848 rfl rfl, rfl, by decide⟩
set_option maxRecDepth 100000 in
theorem gX7_22 : GF RX7 22 7 5 := ⟨RX7, TX7, 33, iX7, gw_tb 849 rfl rfl, rfl, by decide⟩
set_option maxRecDepth 100000 in
theorem gX7_203 : GF RX7 203 7 6 := ⟨RX7, TX7, 33, iX7, gw_tb 850 rfl rfl, rfl, by decide⟩
set_option maxRecDepth 100000 in
theorem pX7_203 : PF RX7 203 7 6 .int := ⟨RX7, TX7, 33, tyX7, iX7, tyX7_ok, nmX7, gw_tb 850 rfl rfl, rfl, by decide, rfl, rfl⟩
set_option maxRecDepth 100000 in
theorem gX7_207 : GF RX7 207 7 7 := ⟨RX7, TX7, 33, iX7, gw_tb 851 rfl rfl, rfl, by decide⟩
set_option maxRecDepth 100000 in
theorem pX7_207 : PF RX7 207 7 7 .int := ⟨RX7, TX7, 33, tyX7, iX7, tyX7_ok, nmX7, gw_tb 851 rfl rfl, rfl, by decide, rfl, rfl⟩
set_option maxRecDepth 100000 in
theorem gX7_210 : GF RX7 210 7 8 := ⟨RX7, TX7, 33, iX7, gw_tb 852 rfl rfl, rfl, by decide⟩
set_option maxRecDepth 100000 in
theorem pX7_210 : PF RX7 210 7 8 .int := ⟨RX7, TX7, 33, tyX7, iX7, tyX7_ok, nmX7, gw_tb 852 rfl rfl, rfl, by decide, rfl, rfl⟩
set_option maxRecDepth 100000 in
theorem gX7_216 : GF RX7 216 7 9 := ⟨RX7, TX7, 33, iX7, gw_tb 853 rfl rfl, rfl, by decide⟩
set_option maxRecDepth 100000 in
theorem pX7_216 : PF RX7 216 7 9 .int := ⟨RX7, TX7, 33, tyX7, iX7, tyX7_ok, nmX7, gw_tb 853 rfl rfl, rfl, by decide, rfl, rfl⟩
set_option maxRecDepth 100000 in
theorem gX7_222 : GF RX7 222 7 10 := ⟨RX7, TX7, 33, iX7, gw_tb 854 rfl rfl, rfl, by decide⟩
set_option maxRecDepth 100000 in
theorem pX7_222 : PF RX7 222 7 10 .int := ⟨RX7, TX7, 33, tyX7, iX7, tyX7_ok, nmX7, gw_tb 854 rfl rfl, rfl, by decide, rfl, rfl⟩
set_option maxRecDepth 100000 in
theorem gX7_213 : GF RX7 213 7 11 := ⟨RX7, TX7, 33, iX7, gw_tb 855 rfl rfl, rfl, by decide⟩
set_option maxRecDepth 100000 in
theorem pX7_213 : PF RX7 213 7 11 .int := ⟨RX7, TX7, 33, tyX7, iX7, tyX7_ok, nmX7, gw_tb 855 rfl rfl, rfl, by decide, rfl, rfl⟩
set_option maxRecDepth 100000 in
theorem gX7_228 : GF RX7 228 7 12 := ⟨RX7, TX7, 33, iX7, gw_tb 856 rfl rfl, rfl, by decide⟩
set_option maxRecDepth 100000 in
theorem pX7_228 : PF RX7 228 7 12 .int := ⟨RX7, TX7, 33, tyX7, iX7, tyX7_ok, nmX7, gw_tb 856 rfl rfl, rfl, by decide, rfl, rfl⟩
set_option maxRecDepth 100000 in
theorem gX7_25 : GF RX7 25 7 13 := ⟨RX7, TX7, 33, iX7, gw_tb 857 rfl rfl, rfl, by decide⟩
set_option maxRecDepth 100000 in
theorem gX7_29 : GF RX7 29 7 14 := ⟨RX7, TX7, 33, iX7, gw_tb 858 rfl rfl, rfl, by decide⟩
set_option maxRecDepth 100000 in
theorem gX7_32 : GF RX7 32 7 15 := ⟨RX7, TX7, 33, iX7, gw_tb 859 rfl rfl, rfl, by decide⟩
set_option maxRecDepth 100000 in
theorem gX7_240 : GF RX7 240 7 16 := ⟨RX7, TX7, 33, iX7, gw_tb 860 rfl rfl, rfl, by decide⟩
set_option maxRecDepth 100000 in
theorem pX7_240 : PF RX7 240 7 16 .int := ⟨RX7, TX7, 33, tyX7, iX7, tyX7_ok, nmX7, gw_tb 860 rfl rfl, rfl, by decide, rfl, rfl⟩
set_option maxRecDepth 100000 in
theorem gX7_246 : GF RX7 246 7 17 := ⟨RX7, TX7, 33, iX7, gw_tb 861 rfl rfl, rfl, by decide⟩
set_option maxRecDepth 100000 in
theorem pX7_246 : PF RX7 246 7 17 .int := ⟨RX7, TX7, 33, tyX7, iX7, tyX7_ok, nmX7, gw_tb 861 rfl rfl, rfl, by decide, rfl, rfl⟩
set_option maxRecDepth 100000 in
theorem gX7_35 : GF RX7 35 7 18 := ⟨RX7, TX7, 33, iX7, gw_tb 862 rfl rfl, rfl, by decide⟩
set_option maxRecDepth 100000 in
theorem gX7_234 : GF RX7 234 7 19 := ⟨RX7, TX7, 33, iX7, gw_tb 863 rfl rfl, rfl, by decide⟩
set_option maxRecDepth 100000 in
theorem pX7_234 : PF RX7 234 7 19 .int := ⟨RX7, TX7, 33, tyX7, iX7, tyX7_ok, nmX7, gw_tb 863 rfl rfl, rfl, by decide, rfl, rfl⟩
set_option maxRecDepth 100000 in
theorem gX7_38 : GF RX7 38 7 20 := ⟨RX7, TX7, 33, iX7, gw_tb 864 rfl rfl, rfl, by decide⟩
set_option maxRecDepth 100000 in
theorem gX7_42 : GF RX7 42 7 21 := ⟨RX7, TX7, 33, iX7, gw_tb 865 rfl rfl, rfl, by decide⟩
set_option maxRecDepth 100000 in
theorem gX7_45 : GF RX7 45 7 22 := ⟨RX7, TX7, 33, iX7, gw_tb 866 rfl rfl, rfl, by decide⟩
set_option maxRecDepth 100000 in
theorem gX7_48 : GF RX7 48 7 23 := ⟨RX7, TX7, 33, iX7, gw_tb 867 rfl rfl, rfl, by decide⟩
set_option maxRecDepth 100000 in
theorem gX7_51 : GF RX7 51 7 24 := ⟨RX7, TX7, 33, iX7, gw_tb 868 rfl rfl, rfl, by decide⟩
set_option maxRecDepth 100000 in
theorem gX7_54 : GF RX7 54 7 25 := ⟨RX7, TX7, 33, iX7, gw_tb 869 rfl rfl, rfl, by decide⟩
set_option maxRecDepth 100000 in
theorem gX7_57 : GF RX7 57 7 26 := ⟨RX7, TX7, 33, iX7, gw_tb 870 rfl rfl, rfl, by decide⟩
set_option maxRecDepth 100000 in
theorem gX7_60 : GF RX7 60 7 27 := ⟨RX7, TX7, 33, iX7, gw_tb 871 rfl rfl, rfl, by decide⟩
set_option maxRecDepth 100000 in
theorem gX7_63 : GF RX7 63 7 28 := ⟨RX7, TX7, 33, iX7, gw_tb 872 rfl rfl, rfl, by decide⟩
set_option maxRecDepth 100000 in
theorem gX7_66 : GF RX7 66 7 29 := ⟨RX7, TX7, 33, iX7, gw_tb 873 rfl rfl, rfl, by decide⟩
set_option maxRecDepth 100000 in
theorem gX7_69 : GF RX7 69 7 30 := ⟨RX7, TX7, 33, iX7, gw_tb 874 rfl rfl, rfl, by decide⟩
set_option maxRecDepth 100000 in
theorem gX7_72 : GF RX7 72 7 31 := ⟨RX7, TX7, 33, iX7, gw_tb 875 rfl rfl, rfl, by decide⟩
set_option maxRecDepth 100000 in
theorem gX7_279 : GF RX7 279 7 32 := ⟨RX7, TX7, 33, iX7, gw_tb 876 rfl rfl, rfl, by decide⟩
set_option maxRecDepth 100000 in
theorem pX7_279 : PF RX7 279 7 32 .int := ⟨RX7, TX7, 33, tyX7, iX7, tyX7_ok, nmX7, gw_tb 876 rfl rfl, rfl, by decide, rfl, rfl⟩
set_option maxRecDepth 100000 in
theorem kX7_119 : Cond.constant RX7 119 (-1000000001) ∈ gw := gw_tb 953 rfl rfl
set_option maxRecDepth 100000 in
theorem kX7_120 : Cond.constant RX7 120 (-1000000003) ∈ gw := gw_tb 954 rfl rfl
set_option maxRecDepth 100000 in
theorem kX7_141 : Cond.constant RX7 141 (-1000000012) ∈ gw := gw_tb 1005 rfl rfl
set_option maxRecDepth 100000 in
theorem kX7_154 : Cond.constant RX7 154 (1103515245) ∈ gw := gw_tb 1094 rfl rfl
set_option maxRecDepth 100000 in
theorem kX7_191 : Cond.constant RX7 191 (-1000000005) ∈ gw := gw_tb 1154 rfl rfl
set_option maxRecDepth 100000 in
theorem kX7_202 : Cond.constant RX7 202 (-1000000011) ∈ gw := gw_tb 1186 rfl rfl
set_option maxRecDepth 100000 in
theorem kX7_271 : Cond.constant RX7 271 (-1000000014) ∈ gw := gw_tb 1262 rfl rfl
set_option maxRecDepth 100000 in
theorem kX7_272 : Cond.constant RX7 272 (-1000000013) ∈ gw := gw_tb 1267 rfl rfl
set_option maxRecDepth 100000 in
theorem kX7_273 : Cond.constant RX7 273 (-99999) ∈ gw := gw_tb 1268 rfl rfl
set_option maxRecDepth 100000 in
theorem kX7_274 : Cond.constant RX7 274 (99999) ∈ gw := gw_tb 1269 rfl rfl
set_option maxRecDepth 100000 in
theorem kX7_278 : Cond.constant RX7 278 (-1000000002) ∈ gw := gw_tb 1301 rfl rfl
set_option maxRecDepth 100000 in
theorem cL_13 : CV RL 13 yX6_person cX6_person 4 (some .int) 3 := ⟨gw_c (gw_tb 262 rfl rfl) (gw_c (gw_tb 263 rfl rfl) (gw_c (gw_tb 264 rfl rfl) (gw_c (gw_tb 1 rfl rfl) (gw_c (gw_tb 265 rfl rfl) gw_n)))), by decide +kernel, by decide⟩
set_option maxRecDepth 100000 in
theorem cX6_59 : CS RX6 59 yX6_noKind cX6_noKind 1 (some .boolean) 1 := ⟨gw_c (gw_tb 266 rfl rfl) (gw_c (gw_tb 267 rfl rfl) (gw_c (gw_tb 1 rfl rfl) (gw_c (gw_tb 268 rfl rfl) gw_n))), by decide +kernel, by decide⟩
set_option maxRecDepth 100000 in
theorem cX6_63 : CS RX6 63 yX6_outside cX6_outside 3 (some .boolean) 3 := ⟨gw_c (gw_tb 269 rfl rfl) (gw_c (gw_tb 270 rfl rfl) (gw_c (gw_tb 1 rfl rfl) (gw_c (gw_tb 271 rfl rfl) gw_n))), by decide +kernel, by decide⟩
set_option maxRecDepth 100000 in
theorem cX6_73 : CV RX6 73 yX0_settle cX0_settle 5 none 3 := ⟨gw_c (gw_tb 274 rfl rfl) (gw_c (gw_tb 275 rfl rfl) (gw_c (gw_tb 276 rfl rfl) (gw_c (gw_tb 5 rfl rfl) (gw_c (gw_tb 277 rfl rfl) gw_n)))), by decide +kernel, by decide⟩
set_option maxRecDepth 100000 in
theorem cX0_68 : CV RX0 68 yX0_think cX0_think 4 none 3 := ⟨gw_c (gw_tb 278 rfl rfl) (gw_c (gw_tb 279 rfl rfl) (gw_c (gw_tb 280 rfl rfl) (gw_c (gw_tb 5 rfl rfl) (gw_c (gw_tb 281 rfl rfl) gw_n)))), by decide +kernel, by decide⟩
set_option maxRecDepth 100000 in
theorem cL_18 : CV RL 18 yX6_told cX6_told 3 (some .int) 2 := ⟨gw_c (gw_tb 282 rfl rfl) (gw_c (gw_tb 283 rfl rfl) (gw_c (gw_tb 284 rfl rfl) (gw_c (gw_tb 1 rfl rfl) (gw_c (gw_tb 285 rfl rfl) gw_n)))), by decide +kernel, by decide⟩
set_option maxRecDepth 100000 in
theorem cX6_77 : CV RX6 77 yX6_noPerson cX6_noPerson 2 (some .boolean) 1 := ⟨gw_c (gw_tb 286 rfl rfl) (gw_c (gw_tb 288 rfl rfl) (gw_c (gw_pv 0 rfl rfl) (gw_c (gw_tb 1 rfl rfl) (gw_c (gw_tb 289 rfl rfl) gw_n)))), by decide +kernel, by decide⟩
set_option maxRecDepth 100000 in
theorem cX6_95 : CV RX6 95 yX0_fieldsThoughtOf cX0_fieldsThoughtOf 4 (some .int) 1 := ⟨gw_c (gw_tb 292 rfl rfl) (gw_c (gw_tb 293 rfl rfl) (gw_c (gw_tb 294 rfl rfl) (gw_c (gw_tb 5 rfl rfl) (gw_c (gw_tb 295 rfl rfl) gw_n)))), by decide +kernel, by decide⟩
set_option maxRecDepth 100000 in
theorem cX0_80 : CV RX0 80 yX0_thoughtOf cX0_thoughtOf 3 (some .int) 2 := ⟨gw_c (gw_tb 296 rfl rfl) (gw_c (gw_tb 297 rfl rfl) (gw_c (gw_tb 298 rfl rfl) (gw_c (gw_tb 5 rfl rfl) (gw_c (gw_tb 299 rfl rfl) gw_n)))), by decide +kernel, by decide⟩
set_option maxRecDepth 100000 in
theorem cX6_99 : CV RX6 99 yX0_hearersOf cX0_hearersOf 4 (some .int) 1 := ⟨gw_c (gw_tb 300 rfl rfl) (gw_c (gw_tb 301 rfl rfl) (gw_c (gw_tb 302 rfl rfl) (gw_c (gw_tb 5 rfl rfl) (gw_c (gw_tb 303 rfl rfl) gw_n)))), by decide +kernel, by decide⟩
set_option maxRecDepth 100000 in
theorem cX0_90 : CV RX0 90 yX0_hears cX0_hears 4 (some .boolean) 2 := ⟨gw_c (gw_tb 304 rfl rfl) (gw_c (gw_tb 305 rfl rfl) (gw_c (gw_tb 306 rfl rfl) (gw_c (gw_tb 5 rfl rfl) (gw_c (gw_tb 307 rfl rfl) gw_n)))), by decide +kernel, by decide⟩
set_option maxRecDepth 100000 in
theorem mX0_84 : MX RX0 84 Lib.Math.abs.name Lib.Math.abs.code 1 := ⟨gw_tb 308 rfl rfl, gw_tb 309 rfl rfl, gw_tb 9 rfl rfl, gw_tb 310 rfl rfl⟩
set_option maxRecDepth 100000 in
theorem cL_23 : CV RL 23 yX6_as cX6_as 3 (some .int) 2 := ⟨gw_c (gw_tb 311 rfl rfl) (gw_c (gw_tb 312 rfl rfl) (gw_c (gw_tb 313 rfl rfl) (gw_c (gw_tb 1 rfl rfl) (gw_c (gw_tb 314 rfl rfl) gw_n)))), by decide +kernel, by decide⟩
set_option maxRecDepth 100000 in
theorem cX6_102 : CS RX6 102 yX6_isOf cX6_isOf 4 (some .boolean) 2 := ⟨gw_c (gw_tb 315 rfl rfl) (gw_c (gw_tb 316 rfl rfl) (gw_c (gw_tb 1 rfl rfl) (gw_c (gw_tb 317 rfl rfl) gw_n))), by decide +kernel, by decide⟩
set_option maxRecDepth 100000 in
theorem cL_27 : CV RL 27 yX6_turns cX6_turns 4 (some .int) 2 := ⟨gw_c (gw_tb 321 rfl rfl) (gw_c (gw_tb 322 rfl rfl) (gw_c (gw_tb 323 rfl rfl) (gw_c (gw_tb 1 rfl rfl) (gw_c (gw_tb 324 rfl rfl) gw_n)))), by decide +kernel, by decide⟩
set_option maxRecDepth 100000 in
theorem cL_31 : CV RL 31 yX6_set cX6_set 4 (some .int) 3 := ⟨gw_c (gw_tb 325 rfl rfl) (gw_c (gw_tb 326 rfl rfl) (gw_c (gw_tb 327 rfl rfl) (gw_c (gw_tb 1 rfl rfl) (gw_c (gw_tb 328 rfl rfl) gw_n)))), by decide +kernel, by decide⟩
set_option maxRecDepth 100000 in
theorem cX6_107 : CS RX6 107 yX6_replaced cX6_replaced 5 (some .int) 4 := ⟨gw_c (gw_tb 329 rfl rfl) (gw_c (gw_tb 330 rfl rfl) (gw_c (gw_tb 1 rfl rfl) (gw_c (gw_tb 331 rfl rfl) gw_n))), by decide +kernel, by decide⟩
set_option maxRecDepth 100000 in
theorem cL_35 : CV RL 35 yX6_thought cX6_thought 3 (some .int) 2 := ⟨gw_c (gw_tb 332 rfl rfl) (gw_c (gw_tb 333 rfl rfl) (gw_c (gw_tb 334 rfl rfl) (gw_c (gw_tb 1 rfl rfl) (gw_c (gw_tb 335 rfl rfl) gw_n)))), by decide +kernel, by decide⟩
set_option maxRecDepth 100000 in
theorem cX6_111 : CS RX6 111 yX6_noField cX6_noField 1 (some .boolean) 1 := ⟨gw_c (gw_tb 336 rfl rfl) (gw_c (gw_tb 337 rfl rfl) (gw_c (gw_tb 1 rfl rfl) (gw_c (gw_tb 338 rfl rfl) gw_n))), by decide +kernel, by decide⟩
set_option maxRecDepth 100000 in
theorem cX6_114 : CV RX6 114 yX0_thoughtOf cX0_thoughtOf 3 (some .int) 2 := ⟨gw_c (gw_tb 339 rfl rfl) (gw_c (gw_tb 297 rfl rfl) (gw_c (gw_tb 298 rfl rfl) (gw_c (gw_tb 5 rfl rfl) (gw_c (gw_tb 299 rfl rfl) gw_n)))), by decide +kernel, by decide⟩
set_option maxRecDepth 100000 in
theorem cL_39 : CV RL 39 yX6_lets cX6_lets 5 (some .int) 3 := ⟨gw_c (gw_tb 340 rfl rfl) (gw_c (gw_tb 341 rfl rfl) (gw_c (gw_tb 342 rfl rfl) (gw_c (gw_tb 1 rfl rfl) (gw_c (gw_tb 343 rfl rfl) gw_n)))), by decide +kernel, by decide⟩
set_option maxRecDepth 100000 in
theorem cX6_118 : CV RX6 118 yX0_think cX0_think 4 none 3 := ⟨gw_c (gw_tb 344 rfl rfl) (gw_c (gw_tb 279 rfl rfl) (gw_c (gw_tb 280 rfl rfl) (gw_c (gw_tb 5 rfl rfl) (gw_c (gw_tb 281 rfl rfl) gw_n)))), by decide +kernel, by decide⟩
set_option maxRecDepth 100000 in
theorem cL_43 : CV RL 43 yX6_says cX6_says 3 (some .int) 2 := ⟨gw_c (gw_tb 345 rfl rfl) (gw_c (gw_tb 346 rfl rfl) (gw_c (gw_tb 347 rfl rfl) (gw_c (gw_tb 1 rfl rfl) (gw_c (gw_tb 348 rfl rfl) gw_n)))), by decide +kernel, by decide⟩
set_option maxRecDepth 100000 in
theorem cX6_121 : CV RX6 121 yX0_wordOf cX0_wordOf 4 (some .int) 2 := ⟨gw_c (gw_tb 349 rfl rfl) (gw_c (gw_tb 350 rfl rfl) (gw_c (gw_tb 351 rfl rfl) (gw_c (gw_tb 5 rfl rfl) (gw_c (gw_tb 352 rfl rfl) gw_n)))), by decide +kernel, by decide⟩
set_option maxRecDepth 100000 in
theorem cX0_103 : CS RX0 103 yX0_oneMore cX0_oneMore 1 (some .int) 1 := ⟨gw_c (gw_tb 353 rfl rfl) (gw_c (gw_tb 354 rfl rfl) (gw_c (gw_tb 5 rfl rfl) (gw_c (gw_tb 355 rfl rfl) gw_n))), by decide +kernel, by decide⟩
set_option maxRecDepth 100000 in
theorem cX0_106 : CV RX0 106 yX0_tradersWord cX0_tradersWord 3 (some .int) 1 := ⟨gw_c (gw_tb 356 rfl rfl) (gw_c (gw_tb 357 rfl rfl) (gw_c (gw_tb 358 rfl rfl) (gw_c (gw_tb 5 rfl rfl) (gw_c (gw_tb 359 rfl rfl) gw_n)))), by decide +kernel, by decide⟩
set_option maxRecDepth 100000 in
theorem cX0_100 : CV RX0 100 yX0_firstCrop cX0_firstCrop 6 (some .int) 1 := ⟨gw_c (gw_tb 360 rfl rfl) (gw_c (gw_tb 361 rfl rfl) (gw_c (gw_tb 362 rfl rfl) (gw_c (gw_tb 5 rfl rfl) (gw_c (gw_tb 363 rfl rfl) gw_n)))), by decide +kernel, by decide⟩
set_option maxRecDepth 100000 in
theorem cX0_97 : CV RX0 97 yX0_votesFor cX0_votesFor 5 (some .int) 2 := ⟨gw_c (gw_tb 364 rfl rfl) (gw_c (gw_tb 365 rfl rfl) (gw_c (gw_tb 366 rfl rfl) (gw_c (gw_tb 5 rfl rfl) (gw_c (gw_tb 367 rfl rfl) gw_n)))), by decide +kernel, by decide⟩
set_option maxRecDepth 100000 in
theorem cL_47 : CV RL 47 yX6_heeds cX6_heeds 4 (some .int) 3 := ⟨gw_c (gw_tb 369 rfl rfl) (gw_c (gw_tb 370 rfl rfl) (gw_c (gw_tb 371 rfl rfl) (gw_c (gw_tb 1 rfl rfl) (gw_c (gw_tb 372 rfl rfl) gw_n)))), by decide +kernel, by decide⟩
set_option maxRecDepth 100000 in
theorem cX6_124 : CV RX6 124 yX0_heedOf cX0_heedOf 4 (some .int) 3 := ⟨gw_c (gw_tb 373 rfl rfl) (gw_c (gw_tb 374 rfl rfl) (gw_c (gw_tb 375 rfl rfl) (gw_c (gw_tb 5 rfl rfl) (gw_c (gw_tb 376 rfl rfl) gw_n)))), by decide +kernel, by decide⟩
set_option maxRecDepth 100000 in
theorem cX0_109 : CV RX0 109 yX0_plainHeed cX0_plainHeed 5 (some .int) 3 := ⟨gw_c (gw_tb 377 rfl rfl) (gw_c (gw_tb 378 rfl rfl) (gw_c (gw_tb 379 rfl rfl) (gw_c (gw_tb 5 rfl rfl) (gw_c (gw_tb 380 rfl rfl) gw_n)))), by decide +kernel, by decide⟩
set_option maxRecDepth 100000 in
theorem cX0_113 : CV RX0 113 yX0_believersOf cX0_believersOf 5 (some .int) 2 := ⟨gw_c (gw_tb 381 rfl rfl) (gw_c (gw_tb 382 rfl rfl) (gw_c (gw_tb 383 rfl rfl) (gw_c (gw_tb 5 rfl rfl) (gw_c (gw_tb 384 rfl rfl) gw_n)))), by decide +kernel, by decide⟩
set_option maxRecDepth 100000 in
theorem cX0_116 : CS RX0 116 yJ6_bitCount_0f7a4 cJ6_bitCount_0f7a4 1 (some .int) 1 := ⟨gw_c (gw_tb 385 rfl rfl) (gw_c (gw_tb 386 rfl rfl) (gw_c (gw_tb 10 rfl rfl) (gw_c (gw_tb 387 rfl rfl) gw_n))), by decide +kernel, by decide⟩
set_option maxRecDepth 100000 in
theorem cX0_126 : CV RX0 126 yX1_given cX1_given 6 (some .int) 1 := ⟨gw_c (gw_tb 391 rfl rfl) (gw_c (gw_tb 392 rfl rfl) (gw_c (gw_tb 393 rfl rfl) (gw_c (gw_tb 2 rfl rfl) (gw_c (gw_tb 394 rfl rfl) gw_n)))), by decide +kernel, by decide⟩
set_option maxRecDepth 100000 in
theorem cX1_32 : CS RX1 32 yX1_joined cX1_joined 3 (some .int) 3 := ⟨gw_c (gw_tb 395 rfl rfl) (gw_c (gw_tb 396 rfl rfl) (gw_c (gw_tb 2 rfl rfl) (gw_c (gw_tb 397 rfl rfl) gw_n))), by decide +kernel, by decide⟩
set_option maxRecDepth 100000 in
theorem cX0_129 : CN yX6_within cX6_within 3 (some .int) 3 := ⟨gw_c (gw_tb 399 rfl rfl) (gw_c (gw_tb 1 rfl rfl) (gw_c (gw_tb 400 rfl rfl) gw_n)), by decide +kernel, by decide⟩
set_option maxRecDepth 100000 in
theorem mX6_143 : MX RX6 143 Lib.Math.min.name Lib.Math.min.code 2 := ⟨gw_tb 401 rfl rfl, gw_tb 402 rfl rfl, gw_tb 9 rfl rfl, gw_tb 403 rfl rfl⟩
set_option maxRecDepth 100000 in
theorem mX6_294 : MX RX6 294 Lib.Math.max.name Lib.Math.max.code 2 := ⟨gw_tb 404 rfl rfl, gw_tb 405 rfl rfl, gw_tb 9 rfl rfl, gw_tb 406 rfl rfl⟩
set_option maxRecDepth 100000 in
theorem cL_51 : CV RL 51 yX6_sow cX6_sow 4 (some .int) 2 := ⟨gw_c (gw_tb 407 rfl rfl) (gw_c (gw_tb 408 rfl rfl) (gw_c (gw_tb 409 rfl rfl) (gw_c (gw_tb 1 rfl rfl) (gw_c (gw_tb 410 rfl rfl) gw_n)))), by decide +kernel, by decide⟩
set_option maxRecDepth 100000 in
theorem cL_55 : CV RL 55 yX6_field cX6_field 4 (some .int) 2 := ⟨gw_c (gw_tb 411 rfl rfl) (gw_c (gw_tb 412 rfl rfl) (gw_c (gw_tb 413 rfl rfl) (gw_c (gw_tb 1 rfl rfl) (gw_c (gw_tb 414 rfl rfl) gw_n)))), by decide +kernel, by decide⟩
set_option maxRecDepth 100000 in
theorem cX6_131 : CV RX6 131 yX0_firstCrop cX0_firstCrop 6 (some .int) 1 := ⟨gw_c (gw_tb 415 rfl rfl) (gw_c (gw_tb 361 rfl rfl) (gw_c (gw_tb 362 rfl rfl) (gw_c (gw_tb 5 rfl rfl) (gw_c (gw_tb 363 rfl rfl) gw_n)))), by decide +kernel, by decide⟩
set_option maxRecDepth 100000 in
theorem cX6_137 : CV RX6 137 yX0_votesFor cX0_votesFor 5 (some .int) 2 := ⟨gw_c (gw_tb 416 rfl rfl) (gw_c (gw_tb 365 rfl rfl) (gw_c (gw_tb 366 rfl rfl) (gw_c (gw_tb 5 rfl rfl) (gw_c (gw_tb 367 rfl rfl) gw_n)))), by decide +kernel, by decide⟩
set_option maxRecDepth 100000 in
theorem cX6_140 : CV RX6 140 yX0_believersOf cX0_believersOf 5 (some .int) 2 := ⟨gw_c (gw_tb 417 rfl rfl) (gw_c (gw_tb 382 rfl rfl) (gw_c (gw_tb 383 rfl rfl) (gw_c (gw_tb 5 rfl rfl) (gw_c (gw_tb 384 rfl rfl) gw_n)))), by decide +kernel, by decide⟩
set_option maxRecDepth 100000 in
theorem cL_59 : CV RL 59 yX6_votes cX6_votes 3 (some .int) 2 := ⟨gw_c (gw_tb 418 rfl rfl) (gw_c (gw_tb 419 rfl rfl) (gw_c (gw_tb 420 rfl rfl) (gw_c (gw_tb 1 rfl rfl) (gw_c (gw_tb 421 rfl rfl) gw_n)))), by decide +kernel, by decide⟩
set_option maxRecDepth 100000 in
theorem cL_63 : CV RL 63 yX6_deal cX6_deal 4 (some .int) 1 := ⟨gw_c (gw_tb 422 rfl rfl) (gw_c (gw_tb 423 rfl rfl) (gw_c (gw_tb 424 rfl rfl) (gw_c (gw_tb 1 rfl rfl) (gw_c (gw_tb 425 rfl rfl) gw_n)))), by decide +kernel, by decide⟩
set_option maxRecDepth 100000 in
theorem cX6_148 : CV RX6 148 yX0_settleByLot cX0_settleByLot 4 none 0 := ⟨gw_c (gw_tb 426 rfl rfl) (gw_c (gw_tb 427 rfl rfl) (gw_c (gw_tb 428 rfl rfl) (gw_c (gw_tb 5 rfl rfl) (gw_c (gw_tb 429 rfl rfl) gw_n)))), by decide +kernel, by decide⟩
set_option maxRecDepth 100000 in
theorem cX0_72 : CV RX0 72 yX0_draw cX0_draw 1 (some .int) 0 := ⟨gw_c (gw_tb 430 rfl rfl) (gw_c (gw_tb 431 rfl rfl) (gw_c (gw_tb 432 rfl rfl) (gw_c (gw_tb 5 rfl rfl) (gw_c (gw_tb 433 rfl rfl) gw_n)))), by decide +kernel, by decide⟩
set_option maxRecDepth 100000 in
theorem cX0_76 : CV RX0 76 yX0_settle cX0_settle 5 none 3 := ⟨gw_c (gw_tb 435 rfl rfl) (gw_c (gw_tb 275 rfl rfl) (gw_c (gw_tb 276 rfl rfl) (gw_c (gw_tb 5 rfl rfl) (gw_c (gw_tb 277 rfl rfl) gw_n)))), by decide +kernel, by decide⟩
set_option maxRecDepth 100000 in
theorem cL_68 : CV RL 68 yX6_seed cX6_seed 3 (some .int) 1 := ⟨gw_c (gw_tb 436 rfl rfl) (gw_c (gw_tb 437 rfl rfl) (gw_c (gw_tb 438 rfl rfl) (gw_c (gw_tb 1 rfl rfl) (gw_c (gw_tb 439 rfl rfl) gw_n)))), by decide +kernel, by decide⟩
set_option maxRecDepth 100000 in
theorem cL_72 : CV RL 72 yX6_weeks cX6_weeks 3 (some .int) 1 := ⟨gw_c (gw_tb 440 rfl rfl) (gw_c (gw_tb 441 rfl rfl) (gw_c (gw_tb 442 rfl rfl) (gw_c (gw_tb 1 rfl rfl) (gw_c (gw_tb 443 rfl rfl) gw_n)))), by decide +kernel, by decide⟩
set_option maxRecDepth 100000 in
theorem cX6_160 : CV RX6 160 yX0_pass cX0_pass 4 none 1 := ⟨gw_c (gw_tb 444 rfl rfl) (gw_c (gw_tb 445 rfl rfl) (gw_c (gw_tb 446 rfl rfl) (gw_c (gw_tb 5 rfl rfl) (gw_c (gw_tb 447 rfl rfl) gw_n)))), by decide +kernel, by decide⟩
set_option maxRecDepth 100000 in
theorem cX0_132 : CV RX0 132 yX0_speak cX0_speak 6 none 1 := ⟨gw_c (gw_tb 448 rfl rfl) (gw_c (gw_tb 449 rfl rfl) (gw_c (gw_tb 450 rfl rfl) (gw_c (gw_tb 5 rfl rfl) (gw_c (gw_tb 451 rfl rfl) gw_n)))), by decide +kernel, by decide⟩
set_option maxRecDepth 100000 in
theorem cX0_142 : CV RX0 142 yX0_wordOf cX0_wordOf 4 (some .int) 2 := ⟨gw_c (gw_tb 452 rfl rfl) (gw_c (gw_tb 350 rfl rfl) (gw_c (gw_tb 351 rfl rfl) (gw_c (gw_tb 5 rfl rfl) (gw_c (gw_tb 352 rfl rfl) gw_n)))), by decide +kernel, by decide⟩
set_option maxRecDepth 100000 in
theorem cX0_145 : CV RX0 145 yX0_heedOf cX0_heedOf 4 (some .int) 3 := ⟨gw_c (gw_tb 453 rfl rfl) (gw_c (gw_tb 374 rfl rfl) (gw_c (gw_tb 375 rfl rfl) (gw_c (gw_tb 5 rfl rfl) (gw_c (gw_tb 376 rfl rfl) gw_n)))), by decide +kernel, by decide⟩
set_option maxRecDepth 100000 in
theorem mX0_148 : MX RX0 148 Lib.Math.min.name Lib.Math.min.code 2 := ⟨gw_tb 454 rfl rfl, gw_tb 402 rfl rfl, gw_tb 9 rfl rfl, gw_tb 403 rfl rfl⟩
set_option maxRecDepth 100000 in
theorem mX0_151 : MX RX0 151 Lib.Math.max.name Lib.Math.max.code 2 := ⟨gw_tb 455 rfl rfl, gw_tb 405 rfl rfl, gw_tb 9 rfl rfl, gw_tb 406 rfl rfl⟩
set_option maxRecDepth 100000 in
theorem cX0_136 : CV RX0 136 yX0_lookFromTheRoad cX0_lookFromTheRoad 4 none 0 := ⟨gw_c (gw_tb 456 rfl rfl) (gw_c (gw_tb 457 rfl rfl) (gw_c (gw_tb 458 rfl rfl) (gw_c (gw_tb 5 rfl rfl) (gw_c (gw_tb 459 rfl rfl) gw_n)))), by decide +kernel, by decide⟩
set_option maxRecDepth 100000 in
theorem cX0_139 : CV RX0 139 yX0_grow cX0_grow 3 none 0 := ⟨gw_c (gw_tb 460 rfl rfl) (gw_c (gw_tb 461 rfl rfl) (gw_c (gw_tb 462 rfl rfl) (gw_c (gw_tb 5 rfl rfl) (gw_c (gw_tb 463 rfl rfl) gw_n)))), by decide +kernel, by decide⟩
set_option maxRecDepth 100000 in
theorem cL_76 : CV RL 76 yX6_county cX6_county 2 (some .int) 1 := ⟨gw_c (gw_tb 464 rfl rfl) (gw_c (gw_tb 465 rfl rfl) (gw_c (gw_tb 466 rfl rfl) (gw_c (gw_tb 1 rfl rfl) (gw_c (gw_tb 467 rfl rfl) gw_n)))), by decide +kernel, by decide⟩
set_option maxRecDepth 100000 in
theorem cX6_170 : CV RX6 170 yX0_sureOfAll cX0_sureOfAll 3 (some .int) 0 := ⟨gw_c (gw_tb 468 rfl rfl) (gw_c (gw_tb 469 rfl rfl) (gw_c (gw_tb 470 rfl rfl) (gw_c (gw_tb 5 rfl rfl) (gw_c (gw_tb 471 rfl rfl) gw_n)))), by decide +kernel, by decide⟩
set_option maxRecDepth 100000 in
theorem cX6_174 : CV RX6 174 yX0_agreed cX0_agreed 7 (some .int) 0 := ⟨gw_c (gw_tb 472 rfl rfl) (gw_c (gw_tb 473 rfl rfl) (gw_c (gw_tb 474 rfl rfl) (gw_c (gw_tb 5 rfl rfl) (gw_c (gw_tb 475 rfl rfl) gw_n)))), by decide +kernel, by decide⟩
set_option maxRecDepth 100000 in
theorem cL_80 : CV RL 80 yX6_behind cX6_behind 3 (some .int) 2 := ⟨gw_c (gw_tb 476 rfl rfl) (gw_c (gw_tb 477 rfl rfl) (gw_c (gw_tb 478 rfl rfl) (gw_c (gw_tb 1 rfl rfl) (gw_c (gw_tb 479 rfl rfl) gw_n)))), by decide +kernel, by decide⟩
set_option maxRecDepth 100000 in
theorem cX6_177 : CV RX6 177 yX0_takeOver cX0_takeOver 2 none 1 := ⟨gw_c (gw_tb 480 rfl rfl) (gw_c (gw_tb 481 rfl rfl) (gw_c (gw_tb 482 rfl rfl) (gw_c (gw_tb 5 rfl rfl) (gw_c (gw_tb 483 rfl rfl) gw_n)))), by decide +kernel, by decide⟩
set_option maxRecDepth 100000 in
theorem aX0_47 : AX RX0 47 := ⟨gw_tb 484 rfl rfl, gw_tb 486 rfl rfl, gw_tb 485 rfl rfl, gw_tb 11 rfl rfl⟩
set_option maxRecDepth 100000 in
theorem cL_84 : CV RL 84 yX6_first cX6_first 4 (some .int) 2 := ⟨gw_c (gw_tb 487 rfl rfl) (gw_c (gw_tb 488 rfl rfl) (gw_c (gw_tb 489 rfl rfl) (gw_c (gw_tb 1 rfl rfl) (gw_c (gw_tb 490 rfl rfl) gw_n)))), by decide +kernel, by decide⟩
set_option maxRecDepth 100000 in
theorem cL_88 : CV RL 88 yX6_ear cX6_ear 9 (some .int) 4 := ⟨gw_c (gw_tb 492 rfl rfl) (gw_c (gw_tb 493 rfl rfl) (gw_c (gw_tb 494 rfl rfl) (gw_c (gw_tb 1 rfl rfl) (gw_c (gw_tb 495 rfl rfl) gw_n)))), by decide +kernel, by decide⟩
set_option maxRecDepth 100000 in
theorem cX6_182 : CV RX6 182 yX6_tryTelling cX6_tryTelling 5 none 3 := ⟨gw_c (gw_tb 496 rfl rfl) (gw_c (gw_tb 498 rfl rfl) (gw_c (gw_pv 1 rfl rfl) (gw_c (gw_tb 1 rfl rfl) (gw_c (gw_tb 499 rfl rfl) gw_n)))), by decide +kernel, by decide⟩
set_option maxRecDepth 100000 in
theorem cL_93 : CV RL 93 yX6_fewest cX6_fewest 7 (some .int) 3 := ⟨gw_c (gw_tb 500 rfl rfl) (gw_c (gw_tb 501 rfl rfl) (gw_c (gw_tb 502 rfl rfl) (gw_c (gw_tb 1 rfl rfl) (gw_c (gw_tb 503 rfl rfl) gw_n)))), by decide +kernel, by decide⟩
set_option maxRecDepth 100000 in
theorem cX6_185 : CS RX6 185 yJ6_bitCount_0f7a4 cJ6_bitCount_0f7a4 1 (some .int) 1 := ⟨gw_c (gw_tb 504 rfl rfl) (gw_c (gw_tb 386 rfl rfl) (gw_c (gw_tb 10 rfl rfl) (gw_c (gw_tb 387 rfl rfl) gw_n))), by decide +kernel, by decide⟩
set_option maxRecDepth 100000 in
theorem cL_97 : CV RL 97 yX6_house cX6_house 7 (some .int) 3 := ⟨gw_c (gw_tb 505 rfl rfl) (gw_c (gw_tb 506 rfl rfl) (gw_c (gw_tb 507 rfl rfl) (gw_c (gw_tb 1 rfl rfl) (gw_c (gw_tb 508 rfl rfl) gw_n)))), by decide +kernel, by decide⟩
set_option maxRecDepth 100000 in
theorem cL_101 : CV RL 101 yX6_becomes cX6_becomes 7 (some .int) 3 := ⟨gw_c (gw_tb 509 rfl rfl) (gw_c (gw_tb 510 rfl rfl) (gw_c (gw_tb 511 rfl rfl) (gw_c (gw_tb 1 rfl rfl) (gw_c (gw_tb 512 rfl rfl) gw_n)))), by decide +kernel, by decide⟩
set_option maxRecDepth 100000 in
theorem cL_105 : CV RL 105 yX6_like cX6_like 6 (some .int) 2 := ⟨gw_c (gw_tb 513 rfl rfl) (gw_c (gw_tb 514 rfl rfl) (gw_c (gw_tb 515 rfl rfl) (gw_c (gw_tb 1 rfl rfl) (gw_c (gw_tb 516 rfl rfl) gw_n)))), by decide +kernel, by decide⟩
set_option maxRecDepth 100000 in
theorem cX6_190 : CS RX6 190 yX6_noSheet cX6_noSheet 1 (some .boolean) 1 := ⟨gw_c (gw_tb 517 rfl rfl) (gw_c (gw_tb 518 rfl rfl) (gw_c (gw_tb 1 rfl rfl) (gw_c (gw_tb 519 rfl rfl) gw_n))), by decide +kernel, by decide⟩
set_option maxRecDepth 100000 in
theorem cX6_200 : CV RX6 200 yX3_hasNumber cX3_hasNumber 2 (some .boolean) 1 := ⟨gw_c (gw_tb 521 rfl rfl) (gw_c (gw_tb 522 rfl rfl) (gw_c (gw_tb 523 rfl rfl) (gw_c (gw_tb 6 rfl rfl) (gw_c (gw_tb 524 rfl rfl) gw_n)))), by decide +kernel, by decide⟩
set_option maxRecDepth 100000 in
theorem cX6_206 : CV RX6 206 yX6_addDifferences cX6_addDifferences 3 none 1 := ⟨gw_c (gw_tb 526 rfl rfl) (gw_c (gw_tb 528 rfl rfl) (gw_c (gw_pv 2 rfl rfl) (gw_c (gw_tb 1 rfl rfl) (gw_c (gw_tb 529 rfl rfl) gw_n)))), by decide +kernel, by decide⟩
set_option maxRecDepth 100000 in
theorem mX6_300 : MX RX6 300 Lib.Math.abs.name Lib.Math.abs.code 1 := ⟨gw_tb 530 rfl rfl, gw_tb 309 rfl rfl, gw_tb 9 rfl rfl, gw_tb 310 rfl rfl⟩
set_option maxRecDepth 100000 in
theorem cL_109 : CV RL 109 yX6_fee cX6_fee 2 (some .int) 0 := ⟨gw_c (gw_tb 531 rfl rfl) (gw_c (gw_tb 532 rfl rfl) (gw_c (gw_tb 533 rfl rfl) (gw_c (gw_tb 1 rfl rfl) (gw_c (gw_tb 534 rfl rfl) gw_n)))), by decide +kernel, by decide⟩
set_option maxRecDepth 100000 in
theorem cX6_215 : CV RX6 215 yX1_given cX1_given 6 (some .int) 1 := ⟨gw_c (gw_tb 535 rfl rfl) (gw_c (gw_tb 392 rfl rfl) (gw_c (gw_tb 393 rfl rfl) (gw_c (gw_tb 2 rfl rfl) (gw_c (gw_tb 394 rfl rfl) gw_n)))), by decide +kernel, by decide⟩
set_option maxRecDepth 100000 in
theorem cL_114 : CV RL 114 yX6_fine cX6_fine 3 (some .int) 1 := ⟨gw_c (gw_tb 536 rfl rfl) (gw_c (gw_tb 537 rfl rfl) (gw_c (gw_tb 538 rfl rfl) (gw_c (gw_tb 1 rfl rfl) (gw_c (gw_tb 539 rfl rfl) gw_n)))), by decide +kernel, by decide⟩
set_option maxRecDepth 100000 in
theorem cL_118 : CV RL 118 yX6_feed cX6_feed 4 (some .int) 3 := ⟨gw_c (gw_tb 540 rfl rfl) (gw_c (gw_tb 541 rfl rfl) (gw_c (gw_tb 542 rfl rfl) (gw_c (gw_tb 1 rfl rfl) (gw_c (gw_tb 543 rfl rfl) gw_n)))), by decide +kernel, by decide⟩
set_option maxRecDepth 100000 in
theorem cX6_221 : CV RX6 221 yX2_take cX2_take 3 none 1 := ⟨gw_c (gw_tb 544 rfl rfl) (gw_c (gw_tb 545 rfl rfl) (gw_c (gw_tb 546 rfl rfl) (gw_c (gw_tb 4 rfl rfl) (gw_c (gw_tb 547 rfl rfl) gw_n)))), by decide +kernel, by decide⟩
set_option maxRecDepth 100000 in
theorem cL_122 : CV RL 122 yX6_trim cX6_trim 2 (some .int) 1 := ⟨gw_c (gw_tb 548 rfl rfl) (gw_c (gw_tb 549 rfl rfl) (gw_c (gw_tb 550 rfl rfl) (gw_c (gw_tb 1 rfl rfl) (gw_c (gw_tb 551 rfl rfl) gw_n)))), by decide +kernel, by decide⟩
set_option maxRecDepth 100000 in
theorem cL_126 : CV RL 126 yX6_text cX6_text 3 (some .int) 0 := ⟨gw_c (gw_tb 552 rfl rfl) (gw_c (gw_tb 553 rfl rfl) (gw_c (gw_tb 554 rfl rfl) (gw_c (gw_tb 1 rfl rfl) (gw_c (gw_tb 555 rfl rfl) gw_n)))), by decide +kernel, by decide⟩
set_option maxRecDepth 100000 in
theorem cX6_224 : CV RX6 224 yX2_faultOnTape cX2_faultOnTape 5 (some .int) 0 := ⟨gw_c (gw_tb 556 rfl rfl) (gw_c (gw_tb 557 rfl rfl) (gw_c (gw_tb 558 rfl rfl) (gw_c (gw_tb 4 rfl rfl) (gw_c (gw_tb 559 rfl rfl) gw_n)))), by decide +kernel, by decide⟩
set_option maxRecDepth 100000 in
theorem cX2_45 : CV RX2 45 yX2_next cX2_next 2 none 0 := ⟨gw_c (gw_tb 560 rfl rfl) (gw_c (gw_tb 562 rfl rfl) (gw_c (gw_pv 3 rfl rfl) (gw_c (gw_tb 4 rfl rfl) (gw_c (gw_tb 563 rfl rfl) gw_n)))), by decide +kernel, by decide⟩
set_option maxRecDepth 100000 in
theorem cX2_80 : CS RX2 80 yX2_isLetter cX2_isLetter 1 (some .boolean) 1 := ⟨gw_c (gw_tb 564 rfl rfl) (gw_c (gw_tb 565 rfl rfl) (gw_c (gw_tb 4 rfl rfl) (gw_c (gw_tb 566 rfl rfl) gw_n))), by decide +kernel, by decide⟩
set_option maxRecDepth 100000 in
theorem cX2_84 : CS RX2 84 yX2_isDigit cX2_isDigit 1 (some .boolean) 1 := ⟨gw_c (gw_tb 567 rfl rfl) (gw_c (gw_tb 568 rfl rfl) (gw_c (gw_tb 4 rfl rfl) (gw_c (gw_tb 569 rfl rfl) gw_n))), by decide +kernel, by decide⟩
set_option maxRecDepth 100000 in
theorem cX2_48 : CV RX2 48 yX2_keyRead cX2_keyRead 1 (some .int) 0 := ⟨gw_c (gw_tb 570 rfl rfl) (gw_c (gw_tb 572 rfl rfl) (gw_c (gw_pv 4 rfl rfl) (gw_c (gw_tb 4 rfl rfl) (gw_c (gw_tb 573 rfl rfl) gw_n)))), by decide +kernel, by decide⟩
set_option maxRecDepth 100000 in
theorem cX2_89 : CV RX2 89 yX2_isWord cX2_isWord 3 (some .boolean) 1 := ⟨gw_c (gw_tb 575 rfl rfl) (gw_c (gw_tb 577 rfl rfl) (gw_c (gw_pv 5 rfl rfl) (gw_c (gw_tb 4 rfl rfl) (gw_c (gw_tb 578 rfl rfl) gw_n)))), by decide +kernel, by decide⟩
set_option maxRecDepth 100000 in
theorem cX2_97 : CV RX2 97 yJ0_length_8abf5 cJ0_length_8abf5 1 (some .int) 0 := ⟨gw_c (gw_tb 579 rfl rfl) (gw_c (gw_tb 580 rfl rfl) (gw_c (gw_tb 581 rfl rfl) (gw_c (gw_tb 12 rfl rfl) (gw_c (gw_tb 582 rfl rfl) gw_n)))), by decide +kernel, by decide⟩
set_option maxRecDepth 100000 in
theorem cJ0_335 : CV RJ0 335 yJ0_coder_7d493 cJ0_coder_7d493 1 (some .byte) 0 := ⟨gw_c (gw_tb 583 rfl rfl) (gw_c (gw_tb 584 rfl rfl) (gw_c (gw_tb 585 rfl rfl) (gw_c (gw_tb 12 rfl rfl) (gw_c (gw_tb 586 rfl rfl) gw_n)))), by decide +kernel, by decide⟩
set_option maxRecDepth 100000 in
theorem cX2_102 : CV RX2 102 yJ0_charAt_5068e cJ0_charAt_5068e 2 (some .char) 1 := ⟨gw_c (gw_tb 589 rfl rfl) (gw_c (gw_tb 590 rfl rfl) (gw_c (gw_tb 591 rfl rfl) (gw_c (gw_tb 12 rfl rfl) (gw_c (gw_tb 592 rfl rfl) gw_n)))), by decide +kernel, by decide⟩
set_option maxRecDepth 100000 in
theorem cJ0_492 : CV RJ0 492 yJ0_isLatin1_aae02 cJ0_isLatin1_aae02 1 (some .boolean) 0 := ⟨gw_c (gw_tb 593 rfl rfl) (gw_c (gw_tb 594 rfl rfl) (gw_c (gw_tb 595 rfl rfl) (gw_c (gw_tb 12 rfl rfl) (gw_c (gw_tb 596 rfl rfl) gw_n)))), by decide +kernel, by decide⟩
set_option maxRecDepth 100000 in
theorem cJ0_495 : CS RJ0 495 yJ1_charAt_3b067 cJ1_charAt_3b067 2 (some .char) 2 := ⟨gw_c (gw_tb 597 rfl rfl) (gw_c (gw_tb 598 rfl rfl) (gw_c (gw_tb 13 rfl rfl) (gw_c (gw_tb 599 rfl rfl) gw_n))), by decide +kernel, by decide⟩
set_option maxRecDepth 100000 in
theorem cJ1_9 : CS RJ1 9 yJ0_checkIndex_df160 cJ0_checkIndex_df160 2 none 2 := ⟨gw_c (gw_tb 600 rfl rfl) (gw_c (gw_tb 601 rfl rfl) (gw_c (gw_tb 12 rfl rfl) (gw_c (gw_tb 602 rfl rfl) gw_n))), by decide +kernel, by decide⟩
set_option maxRecDepth 100000 in
theorem cJ0_1059 : CS RJ0 1059 yJ3_checkIndex_8e157 cJ3_checkIndex_8e157 3 (some .int) 3 := ⟨gw_c (gw_tb 605 rfl rfl) (gw_c (gw_tb 606 rfl rfl) (gw_c (gw_tb 14 rfl rfl) (gw_c (gw_tb 607 rfl rfl) gw_n))), by decide +kernel, by decide⟩
set_option maxRecDepth 100000 in
theorem cJ0_498 : CS RJ0 498 yJ2_charAt_3b067 cJ2_charAt_3b067 2 (some .char) 2 := ⟨gw_c (gw_tb 608 rfl rfl) (gw_c (gw_tb 609 rfl rfl) (gw_c (gw_tb 15 rfl rfl) (gw_c (gw_tb 610 rfl rfl) gw_n))), by decide +kernel, by decide⟩
set_option maxRecDepth 100000 in
theorem cJ2_67 : CS RJ2 67 yJ2_checkIndex_2214a cJ2_checkIndex_2214a 2 none 2 := ⟨gw_c (gw_tb 611 rfl rfl) (gw_c (gw_tb 612 rfl rfl) (gw_c (gw_tb 15 rfl rfl) (gw_c (gw_tb 613 rfl rfl) gw_n))), by decide +kernel, by decide⟩
set_option maxRecDepth 100000 in
theorem cJ2_48 : CS RJ2 48 yJ2_length_9d52b cJ2_length_9d52b 1 (some .int) 1 := ⟨gw_c (gw_tb 614 rfl rfl) (gw_c (gw_tb 615 rfl rfl) (gw_c (gw_tb 15 rfl rfl) (gw_c (gw_tb 616 rfl rfl) gw_n))), by decide +kernel, by decide⟩
set_option maxRecDepth 100000 in
theorem cJ2_414 : CS RJ2 414 yJ0_checkIndex_df160 cJ0_checkIndex_df160 2 none 2 := ⟨gw_c (gw_tb 617 rfl rfl) (gw_c (gw_tb 601 rfl rfl) (gw_c (gw_tb 12 rfl rfl) (gw_c (gw_tb 602 rfl rfl) gw_n))), by decide +kernel, by decide⟩
set_option maxRecDepth 100000 in
theorem cJ2_71 : CS RJ2 71 yJ2_getChar_3b067 cJ2_getChar_3b067 2 (some .char) 2 := ⟨gw_c (gw_tb 618 rfl rfl) (gw_c (gw_tb 619 rfl rfl) (gw_c (gw_tb 15 rfl rfl) (gw_c (gw_tb 620 rfl rfl) gw_n))), by decide +kernel, by decide⟩
set_option maxRecDepth 100000 in
theorem cX2_55 : CV RX2 55 yX5_begin cX5_begin 2 none 1 := ⟨gw_c (gw_tb 629 rfl rfl) (gw_c (gw_tb 630 rfl rfl) (gw_c (gw_tb 631 rfl rfl) (gw_c (gw_tb 3 rfl rfl) (gw_c (gw_tb 632 rfl rfl) gw_n)))), by decide +kernel, by decide⟩
set_option maxRecDepth 100000 in
theorem cX2_62 : CV RX2 62 yX2_finished cX2_finished 2 (some .boolean) 1 := ⟨gw_c (gw_tb 633 rfl rfl) (gw_c (gw_tb 635 rfl rfl) (gw_c (gw_pv 6 rfl rfl) (gw_c (gw_tb 4 rfl rfl) (gw_c (gw_tb 636 rfl rfl) gw_n)))), by decide +kernel, by decide⟩
set_option maxRecDepth 100000 in
theorem cX2_77 : CV RX2 77 yX2_drop cX2_drop 2 none 1 := ⟨gw_c (gw_tb 637 rfl rfl) (gw_c (gw_tb 639 rfl rfl) (gw_c (gw_pv 7 rfl rfl) (gw_c (gw_tb 4 rfl rfl) (gw_c (gw_tb 640 rfl rfl) gw_n)))), by decide +kernel, by decide⟩
set_option maxRecDepth 100000 in
theorem cX2_140 : CV RX2 140 yX2_topLevel cX2_topLevel 1 (some .int) 0 := ⟨gw_c (gw_tb 641 rfl rfl) (gw_c (gw_tb 643 rfl rfl) (gw_c (gw_pv 8 rfl rfl) (gw_c (gw_tb 4 rfl rfl) (gw_c (gw_tb 644 rfl rfl) gw_n)))), by decide +kernel, by decide⟩
set_option maxRecDepth 100000 in
theorem cX2_73 : CS RX2 73 yX2_levelOf cX2_levelOf 1 (some .int) 1 := ⟨gw_c (gw_tb 645 rfl rfl) (gw_c (gw_tb 646 rfl rfl) (gw_c (gw_tb 4 rfl rfl) (gw_c (gw_tb 647 rfl rfl) gw_n))), by decide +kernel, by decide⟩
set_option maxRecDepth 100000 in
theorem cX2_143 : CV RX2 143 yX5_add cX5_add 2 none 1 := ⟨gw_c (gw_tb 648 rfl rfl) (gw_c (gw_tb 649 rfl rfl) (gw_c (gw_tb 650 rfl rfl) (gw_c (gw_tb 3 rfl rfl) (gw_c (gw_tb 651 rfl rfl) gw_n)))), by decide +kernel, by decide⟩
set_option maxRecDepth 100000 in
theorem cX2_66 : CV RX2 66 yX2_takesPiece cX2_takesPiece 1 (some .boolean) 0 := ⟨gw_c (gw_tb 652 rfl rfl) (gw_c (gw_tb 654 rfl rfl) (gw_c (gw_pv 9 rfl rfl) (gw_c (gw_tb 4 rfl rfl) (gw_c (gw_tb 655 rfl rfl) gw_n)))), by decide +kernel, by decide⟩
set_option maxRecDepth 100000 in
theorem cX2_106 : CV RX2 106 yX2_takesNumber cX2_takesNumber 3 (some .boolean) 0 := ⟨gw_c (gw_tb 656 rfl rfl) (gw_c (gw_tb 658 rfl rfl) (gw_c (gw_pv 10 rfl rfl) (gw_c (gw_tb 4 rfl rfl) (gw_c (gw_tb 659 rfl rfl) gw_n)))), by decide +kernel, by decide⟩
set_option maxRecDepth 100000 in
theorem cX2_115 : CV RX2 115 yX5_addLeaf cX5_addLeaf 2 none 1 := ⟨gw_c (gw_tb 660 rfl rfl) (gw_c (gw_tb 661 rfl rfl) (gw_c (gw_tb 662 rfl rfl) (gw_c (gw_tb 3 rfl rfl) (gw_c (gw_tb 663 rfl rfl) gw_n)))), by decide +kernel, by decide⟩
set_option maxRecDepth 100000 in
theorem cX5_31 : CV RX5 31 yX5_add cX5_add 2 none 1 := ⟨gw_c (gw_tb 664 rfl rfl) (gw_c (gw_tb 649 rfl rfl) (gw_c (gw_tb 650 rfl rfl) (gw_c (gw_tb 3 rfl rfl) (gw_c (gw_tb 651 rfl rfl) gw_n)))), by decide +kernel, by decide⟩
set_option maxRecDepth 100000 in
theorem cX2_118 : CV RX2 118 yX2_dropNots cX2_dropNots 1 none 0 := ⟨gw_c (gw_tb 665 rfl rfl) (gw_c (gw_tb 667 rfl rfl) (gw_c (gw_pv 11 rfl rfl) (gw_c (gw_tb 4 rfl rfl) (gw_c (gw_tb 668 rfl rfl) gw_n)))), by decide +kernel, by decide⟩
set_option maxRecDepth 100000 in
theorem cX2_109 : CV RX2 109 yX2_takesName cX2_takesName 2 (some .boolean) 0 := ⟨gw_c (gw_tb 669 rfl rfl) (gw_c (gw_tb 671 rfl rfl) (gw_c (gw_pv 12 rfl rfl) (gw_c (gw_tb 4 rfl rfl) (gw_c (gw_tb 672 rfl rfl) gw_n)))), by decide +kernel, by decide⟩
set_option maxRecDepth 100000 in
theorem cX2_124 : CS RX2 124 yX2_namesOf cX2_namesOf 1 (some (.object "java/lang/String")) 1 := ⟨gw_c (gw_tb 673 rfl rfl) (gw_c (gw_tb 674 rfl rfl) (gw_c (gw_tb 4 rfl rfl) (gw_c (gw_tb 675 rfl rfl) gw_n))), by decide +kernel, by decide⟩
set_option maxRecDepth 100000 in
theorem cX2_128 : CV RX2 128 yJ0_indexOf_0f7a4 cJ0_indexOf_0f7a4 2 (some .int) 1 := ⟨gw_c (gw_tb 679 rfl rfl) (gw_c (gw_tb 680 rfl rfl) (gw_c (gw_tb 681 rfl rfl) (gw_c (gw_tb 12 rfl rfl) (gw_c (gw_tb 682 rfl rfl) gw_n)))), by decide +kernel, by decide⟩
set_option maxRecDepth 100000 in
theorem cJ0_633 : CV RJ0 633 yJ0_indexOf_7cf53 cJ0_indexOf_7cf53 3 (some .int) 2 := ⟨gw_c (gw_tb 683 rfl rfl) (gw_c (gw_tb 684 rfl rfl) (gw_c (gw_tb 685 rfl rfl) (gw_c (gw_tb 12 rfl rfl) (gw_c (gw_tb 686 rfl rfl) gw_n)))), by decide +kernel, by decide⟩
set_option maxRecDepth 100000 in
theorem cJ0_505 : CV RJ0 505 yJ0_length_8abf5 cJ0_length_8abf5 1 (some .int) 0 := ⟨gw_c (gw_tb 687 rfl rfl) (gw_c (gw_tb 580 rfl rfl) (gw_c (gw_tb 581 rfl rfl) (gw_c (gw_tb 12 rfl rfl) (gw_c (gw_tb 582 rfl rfl) gw_n)))), by decide +kernel, by decide⟩
set_option maxRecDepth 100000 in
theorem cJ0_637 : CS RJ0 637 yJ1_indexOf_4cfef cJ1_indexOf_4cfef 4 (some .int) 4 := ⟨gw_c (gw_tb 688 rfl rfl) (gw_c (gw_tb 689 rfl rfl) (gw_c (gw_tb 13 rfl rfl) (gw_c (gw_tb 690 rfl rfl) gw_n))), by decide +kernel, by decide⟩
set_option maxRecDepth 100000 in
theorem cJ1_88 : CS RJ1 88 yJ1_canEncode_9a6ad cJ1_canEncode_9a6ad 1 (some .boolean) 1 := ⟨gw_c (gw_tb 691 rfl rfl) (gw_c (gw_tb 692 rfl rfl) (gw_c (gw_tb 13 rfl rfl) (gw_c (gw_tb 693 rfl rfl) gw_n))), by decide +kernel, by decide⟩
set_option maxRecDepth 100000 in
theorem mJ1_92 : MX RJ1 92 Lib.Math.max.name Lib.Math.max.code 2 := ⟨gw_tb 694 rfl rfl, gw_tb 405 rfl rfl, gw_tb 9 rfl rfl, gw_tb 406 rfl rfl⟩
set_option maxRecDepth 100000 in
theorem mJ1_38 : MX RJ1 38 Lib.Math.min.name Lib.Math.min.code 2 := ⟨gw_tb 695 rfl rfl, gw_tb 402 rfl rfl, gw_tb 9 rfl rfl, gw_tb 403 rfl rfl⟩
set_option maxRecDepth 100000 in
theorem cJ1_95 : CS RJ1 95 yJ1_indexOfChar_4cfef cJ1_indexOfChar_4cfef 6 (some .int) 4 := ⟨gw_c (gw_tb 696 rfl rfl) (gw_c (gw_tb 697 rfl rfl) (gw_c (gw_tb 13 rfl rfl) (gw_c (gw_tb 698 rfl rfl) gw_n))), by decide +kernel, by decide⟩
set_option maxRecDepth 100000 in
theorem cJ0_640 : CS RJ0 640 yJ2_indexOf_4cfef cJ2_indexOf_4cfef 4 (some .int) 4 := ⟨gw_c (gw_tb 699 rfl rfl) (gw_c (gw_tb 700 rfl rfl) (gw_c (gw_tb 15 rfl rfl) (gw_c (gw_tb 701 rfl rfl) gw_n))), by decide +kernel, by decide⟩
set_option maxRecDepth 100000 in
theorem mJ2_224 : MX RJ2 224 Lib.Math.max.name Lib.Math.max.code 2 := ⟨gw_tb 702 rfl rfl, gw_tb 405 rfl rfl, gw_tb 9 rfl rfl, gw_tb 406 rfl rfl⟩
set_option maxRecDepth 100000 in
theorem mJ2_183 : MX RJ2 183 Lib.Math.min.name Lib.Math.min.code 2 := ⟨gw_tb 703 rfl rfl, gw_tb 402 rfl rfl, gw_tb 9 rfl rfl, gw_tb 403 rfl rfl⟩
set_option maxRecDepth 100000 in
theorem cJ2_228 : CS RJ2 228 yJ2_indexOfChar_4cfef cJ2_indexOfChar_4cfef 4 (some .int) 4 := ⟨gw_c (gw_tb 705 rfl rfl) (gw_c (gw_tb 706 rfl rfl) (gw_c (gw_tb 15 rfl rfl) (gw_c (gw_tb 707 rfl rfl) gw_n))), by decide +kernel, by decide⟩
set_option maxRecDepth 100000 in
theorem cJ2_96 : CS RJ2 96 yJ2_checkBoundsBeginEnd_d044e cJ2_checkBoundsBeginEnd_d044e 3 none 3 := ⟨gw_c (gw_tb 708 rfl rfl) (gw_c (gw_tb 709 rfl rfl) (gw_c (gw_tb 15 rfl rfl) (gw_c (gw_tb 710 rfl rfl) gw_n))), by decide +kernel, by decide⟩
set_option maxRecDepth 100000 in
theorem cJ2_241 : CS RJ2 241 yJ0_checkBoundsBeginEnd_23922 cJ0_checkBoundsBeginEnd_23922 3 none 3 := ⟨gw_c (gw_tb 711 rfl rfl) (gw_c (gw_tb 712 rfl rfl) (gw_c (gw_tb 12 rfl rfl) (gw_c (gw_tb 713 rfl rfl) gw_n))), by decide +kernel, by decide⟩
set_option maxRecDepth 100000 in
theorem cJ0_1062 : CS RJ0 1062 yJ3_checkFromToIndex_8c36e cJ3_checkFromToIndex_8c36e 4 (some .int) 4 := ⟨gw_c (gw_tb 714 rfl rfl) (gw_c (gw_tb 715 rfl rfl) (gw_c (gw_tb 14 rfl rfl) (gw_c (gw_tb 716 rfl rfl) gw_n))), by decide +kernel, by decide⟩
set_option maxRecDepth 100000 in
theorem cJ2_244 : CS RJ2 244 yJ2_indexOfCharUnsafe_4cfef cJ2_indexOfCharUnsafe_4cfef 5 (some .int) 4 := ⟨gw_c (gw_tb 717 rfl rfl) (gw_c (gw_tb 718 rfl rfl) (gw_c (gw_tb 15 rfl rfl) (gw_c (gw_tb 719 rfl rfl) gw_n))), by decide +kernel, by decide⟩
set_option maxRecDepth 100000 in
theorem cJ2_232 : CS RJ2 232 yJ2_indexOfSupplementary_4cfef cJ2_indexOfSupplementary_4cfef 7 (some .int) 4 := ⟨gw_c (gw_tb 720 rfl rfl) (gw_c (gw_tb 721 rfl rfl) (gw_c (gw_tb 15 rfl rfl) (gw_c (gw_tb 722 rfl rfl) gw_n))), by decide +kernel, by decide⟩
set_option maxRecDepth 100000 in
theorem cJ2_164 : CS RJ2 164 yJ11_isValidCodePoint_9a6ad cJ11_isValidCodePoint_9a6ad 2 (some .boolean) 1 := ⟨gw_c (gw_tb 723 rfl rfl) (gw_c (gw_tb 724 rfl rfl) (gw_c (gw_tb 16 rfl rfl) (gw_c (gw_tb 725 rfl rfl) gw_n))), by decide +kernel, by decide⟩
set_option maxRecDepth 100000 in
theorem cJ2_157 : CS RJ2 157 yJ11_highSurrogate_5068e cJ11_highSurrogate_5068e 1 (some .char) 1 := ⟨gw_c (gw_tb 726 rfl rfl) (gw_c (gw_tb 727 rfl rfl) (gw_c (gw_tb 16 rfl rfl) (gw_c (gw_tb 728 rfl rfl) gw_n))), by decide +kernel, by decide⟩
set_option maxRecDepth 100000 in
theorem cJ2_161 : CS RJ2 161 yJ11_lowSurrogate_5068e cJ11_lowSurrogate_5068e 1 (some .char) 1 := ⟨gw_c (gw_tb 730 rfl rfl) (gw_c (gw_tb 731 rfl rfl) (gw_c (gw_tb 16 rfl rfl) (gw_c (gw_tb 732 rfl rfl) gw_n))), by decide +kernel, by decide⟩
set_option maxRecDepth 100000 in
theorem cX2_112 : CV RX2 112 yX2_push cX2_push 2 none 1 := ⟨gw_c (gw_tb 734 rfl rfl) (gw_c (gw_tb 736 rfl rfl) (gw_c (gw_pv 13 rfl rfl) (gw_c (gw_tb 4 rfl rfl) (gw_c (gw_tb 737 rfl rfl) gw_n)))), by decide +kernel, by decide⟩
set_option maxRecDepth 100000 in
theorem cX2_70 : CV RX2 70 yX2_takesSign cX2_takesSign 2 (some .boolean) 0 := ⟨gw_c (gw_tb 738 rfl rfl) (gw_c (gw_tb 740 rfl rfl) (gw_c (gw_pv 14 rfl rfl) (gw_c (gw_tb 4 rfl rfl) (gw_c (gw_tb 741 rfl rfl) gw_n)))), by decide +kernel, by decide⟩
set_option maxRecDepth 100000 in
theorem cX2_137 : CV RX2 137 yX2_closes cX2_closes 1 (some .boolean) 0 := ⟨gw_c (gw_tb 742 rfl rfl) (gw_c (gw_tb 744 rfl rfl) (gw_c (gw_pv 15 rfl rfl) (gw_c (gw_tb 4 rfl rfl) (gw_c (gw_tb 745 rfl rfl) gw_n)))), by decide +kernel, by decide⟩
set_option maxRecDepth 100000 in
theorem cX6_237 : CV RX6 237 yX5_takeOver cX5_takeOver 2 none 1 := ⟨gw_c (gw_tb 746 rfl rfl) (gw_c (gw_tb 747 rfl rfl) (gw_c (gw_tb 748 rfl rfl) (gw_c (gw_tb 3 rfl rfl) (gw_c (gw_tb 749 rfl rfl) gw_n)))), by decide +kernel, by decide⟩
set_option maxRecDepth 100000 in
theorem aX5_25 : AX RX5 25 := ⟨gw_tb 750 rfl rfl, gw_tb 486 rfl rfl, gw_tb 485 rfl rfl, gw_tb 11 rfl rfl⟩
set_option maxRecDepth 100000 in
theorem cL_130 : CV RL 130 yX6_textTold cX6_textTold 3 (some .int) 2 := ⟨gw_c (gw_tb 751 rfl rfl) (gw_c (gw_tb 752 rfl rfl) (gw_c (gw_tb 753 rfl rfl) (gw_c (gw_tb 1 rfl rfl) (gw_c (gw_tb 754 rfl rfl) gw_n)))), by decide +kernel, by decide⟩
set_option maxRecDepth 100000 in
theorem cL_134 : CV RL 134 yX6_why cX6_why 2 (some .int) 1 := ⟨gw_c (gw_tb 755 rfl rfl) (gw_c (gw_tb 756 rfl rfl) (gw_c (gw_tb 757 rfl rfl) (gw_c (gw_tb 1 rfl rfl) (gw_c (gw_tb 758 rfl rfl) gw_n)))), by decide +kernel, by decide⟩
set_option maxRecDepth 100000 in
theorem cL_138 : CV RL 138 yX6_sheet cX6_sheet 4 (some .int) 3 := ⟨gw_c (gw_tb 759 rfl rfl) (gw_c (gw_tb 760 rfl rfl) (gw_c (gw_tb 761 rfl rfl) (gw_c (gw_tb 1 rfl rfl) (gw_c (gw_tb 762 rfl rfl) gw_n)))), by decide +kernel, by decide⟩
set_option maxRecDepth 100000 in
theorem cX6_248 : CV RX6 248 yX3_begin cX3_begin 4 none 2 := ⟨gw_c (gw_tb 763 rfl rfl) (gw_c (gw_tb 764 rfl rfl) (gw_c (gw_tb 765 rfl rfl) (gw_c (gw_tb 6 rfl rfl) (gw_c (gw_tb 766 rfl rfl) gw_n)))), by decide +kernel, by decide⟩
set_option maxRecDepth 100000 in
theorem cL_142 : CV RL 142 yX6_mark cX6_mark 5 (some .int) 3 := ⟨gw_c (gw_tb 768 rfl rfl) (gw_c (gw_tb 769 rfl rfl) (gw_c (gw_tb 770 rfl rfl) (gw_c (gw_tb 1 rfl rfl) (gw_c (gw_tb 771 rfl rfl) gw_n)))), by decide +kernel, by decide⟩
set_option maxRecDepth 100000 in
theorem cL_146 : CV RL 146 yX6_pour cX6_pour 6 (some .int) 1 := ⟨gw_c (gw_tb 775 rfl rfl) (gw_c (gw_tb 776 rfl rfl) (gw_c (gw_tb 777 rfl rfl) (gw_c (gw_tb 1 rfl rfl) (gw_c (gw_tb 778 rfl rfl) gw_n)))), by decide +kernel, by decide⟩
set_option maxRecDepth 100000 in
theorem cX6_256 : CS RX6 256 yX6_within cX6_within 3 (some .int) 3 := ⟨gw_c (gw_tb 779 rfl rfl) (gw_c (gw_tb 399 rfl rfl) (gw_c (gw_tb 1 rfl rfl) (gw_c (gw_tb 400 rfl rfl) gw_n))), by decide +kernel, by decide⟩
set_option maxRecDepth 100000 in
theorem cL_150 : CV RL 150 yX6_reads cX6_reads 4 (some .int) 1 := ⟨gw_c (gw_tb 780 rfl rfl) (gw_c (gw_tb 781 rfl rfl) (gw_c (gw_tb 782 rfl rfl) (gw_c (gw_tb 1 rfl rfl) (gw_c (gw_tb 783 rfl rfl) gw_n)))), by decide +kernel, by decide⟩
set_option maxRecDepth 100000 in
theorem cL_154 : CV RL 154 yX6_copy cX6_copy 8 (some .int) 5 := ⟨gw_c (gw_tb 784 rfl rfl) (gw_c (gw_tb 785 rfl rfl) (gw_c (gw_tb 786 rfl rfl) (gw_c (gw_tb 1 rfl rfl) (gw_c (gw_tb 787 rfl rfl) gw_n)))), by decide +kernel, by decide⟩
set_option maxRecDepth 100000 in
theorem cX6_259 : CV RX6 259 yX3_lacks cX3_lacks 3 (some .boolean) 2 := ⟨gw_c (gw_tb 788 rfl rfl) (gw_c (gw_tb 789 rfl rfl) (gw_c (gw_tb 790 rfl rfl) (gw_c (gw_tb 6 rfl rfl) (gw_c (gw_tb 791 rfl rfl) gw_n)))), by decide +kernel, by decide⟩
set_option maxRecDepth 100000 in
theorem aX6_262 : AX RX6 262 := ⟨gw_tb 792 rfl rfl, gw_tb 486 rfl rfl, gw_tb 485 rfl rfl, gw_tb 11 rfl rfl⟩
set_option maxRecDepth 100000 in
theorem cL_159 : CV RL 159 yX6_lay cX6_lay 6 (some .int) 3 := ⟨gw_c (gw_tb 793 rfl rfl) (gw_c (gw_tb 794 rfl rfl) (gw_c (gw_tb 795 rfl rfl) (gw_c (gw_tb 1 rfl rfl) (gw_c (gw_tb 796 rfl rfl) gw_n)))), by decide +kernel, by decide⟩
set_option maxRecDepth 100000 in
theorem cX6_268 : CS RX6 268 yX6_noSlot cX6_noSlot 1 (some .boolean) 1 := ⟨gw_c (gw_tb 797 rfl rfl) (gw_c (gw_tb 798 rfl rfl) (gw_c (gw_tb 1 rfl rfl) (gw_c (gw_tb 799 rfl rfl) gw_n))), by decide +kernel, by decide⟩
set_option maxRecDepth 100000 in
theorem cX6_280 : CV RX6 280 yX3_takeOver cX3_takeOver 2 none 1 := ⟨gw_c (gw_tb 800 rfl rfl) (gw_c (gw_tb 801 rfl rfl) (gw_c (gw_tb 802 rfl rfl) (gw_c (gw_tb 6 rfl rfl) (gw_c (gw_tb 803 rfl rfl) gw_n)))), by decide +kernel, by decide⟩
set_option maxRecDepth 100000 in
theorem aX3_22 : AX RX3 22 := ⟨gw_tb 804 rfl rfl, gw_tb 486 rfl rfl, gw_tb 485 rfl rfl, gw_tb 11 rfl rfl⟩
set_option maxRecDepth 100000 in
theorem cL_163 : CV RL 163 yX6_ask cX6_ask 4 (some .int) 2 := ⟨gw_c (gw_tb 805 rfl rfl) (gw_c (gw_tb 806 rfl rfl) (gw_c (gw_tb 807 rfl rfl) (gw_c (gw_tb 1 rfl rfl) (gw_c (gw_tb 808 rfl rfl) gw_n)))), by decide +kernel, by decide⟩
set_option maxRecDepth 100000 in
theorem cL_167 : CV RL 167 yX6_item cX6_item 4 (some .int) 2 := ⟨gw_c (gw_tb 809 rfl rfl) (gw_c (gw_tb 810 rfl rfl) (gw_c (gw_tb 811 rfl rfl) (gw_c (gw_tb 1 rfl rfl) (gw_c (gw_tb 812 rfl rfl) gw_n)))), by decide +kernel, by decide⟩
set_option maxRecDepth 100000 in
theorem cL_171 : CV RL 171 yX6_rest cX6_rest 4 (some .int) 2 := ⟨gw_c (gw_tb 813 rfl rfl) (gw_c (gw_tb 814 rfl rfl) (gw_c (gw_tb 815 rfl rfl) (gw_c (gw_tb 1 rfl rfl) (gw_c (gw_tb 816 rfl rfl) gw_n)))), by decide +kernel, by decide⟩
set_option maxRecDepth 100000 in
theorem cL_175 : CV RL 175 yX6_tell cX6_tell 2 (some .int) 1 := ⟨gw_c (gw_tb 818 rfl rfl) (gw_c (gw_tb 819 rfl rfl) (gw_c (gw_tb 820 rfl rfl) (gw_c (gw_tb 1 rfl rfl) (gw_c (gw_tb 821 rfl rfl) gw_n)))), by decide +kernel, by decide⟩
set_option maxRecDepth 100000 in
theorem cL_179 : CV RL 179 yX6_check cX6_check 6 (some .int) 1 := ⟨gw_c (gw_tb 822 rfl rfl) (gw_c (gw_tb 823 rfl rfl) (gw_c (gw_tb 824 rfl rfl) (gw_c (gw_tb 1 rfl rfl) (gw_c (gw_tb 825 rfl rfl) gw_n)))), by decide +kernel, by decide⟩
set_option maxRecDepth 100000 in
theorem cL_183 : CV RL 183 yX6_keep cX6_keep 1 (some .int) 0 := ⟨gw_c (gw_tb 826 rfl rfl) (gw_c (gw_tb 827 rfl rfl) (gw_c (gw_tb 828 rfl rfl) (gw_c (gw_tb 1 rfl rfl) (gw_c (gw_tb 829 rfl rfl) gw_n)))), by decide +kernel, by decide⟩
set_option maxRecDepth 100000 in
theorem cL_187 : CV RL 187 yX6_back cX6_back 1 (some .int) 0 := ⟨gw_c (gw_tb 830 rfl rfl) (gw_c (gw_tb 831 rfl rfl) (gw_c (gw_tb 832 rfl rfl) (gw_c (gw_tb 1 rfl rfl) (gw_c (gw_tb 833 rfl rfl) gw_n)))), by decide +kernel, by decide⟩
set_option maxRecDepth 100000 in
theorem cL_191 : CV RL 191 yX6_count cX6_count 2 (some .int) 1 := ⟨gw_c (gw_tb 834 rfl rfl) (gw_c (gw_tb 835 rfl rfl) (gw_c (gw_tb 836 rfl rfl) (gw_c (gw_tb 1 rfl rfl) (gw_c (gw_tb 837 rfl rfl) gw_n)))), by decide +kernel, by decide⟩
set_option maxRecDepth 100000 in
theorem cL_17 : CV RL 17 yX7_person cX7_person 4 (some .int) 3 := ⟨gw_c (gw_tb 946 rfl rfl) (gw_c (gw_tb 947 rfl rfl) (gw_c (gw_tb 948 rfl rfl) (gw_c (gw_tb 8 rfl rfl) (gw_c (gw_tb 949 rfl rfl) gw_n)))), by decide +kernel, by decide⟩
set_option maxRecDepth 100000 in
theorem cX7_75 : CS RX7 75 yX7_in cX7_in 3 (some .boolean) 3 := ⟨gw_c (gw_tb 950 rfl rfl) (gw_c (gw_tb 951 rfl rfl) (gw_c (gw_tb 8 rfl rfl) (gw_c (gw_tb 952 rfl rfl) gw_n))), by decide +kernel, by decide⟩
set_option maxRecDepth 100000 in
theorem cX7_121 : CV RX7 121 yX7_comes cX7_comes 6 (some .int) 3 := ⟨gw_c (gw_tb 955 rfl rfl) (gw_c (gw_tb 957 rfl rfl) (gw_c (gw_pv 16 rfl rfl) (gw_c (gw_tb 8 rfl rfl) (gw_c (gw_tb 958 rfl rfl) gw_n)))), by decide +kernel, by decide⟩
set_option maxRecDepth 100000 in
theorem cX7_115 : CV RX7 115 yX7_put cX7_put 4 none 3 := ⟨gw_c (gw_tb 959 rfl rfl) (gw_c (gw_tb 961 rfl rfl) (gw_c (gw_pv 17 rfl rfl) (gw_c (gw_tb 8 rfl rfl) (gw_c (gw_tb 962 rfl rfl) gw_n)))), by decide +kernel, by decide⟩
set_option maxRecDepth 100000 in
theorem cL_22 : CV RL 22 yX7_told cX7_told 3 (some .int) 2 := ⟨gw_c (gw_tb 963 rfl rfl) (gw_c (gw_tb 964 rfl rfl) (gw_c (gw_tb 965 rfl rfl) (gw_c (gw_tb 8 rfl rfl) (gw_c (gw_tb 966 rfl rfl) gw_n)))), by decide +kernel, by decide⟩
set_option maxRecDepth 100000 in
theorem cX7_128 : CV RX7 128 yX7_isPerson cX7_isPerson 2 (some .boolean) 1 := ⟨gw_c (gw_tb 967 rfl rfl) (gw_c (gw_tb 969 rfl rfl) (gw_c (gw_pv 18 rfl rfl) (gw_c (gw_tb 8 rfl rfl) (gw_c (gw_tb 970 rfl rfl) gw_n)))), by decide +kernel, by decide⟩
set_option maxRecDepth 100000 in
theorem cX7_79 : CV RX7 79 yX7_of cX7_of 3 (some .int) 2 := ⟨gw_c (gw_tb 971 rfl rfl) (gw_c (gw_tb 973 rfl rfl) (gw_c (gw_pv 19 rfl rfl) (gw_c (gw_tb 8 rfl rfl) (gw_c (gw_tb 974 rfl rfl) gw_n)))), by decide +kernel, by decide⟩
set_option maxRecDepth 100000 in
theorem cX7_86 : CV RX7 86 yX7_worthOf cX7_worthOf 2 (some .int) 1 := ⟨gw_c (gw_tb 975 rfl rfl) (gw_c (gw_tb 977 rfl rfl) (gw_c (gw_pv 20 rfl rfl) (gw_c (gw_tb 8 rfl rfl) (gw_c (gw_tb 978 rfl rfl) gw_n)))), by decide +kernel, by decide⟩
set_option maxRecDepth 100000 in
theorem cX7_132 : CV RX7 132 yX7_fieldsOf cX7_fieldsOf 4 (some .int) 1 := ⟨gw_c (gw_tb 979 rfl rfl) (gw_c (gw_tb 981 rfl rfl) (gw_c (gw_pv 21 rfl rfl) (gw_c (gw_tb 8 rfl rfl) (gw_c (gw_tb 982 rfl rfl) gw_n)))), by decide +kernel, by decide⟩
set_option maxRecDepth 100000 in
theorem cX7_83 : CV RX7 83 yX7_thinks cX7_thinks 3 (some .int) 2 := ⟨gw_c (gw_tb 983 rfl rfl) (gw_c (gw_tb 985 rfl rfl) (gw_c (gw_pv 22 rfl rfl) (gw_c (gw_tb 8 rfl rfl) (gw_c (gw_tb 986 rfl rfl) gw_n)))), by decide +kernel, by decide⟩
set_option maxRecDepth 100000 in
theorem cX7_135 : CV RX7 135 yX7_hearers cX7_hearers 4 (some .int) 1 := ⟨gw_c (gw_tb 987 rfl rfl) (gw_c (gw_tb 989 rfl rfl) (gw_c (gw_pv 23 rfl rfl) (gw_c (gw_tb 8 rfl rfl) (gw_c (gw_tb 990 rfl rfl) gw_n)))), by decide +kernel, by decide⟩
set_option maxRecDepth 100000 in
theorem cX7_124 : CV RX7 124 yX7_doesHear cX7_doesHear 4 (some .boolean) 2 := ⟨gw_c (gw_tb 991 rfl rfl) (gw_c (gw_tb 993 rfl rfl) (gw_c (gw_pv 24 rfl rfl) (gw_c (gw_tb 8 rfl rfl) (gw_c (gw_tb 994 rfl rfl) gw_n)))), by decide +kernel, by decide⟩
set_option maxRecDepth 100000 in
theorem cX7_112 : CS RX7 112 yX7_off cX7_off 1 (some .int) 1 := ⟨gw_c (gw_tb 995 rfl rfl) (gw_c (gw_tb 996 rfl rfl) (gw_c (gw_tb 8 rfl rfl) (gw_c (gw_tb 997 rfl rfl) gw_n))), by decide +kernel, by decide⟩
set_option maxRecDepth 100000 in
theorem cL_26 : CV RL 26 yX7_as cX7_as 3 (some .int) 2 := ⟨gw_c (gw_tb 998 rfl rfl) (gw_c (gw_tb 999 rfl rfl) (gw_c (gw_tb 1000 rfl rfl) (gw_c (gw_tb 8 rfl rfl) (gw_c (gw_tb 1001 rfl rfl) gw_n)))), by decide +kernel, by decide⟩
set_option maxRecDepth 100000 in
theorem cX7_138 : CS RX7 138 yX7_isUnder cX7_isUnder 2 (some .boolean) 2 := ⟨gw_c (gw_tb 1002 rfl rfl) (gw_c (gw_tb 1003 rfl rfl) (gw_c (gw_tb 8 rfl rfl) (gw_c (gw_tb 1004 rfl rfl) gw_n))), by decide +kernel, by decide⟩
set_option maxRecDepth 100000 in
theorem cL_30 : CV RL 30 yX7_turns cX7_turns 3 (some .int) 2 := ⟨gw_c (gw_tb 1006 rfl rfl) (gw_c (gw_tb 1007 rfl rfl) (gw_c (gw_tb 1008 rfl rfl) (gw_c (gw_tb 8 rfl rfl) (gw_c (gw_tb 1009 rfl rfl) gw_n)))), by decide +kernel, by decide⟩
set_option maxRecDepth 100000 in
theorem cX7_142 : CV RX7 142 yX7_swaps cX7_swaps 4 (some .int) 2 := ⟨gw_c (gw_tb 1010 rfl rfl) (gw_c (gw_tb 1012 rfl rfl) (gw_c (gw_pv 25 rfl rfl) (gw_c (gw_tb 8 rfl rfl) (gw_c (gw_tb 1013 rfl rfl) gw_n)))), by decide +kernel, by decide⟩
set_option maxRecDepth 100000 in
theorem cL_34 : CV RL 34 yX7_set cX7_set 5 (some .int) 3 := ⟨gw_c (gw_tb 1014 rfl rfl) (gw_c (gw_tb 1015 rfl rfl) (gw_c (gw_tb 1016 rfl rfl) (gw_c (gw_tb 8 rfl rfl) (gw_c (gw_tb 1017 rfl rfl) gw_n)))), by decide +kernel, by decide⟩
set_option maxRecDepth 100000 in
theorem cL_38 : CV RL 38 yX7_thought cX7_thought 3 (some .int) 2 := ⟨gw_c (gw_tb 1018 rfl rfl) (gw_c (gw_tb 1019 rfl rfl) (gw_c (gw_tb 1020 rfl rfl) (gw_c (gw_tb 8 rfl rfl) (gw_c (gw_tb 1021 rfl rfl) gw_n)))), by decide +kernel, by decide⟩
set_option maxRecDepth 100000 in
theorem cX7_145 : CS RX7 145 yX7_isField cX7_isField 1 (some .boolean) 1 := ⟨gw_c (gw_tb 1022 rfl rfl) (gw_c (gw_tb 1023 rfl rfl) (gw_c (gw_tb 8 rfl rfl) (gw_c (gw_tb 1024 rfl rfl) gw_n))), by decide +kernel, by decide⟩
set_option maxRecDepth 100000 in
theorem cL_42 : CV RL 42 yX7_lets cX7_lets 4 (some .int) 3 := ⟨gw_c (gw_tb 1025 rfl rfl) (gw_c (gw_tb 1026 rfl rfl) (gw_c (gw_tb 1027 rfl rfl) (gw_c (gw_tb 8 rfl rfl) (gw_c (gw_tb 1028 rfl rfl) gw_n)))), by decide +kernel, by decide⟩
set_option maxRecDepth 100000 in
theorem cL_46 : CV RL 46 yX7_says cX7_says 3 (some .int) 2 := ⟨gw_c (gw_tb 1029 rfl rfl) (gw_c (gw_tb 1030 rfl rfl) (gw_c (gw_tb 1031 rfl rfl) (gw_c (gw_tb 8 rfl rfl) (gw_c (gw_tb 1032 rfl rfl) gw_n)))), by decide +kernel, by decide⟩
set_option maxRecDepth 100000 in
theorem cX7_148 : CV RX7 148 yX7_saysOf cX7_saysOf 6 (some .int) 2 := ⟨gw_c (gw_tb 1033 rfl rfl) (gw_c (gw_tb 1035 rfl rfl) (gw_c (gw_pv 26 rfl rfl) (gw_c (gw_tb 8 rfl rfl) (gw_c (gw_tb 1036 rfl rfl) gw_n)))), by decide +kernel, by decide⟩
set_option maxRecDepth 100000 in
theorem cX7_93 : CV RX7 93 yX7_firstOf cX7_firstOf 6 (some .int) 1 := ⟨gw_c (gw_tb 1037 rfl rfl) (gw_c (gw_tb 1039 rfl rfl) (gw_c (gw_pv 27 rfl rfl) (gw_c (gw_tb 8 rfl rfl) (gw_c (gw_tb 1040 rfl rfl) gw_n)))), by decide +kernel, by decide⟩
set_option maxRecDepth 100000 in
theorem cX7_90 : CV RX7 90 yX7_votesFor cX7_votesFor 5 (some .int) 2 := ⟨gw_c (gw_tb 1041 rfl rfl) (gw_c (gw_tb 1043 rfl rfl) (gw_c (gw_pv 28 rfl rfl) (gw_c (gw_tb 8 rfl rfl) (gw_c (gw_tb 1044 rfl rfl) gw_n)))), by decide +kernel, by decide⟩
set_option maxRecDepth 100000 in
theorem cL_50 : CV RL 50 yX7_heeds cX7_heeds 4 (some .int) 3 := ⟨gw_c (gw_tb 1045 rfl rfl) (gw_c (gw_tb 1046 rfl rfl) (gw_c (gw_tb 1047 rfl rfl) (gw_c (gw_tb 8 rfl rfl) (gw_c (gw_tb 1048 rfl rfl) gw_n)))), by decide +kernel, by decide⟩
set_option maxRecDepth 100000 in
theorem cX7_151 : CV RX7 151 yX7_heedsOf cX7_heedsOf 7 (some .int) 3 := ⟨gw_c (gw_tb 1049 rfl rfl) (gw_c (gw_tb 1051 rfl rfl) (gw_c (gw_pv 29 rfl rfl) (gw_c (gw_tb 8 rfl rfl) (gw_c (gw_tb 1052 rfl rfl) gw_n)))), by decide +kernel, by decide⟩
set_option maxRecDepth 100000 in
theorem cX7_96 : CV RX7 96 yX7_thinkers cX7_thinkers 5 (some .int) 2 := ⟨gw_c (gw_tb 1053 rfl rfl) (gw_c (gw_tb 1055 rfl rfl) (gw_c (gw_pv 30 rfl rfl) (gw_c (gw_tb 8 rfl rfl) (gw_c (gw_tb 1056 rfl rfl) gw_n)))), by decide +kernel, by decide⟩
set_option maxRecDepth 100000 in
theorem cX7_99 : CS RX7 99 yX7_bits cX7_bits 3 (some .int) 1 := ⟨gw_c (gw_tb 1057 rfl rfl) (gw_c (gw_tb 1058 rfl rfl) (gw_c (gw_tb 8 rfl rfl) (gw_c (gw_tb 1059 rfl rfl) gw_n))), by decide +kernel, by decide⟩
set_option maxRecDepth 100000 in
theorem cX7_102 : CV RX7 102 yX7_counts cX7_counts 3 (some .int) 1 := ⟨gw_c (gw_tb 1060 rfl rfl) (gw_c (gw_tb 1062 rfl rfl) (gw_c (gw_pv 31 rfl rfl) (gw_c (gw_tb 8 rfl rfl) (gw_c (gw_tb 1063 rfl rfl) gw_n)))), by decide +kernel, by decide⟩
set_option maxRecDepth 100000 in
theorem cX7_105 : CV RX7 105 yX7_worksOut cX7_worksOut 6 (some .int) 1 := ⟨gw_c (gw_tb 1064 rfl rfl) (gw_c (gw_tb 1066 rfl rfl) (gw_c (gw_pv 32 rfl rfl) (gw_c (gw_tb 8 rfl rfl) (gw_c (gw_tb 1067 rfl rfl) gw_n)))), by decide +kernel, by decide⟩
set_option maxRecDepth 100000 in
theorem cX7_268 : CS RX7 268 yX7_two cX7_two 3 (some .int) 3 := ⟨gw_c (gw_tb 1068 rfl rfl) (gw_c (gw_tb 1069 rfl rfl) (gw_c (gw_tb 8 rfl rfl) (gw_c (gw_tb 1070 rfl rfl) gw_n))), by decide +kernel, by decide⟩
set_option maxRecDepth 100000 in
theorem cX7_108 : CS RX7 108 yX7_within cX7_within 3 (some .int) 3 := ⟨gw_c (gw_tb 1071 rfl rfl) (gw_c (gw_tb 1072 rfl rfl) (gw_c (gw_tb 8 rfl rfl) (gw_c (gw_tb 1073 rfl rfl) gw_n))), by decide +kernel, by decide⟩
set_option maxRecDepth 100000 in
theorem cL_54 : CV RL 54 yX7_sow cX7_sow 3 (some .int) 2 := ⟨gw_c (gw_tb 1074 rfl rfl) (gw_c (gw_tb 1075 rfl rfl) (gw_c (gw_tb 1076 rfl rfl) (gw_c (gw_tb 8 rfl rfl) (gw_c (gw_tb 1077 rfl rfl) gw_n)))), by decide +kernel, by decide⟩
set_option maxRecDepth 100000 in
theorem cL_58 : CV RL 58 yX7_field cX7_field 4 (some .int) 2 := ⟨gw_c (gw_tb 1078 rfl rfl) (gw_c (gw_tb 1079 rfl rfl) (gw_c (gw_tb 1080 rfl rfl) (gw_c (gw_tb 8 rfl rfl) (gw_c (gw_tb 1081 rfl rfl) gw_n)))), by decide +kernel, by decide⟩
set_option maxRecDepth 100000 in
theorem cL_62 : CV RL 62 yX7_votes cX7_votes 3 (some .int) 2 := ⟨gw_c (gw_tb 1082 rfl rfl) (gw_c (gw_tb 1083 rfl rfl) (gw_c (gw_tb 1084 rfl rfl) (gw_c (gw_tb 8 rfl rfl) (gw_c (gw_tb 1085 rfl rfl) gw_n)))), by decide +kernel, by decide⟩
set_option maxRecDepth 100000 in
theorem cL_67 : CV RL 67 yX7_deal cX7_deal 6 (some .int) 1 := ⟨gw_c (gw_tb 1086 rfl rfl) (gw_c (gw_tb 1087 rfl rfl) (gw_c (gw_tb 1088 rfl rfl) (gw_c (gw_tb 8 rfl rfl) (gw_c (gw_tb 1089 rfl rfl) gw_n)))), by decide +kernel, by decide⟩
set_option maxRecDepth 100000 in
theorem cX7_155 : CV RX7 155 yX7_draw cX7_draw 1 (some .int) 0 := ⟨gw_c (gw_tb 1090 rfl rfl) (gw_c (gw_tb 1092 rfl rfl) (gw_c (gw_pv 33 rfl rfl) (gw_c (gw_tb 8 rfl rfl) (gw_c (gw_tb 1093 rfl rfl) gw_n)))), by decide +kernel, by decide⟩
set_option maxRecDepth 100000 in
theorem cL_71 : CV RL 71 yX7_seed cX7_seed 2 (some .int) 1 := ⟨gw_c (gw_tb 1095 rfl rfl) (gw_c (gw_tb 1096 rfl rfl) (gw_c (gw_tb 1097 rfl rfl) (gw_c (gw_tb 8 rfl rfl) (gw_c (gw_tb 1098 rfl rfl) gw_n)))), by decide +kernel, by decide⟩
set_option maxRecDepth 100000 in
theorem cL_75 : CV RL 75 yX7_weeks cX7_weeks 3 (some .int) 1 := ⟨gw_c (gw_tb 1099 rfl rfl) (gw_c (gw_tb 1100 rfl rfl) (gw_c (gw_tb 1101 rfl rfl) (gw_c (gw_tb 8 rfl rfl) (gw_c (gw_tb 1102 rfl rfl) gw_n)))), by decide +kernel, by decide⟩
set_option maxRecDepth 100000 in
theorem cX7_172 : CV RX7 172 yX7_goesOn cX7_goesOn 3 none 1 := ⟨gw_c (gw_tb 1103 rfl rfl) (gw_c (gw_tb 1105 rfl rfl) (gw_c (gw_pv 34 rfl rfl) (gw_c (gw_tb 8 rfl rfl) (gw_c (gw_tb 1106 rfl rfl) gw_n)))), by decide +kernel, by decide⟩
set_option maxRecDepth 100000 in
theorem cX7_169 : CV RX7 169 yX7_week cX7_week 3 none 0 := ⟨gw_c (gw_tb 1107 rfl rfl) (gw_c (gw_tb 1109 rfl rfl) (gw_c (gw_pv 35 rfl rfl) (gw_c (gw_tb 8 rfl rfl) (gw_c (gw_tb 1110 rfl rfl) gw_n)))), by decide +kernel, by decide⟩
set_option maxRecDepth 100000 in
theorem cX7_162 : CV RX7 162 yX7_talks cX7_talks 5 none 1 := ⟨gw_c (gw_tb 1111 rfl rfl) (gw_c (gw_tb 1113 rfl rfl) (gw_c (gw_pv 36 rfl rfl) (gw_c (gw_tb 8 rfl rfl) (gw_c (gw_tb 1114 rfl rfl) gw_n)))), by decide +kernel, by decide⟩
set_option maxRecDepth 100000 in
theorem cX7_159 : CV RX7 159 yX7_hears cX7_hears 6 none 3 := ⟨gw_c (gw_tb 1115 rfl rfl) (gw_c (gw_tb 1117 rfl rfl) (gw_c (gw_pv 37 rfl rfl) (gw_c (gw_tb 8 rfl rfl) (gw_c (gw_tb 1118 rfl rfl) gw_n)))), by decide +kernel, by decide⟩
set_option maxRecDepth 100000 in
theorem cX7_166 : CV RX7 166 yX7_passesBy cX7_passesBy 4 none 0 := ⟨gw_c (gw_tb 1119 rfl rfl) (gw_c (gw_tb 1121 rfl rfl) (gw_c (gw_pv 38 rfl rfl) (gw_c (gw_tb 8 rfl rfl) (gw_c (gw_tb 1122 rfl rfl) gw_n)))), by decide +kernel, by decide⟩
set_option maxRecDepth 100000 in
theorem cL_79 : CV RL 79 yX7_county cX7_county 2 (some .int) 1 := ⟨gw_c (gw_tb 1123 rfl rfl) (gw_c (gw_tb 1124 rfl rfl) (gw_c (gw_tb 1125 rfl rfl) (gw_c (gw_tb 8 rfl rfl) (gw_c (gw_tb 1126 rfl rfl) gw_n)))), by decide +kernel, by decide⟩
set_option maxRecDepth 100000 in
theorem cX7_175 : CV RX7 175 yX7_allSure cX7_allSure 3 (some .int) 0 := ⟨gw_c (gw_tb 1127 rfl rfl) (gw_c (gw_tb 1129 rfl rfl) (gw_c (gw_pv 39 rfl rfl) (gw_c (gw_tb 8 rfl rfl) (gw_c (gw_tb 1130 rfl rfl) gw_n)))), by decide +kernel, by decide⟩
set_option maxRecDepth 100000 in
theorem cX7_178 : CV RX7 178 yX7_agreed cX7_agreed 6 (some .int) 0 := ⟨gw_c (gw_tb 1131 rfl rfl) (gw_c (gw_tb 1133 rfl rfl) (gw_c (gw_pv 40 rfl rfl) (gw_c (gw_tb 8 rfl rfl) (gw_c (gw_tb 1134 rfl rfl) gw_n)))), by decide +kernel, by decide⟩
set_option maxRecDepth 100000 in
theorem cL_83 : CV RL 83 yX7_behind cX7_behind 4 (some .int) 2 := ⟨gw_c (gw_tb 1135 rfl rfl) (gw_c (gw_tb 1136 rfl rfl) (gw_c (gw_tb 1137 rfl rfl) (gw_c (gw_tb 8 rfl rfl) (gw_c (gw_tb 1138 rfl rfl) gw_n)))), by decide +kernel, by decide⟩
set_option maxRecDepth 100000 in
theorem cX7_185 : CV RX7 185 yX7_dreams cX7_dreams 1 none 0 := ⟨gw_c (gw_tb 1139 rfl rfl) (gw_c (gw_tb 1141 rfl rfl) (gw_c (gw_pv 41 rfl rfl) (gw_c (gw_tb 8 rfl rfl) (gw_c (gw_tb 1142 rfl rfl) gw_n)))), by decide +kernel, by decide⟩
set_option maxRecDepth 100000 in
theorem cX7_181 : CS RX7 181 yX7_copyAll cX7_copyAll 3 none 2 := ⟨gw_c (gw_tb 1143 rfl rfl) (gw_c (gw_tb 1144 rfl rfl) (gw_c (gw_tb 8 rfl rfl) (gw_c (gw_tb 1145 rfl rfl) gw_n))), by decide +kernel, by decide⟩
set_option maxRecDepth 100000 in
theorem cX7_188 : CV RX7 188 yX7_putsBack cX7_putsBack 1 none 0 := ⟨gw_c (gw_tb 1146 rfl rfl) (gw_c (gw_tb 1148 rfl rfl) (gw_c (gw_pv 42 rfl rfl) (gw_c (gw_tb 8 rfl rfl) (gw_c (gw_tb 1149 rfl rfl) gw_n)))), by decide +kernel, by decide⟩
set_option maxRecDepth 100000 in
theorem cL_87 : CV RL 87 yX7_first cX7_first 4 (some .int) 2 := ⟨gw_c (gw_tb 1150 rfl rfl) (gw_c (gw_tb 1151 rfl rfl) (gw_c (gw_tb 1152 rfl rfl) (gw_c (gw_tb 8 rfl rfl) (gw_c (gw_tb 1153 rfl rfl) gw_n)))), by decide +kernel, by decide⟩
set_option maxRecDepth 100000 in
theorem cL_92 : CV RL 92 yX7_ear cX7_ear 9 (some .int) 4 := ⟨gw_c (gw_tb 1155 rfl rfl) (gw_c (gw_tb 1156 rfl rfl) (gw_c (gw_tb 1157 rfl rfl) (gw_c (gw_tb 8 rfl rfl) (gw_c (gw_tb 1158 rfl rfl) gw_n)))), by decide +kernel, by decide⟩
set_option maxRecDepth 100000 in
theorem cX7_192 : CV RX7 192 yX7_isTold cX7_isTold 4 none 3 := ⟨gw_c (gw_tb 1159 rfl rfl) (gw_c (gw_tb 1161 rfl rfl) (gw_c (gw_pv 43 rfl rfl) (gw_c (gw_tb 8 rfl rfl) (gw_c (gw_tb 1162 rfl rfl) gw_n)))), by decide +kernel, by decide⟩
set_option maxRecDepth 100000 in
theorem cL_96 : CV RL 96 yX7_fewest cX7_fewest 7 (some .int) 3 := ⟨gw_c (gw_tb 1163 rfl rfl) (gw_c (gw_tb 1164 rfl rfl) (gw_c (gw_tb 1165 rfl rfl) (gw_c (gw_tb 8 rfl rfl) (gw_c (gw_tb 1166 rfl rfl) gw_n)))), by decide +kernel, by decide⟩
set_option maxRecDepth 100000 in
theorem cX7_195 : CV RX7 195 yX7_doesGrow cX7_doesGrow 6 (some .boolean) 4 := ⟨gw_c (gw_tb 1167 rfl rfl) (gw_c (gw_tb 1169 rfl rfl) (gw_c (gw_pv 44 rfl rfl) (gw_c (gw_tb 8 rfl rfl) (gw_c (gw_tb 1170 rfl rfl) gw_n)))), by decide +kernel, by decide⟩
set_option maxRecDepth 100000 in
theorem cL_100 : CV RL 100 yX7_house cX7_house 8 (some .int) 3 := ⟨gw_c (gw_tb 1171 rfl rfl) (gw_c (gw_tb 1172 rfl rfl) (gw_c (gw_tb 1173 rfl rfl) (gw_c (gw_tb 8 rfl rfl) (gw_c (gw_tb 1174 rfl rfl) gw_n)))), by decide +kernel, by decide⟩
set_option maxRecDepth 100000 in
theorem cL_104 : CV RL 104 yX7_becomes cX7_becomes 8 (some .int) 3 := ⟨gw_c (gw_tb 1175 rfl rfl) (gw_c (gw_tb 1176 rfl rfl) (gw_c (gw_tb 1177 rfl rfl) (gw_c (gw_tb 8 rfl rfl) (gw_c (gw_tb 1178 rfl rfl) gw_n)))), by decide +kernel, by decide⟩
set_option maxRecDepth 100000 in
theorem cL_108 : CV RL 108 yX7_like cX7_like 6 (some .int) 2 := ⟨gw_c (gw_tb 1179 rfl rfl) (gw_c (gw_tb 1180 rfl rfl) (gw_c (gw_tb 1181 rfl rfl) (gw_c (gw_tb 8 rfl rfl) (gw_c (gw_tb 1182 rfl rfl) gw_n)))), by decide +kernel, by decide⟩
set_option maxRecDepth 100000 in
theorem cX7_199 : CS RX7 199 yX7_isSheet cX7_isSheet 1 (some .boolean) 1 := ⟨gw_c (gw_tb 1183 rfl rfl) (gw_c (gw_tb 1184 rfl rfl) (gw_c (gw_tb 8 rfl rfl) (gw_c (gw_tb 1185 rfl rfl) gw_n))), by decide +kernel, by decide⟩
set_option maxRecDepth 100000 in
theorem cL_113 : CV RL 113 yX7_fee cX7_fee 2 (some .int) 0 := ⟨gw_c (gw_tb 1187 rfl rfl) (gw_c (gw_tb 1188 rfl rfl) (gw_c (gw_tb 1189 rfl rfl) (gw_c (gw_tb 8 rfl rfl) (gw_c (gw_tb 1190 rfl rfl) gw_n)))), by decide +kernel, by decide⟩
set_option maxRecDepth 100000 in
theorem cL_117 : CV RL 117 yX7_fine cX7_fine 3 (some .int) 1 := ⟨gw_c (gw_tb 1191 rfl rfl) (gw_c (gw_tb 1192 rfl rfl) (gw_c (gw_tb 1193 rfl rfl) (gw_c (gw_tb 8 rfl rfl) (gw_c (gw_tb 1194 rfl rfl) gw_n)))), by decide +kernel, by decide⟩
set_option maxRecDepth 100000 in
theorem cL_121 : CV RL 121 yX7_feed cX7_feed 6 (some .int) 3 := ⟨gw_c (gw_tb 1195 rfl rfl) (gw_c (gw_tb 1196 rfl rfl) (gw_c (gw_tb 1197 rfl rfl) (gw_c (gw_tb 8 rfl rfl) (gw_c (gw_tb 1198 rfl rfl) gw_n)))), by decide +kernel, by decide⟩
set_option maxRecDepth 100000 in
theorem cL_125 : CV RL 125 yX7_trim cX7_trim 2 (some .int) 1 := ⟨gw_c (gw_tb 1199 rfl rfl) (gw_c (gw_tb 1200 rfl rfl) (gw_c (gw_tb 1201 rfl rfl) (gw_c (gw_tb 8 rfl rfl) (gw_c (gw_tb 1202 rfl rfl) gw_n)))), by decide +kernel, by decide⟩
set_option maxRecDepth 100000 in
theorem cL_129 : CV RL 129 yX7_text cX7_text 4 (some .int) 0 := ⟨gw_c (gw_tb 1203 rfl rfl) (gw_c (gw_tb 1204 rfl rfl) (gw_c (gw_tb 1205 rfl rfl) (gw_c (gw_tb 8 rfl rfl) (gw_c (gw_tb 1206 rfl rfl) gw_n)))), by decide +kernel, by decide⟩
set_option maxRecDepth 100000 in
theorem cX7_231 : CV RX7 231 yX7_go cX7_go 2 none 0 := ⟨gw_c (gw_tb 1207 rfl rfl) (gw_c (gw_tb 1209 rfl rfl) (gw_c (gw_pv 45 rfl rfl) (gw_c (gw_tb 8 rfl rfl) (gw_c (gw_tb 1210 rfl rfl) gw_n)))), by decide +kernel, by decide⟩
set_option maxRecDepth 100000 in
theorem cX7_219 : CV RX7 219 yX7_isLetter cX7_isLetter 2 (some .boolean) 1 := ⟨gw_c (gw_tb 1211 rfl rfl) (gw_c (gw_tb 1213 rfl rfl) (gw_c (gw_pv 46 rfl rfl) (gw_c (gw_tb 8 rfl rfl) (gw_c (gw_tb 1214 rfl rfl) gw_n)))), by decide +kernel, by decide⟩
set_option maxRecDepth 100000 in
theorem cX7_225 : CV RX7 225 yX7_isFigure cX7_isFigure 2 (some .boolean) 1 := ⟨gw_c (gw_tb 1215 rfl rfl) (gw_c (gw_tb 1217 rfl rfl) (gw_c (gw_pv 47 rfl rfl) (gw_c (gw_tb 8 rfl rfl) (gw_c (gw_tb 1218 rfl rfl) gw_n)))), by decide +kernel, by decide⟩
set_option maxRecDepth 100000 in
theorem cX7_262 : CV RX7 262 yX7_takesKey cX7_takesKey 5 (some .boolean) 0 := ⟨gw_c (gw_tb 1219 rfl rfl) (gw_c (gw_tb 1221 rfl rfl) (gw_c (gw_pv 48 rfl rfl) (gw_c (gw_tb 8 rfl rfl) (gw_c (gw_tb 1222 rfl rfl) gw_n)))), by decide +kernel, by decide⟩
set_option maxRecDepth 100000 in
theorem cX7_265 : CV RX7 265 yX7_takesE cX7_takesE 5 (some .boolean) 0 := ⟨gw_c (gw_tb 1223 rfl rfl) (gw_c (gw_tb 1225 rfl rfl) (gw_c (gw_pv 49 rfl rfl) (gw_c (gw_tb 8 rfl rfl) (gw_c (gw_tb 1226 rfl rfl) gw_n)))), by decide +kernel, by decide⟩
set_option maxRecDepth 100000 in
theorem cX7_252 : CV RX7 252 yX7_takesPart cX7_takesPart 2 (some .boolean) 0 := ⟨gw_c (gw_tb 1227 rfl rfl) (gw_c (gw_tb 1229 rfl rfl) (gw_c (gw_pv 50 rfl rfl) (gw_c (gw_tb 8 rfl rfl) (gw_c (gw_tb 1230 rfl rfl) gw_n)))), by decide +kernel, by decide⟩
set_option maxRecDepth 100000 in
theorem cX7_243 : CV RX7 243 yX7_nameOf cX7_nameOf 2 (some .int) 1 := ⟨gw_c (gw_tb 1231 rfl rfl) (gw_c (gw_tb 1233 rfl rfl) (gw_c (gw_pv 51 rfl rfl) (gw_c (gw_tb 8 rfl rfl) (gw_c (gw_tb 1234 rfl rfl) gw_n)))), by decide +kernel, by decide⟩
set_option maxRecDepth 100000 in
theorem cX7_249 : CV RX7 249 yX7_settle cX7_settle 2 none 1 := ⟨gw_c (gw_tb 1235 rfl rfl) (gw_c (gw_tb 1237 rfl rfl) (gw_c (gw_pv 52 rfl rfl) (gw_c (gw_tb 8 rfl rfl) (gw_c (gw_tb 1238 rfl rfl) gw_n)))), by decide +kernel, by decide⟩
set_option maxRecDepth 100000 in
theorem cX7_237 : CS RX7 237 yX7_rank cX7_rank 1 (some .int) 1 := ⟨gw_c (gw_tb 1239 rfl rfl) (gw_c (gw_tb 1240 rfl rfl) (gw_c (gw_tb 8 rfl rfl) (gw_c (gw_tb 1241 rfl rfl) gw_n))), by decide +kernel, by decide⟩
set_option maxRecDepth 100000 in
theorem cX7_256 : CV RX7 256 yX7_notsOpen cX7_notsOpen 3 (some .int) 0 := ⟨gw_c (gw_tb 1242 rfl rfl) (gw_c (gw_tb 1244 rfl rfl) (gw_c (gw_pv 53 rfl rfl) (gw_c (gw_tb 8 rfl rfl) (gw_c (gw_tb 1245 rfl rfl) gw_n)))), by decide +kernel, by decide⟩
set_option maxRecDepth 100000 in
theorem cX7_259 : CV RX7 259 yX7_signHere cX7_signHere 1 (some .int) 0 := ⟨gw_c (gw_tb 1246 rfl rfl) (gw_c (gw_tb 1248 rfl rfl) (gw_c (gw_pv 54 rfl rfl) (gw_c (gw_tb 8 rfl rfl) (gw_c (gw_tb 1249 rfl rfl) gw_n)))), by decide +kernel, by decide⟩
set_option maxRecDepth 100000 in
theorem cL_133 : CV RL 133 yX7_textTold cX7_textTold 3 (some .int) 2 := ⟨gw_c (gw_tb 1250 rfl rfl) (gw_c (gw_tb 1251 rfl rfl) (gw_c (gw_tb 1252 rfl rfl) (gw_c (gw_tb 8 rfl rfl) (gw_c (gw_tb 1253 rfl rfl) gw_n)))), by decide +kernel, by decide⟩
set_option maxRecDepth 100000 in
theorem cL_137 : CV RL 137 yX7_why cX7_why 3 (some .int) 1 := ⟨gw_c (gw_tb 1254 rfl rfl) (gw_c (gw_tb 1255 rfl rfl) (gw_c (gw_tb 1256 rfl rfl) (gw_c (gw_tb 8 rfl rfl) (gw_c (gw_tb 1257 rfl rfl) gw_n)))), by decide +kernel, by decide⟩
set_option maxRecDepth 100000 in
theorem cL_141 : CV RL 141 yX7_sheet cX7_sheet 5 (some .int) 3 := ⟨gw_c (gw_tb 1258 rfl rfl) (gw_c (gw_tb 1259 rfl rfl) (gw_c (gw_tb 1260 rfl rfl) (gw_c (gw_tb 8 rfl rfl) (gw_c (gw_tb 1261 rfl rfl) gw_n)))), by decide +kernel, by decide⟩
set_option maxRecDepth 100000 in
theorem cL_145 : CV RL 145 yX7_mark cX7_mark 4 (some .int) 3 := ⟨gw_c (gw_tb 1263 rfl rfl) (gw_c (gw_tb 1264 rfl rfl) (gw_c (gw_tb 1265 rfl rfl) (gw_c (gw_tb 8 rfl rfl) (gw_c (gw_tb 1266 rfl rfl) gw_n)))), by decide +kernel, by decide⟩
set_option maxRecDepth 100000 in
theorem cL_149 : CV RL 149 yX7_pour cX7_pour 6 (some .int) 1 := ⟨gw_c (gw_tb 1270 rfl rfl) (gw_c (gw_tb 1271 rfl rfl) (gw_c (gw_tb 1272 rfl rfl) (gw_c (gw_tb 8 rfl rfl) (gw_c (gw_tb 1273 rfl rfl) gw_n)))), by decide +kernel, by decide⟩
set_option maxRecDepth 100000 in
theorem cL_153 : CV RL 153 yX7_reads cX7_reads 4 (some .int) 1 := ⟨gw_c (gw_tb 1274 rfl rfl) (gw_c (gw_tb 1275 rfl rfl) (gw_c (gw_tb 1276 rfl rfl) (gw_c (gw_tb 8 rfl rfl) (gw_c (gw_tb 1277 rfl rfl) gw_n)))), by decide +kernel, by decide⟩
set_option maxRecDepth 100000 in
theorem cL_158 : CV RL 158 yX7_copy cX7_copy 7 (some .int) 5 := ⟨gw_c (gw_tb 1278 rfl rfl) (gw_c (gw_tb 1279 rfl rfl) (gw_c (gw_tb 1280 rfl rfl) (gw_c (gw_tb 8 rfl rfl) (gw_c (gw_tb 1281 rfl rfl) gw_n)))), by decide +kernel, by decide⟩
set_option maxRecDepth 100000 in
theorem cL_162 : CV RL 162 yX7_lay cX7_lay 6 (some .int) 3 := ⟨gw_c (gw_tb 1282 rfl rfl) (gw_c (gw_tb 1283 rfl rfl) (gw_c (gw_tb 1284 rfl rfl) (gw_c (gw_tb 8 rfl rfl) (gw_c (gw_tb 1285 rfl rfl) gw_n)))), by decide +kernel, by decide⟩
set_option maxRecDepth 100000 in
theorem cX7_275 : CS RX7 275 yX7_isSlot cX7_isSlot 1 (some .boolean) 1 := ⟨gw_c (gw_tb 1286 rfl rfl) (gw_c (gw_tb 1287 rfl rfl) (gw_c (gw_tb 8 rfl rfl) (gw_c (gw_tb 1288 rfl rfl) gw_n))), by decide +kernel, by decide⟩
set_option maxRecDepth 100000 in
theorem cL_166 : CV RL 166 yX7_ask cX7_ask 3 (some .int) 2 := ⟨gw_c (gw_tb 1289 rfl rfl) (gw_c (gw_tb 1290 rfl rfl) (gw_c (gw_tb 1291 rfl rfl) (gw_c (gw_tb 8 rfl rfl) (gw_c (gw_tb 1292 rfl rfl) gw_n)))), by decide +kernel, by decide⟩
set_option maxRecDepth 100000 in
theorem cL_170 : CV RL 170 yX7_item cX7_item 4 (some .int) 2 := ⟨gw_c (gw_tb 1293 rfl rfl) (gw_c (gw_tb 1294 rfl rfl) (gw_c (gw_tb 1295 rfl rfl) (gw_c (gw_tb 8 rfl rfl) (gw_c (gw_tb 1296 rfl rfl) gw_n)))), by decide +kernel, by decide⟩
set_option maxRecDepth 100000 in
theorem cL_174 : CV RL 174 yX7_rest cX7_rest 3 (some .int) 2 := ⟨gw_c (gw_tb 1297 rfl rfl) (gw_c (gw_tb 1298 rfl rfl) (gw_c (gw_tb 1299 rfl rfl) (gw_c (gw_tb 8 rfl rfl) (gw_c (gw_tb 1300 rfl rfl) gw_n)))), by decide +kernel, by decide⟩
set_option maxRecDepth 100000 in
theorem cL_178 : CV RL 178 yX7_tell cX7_tell 2 (some .int) 1 := ⟨gw_c (gw_tb 1302 rfl rfl) (gw_c (gw_tb 1303 rfl rfl) (gw_c (gw_tb 1304 rfl rfl) (gw_c (gw_tb 8 rfl rfl) (gw_c (gw_tb 1305 rfl rfl) gw_n)))), by decide +kernel, by decide⟩
set_option maxRecDepth 100000 in
theorem cL_182 : CV RL 182 yX7_check cX7_check 6 (some .int) 1 := ⟨gw_c (gw_tb 1306 rfl rfl) (gw_c (gw_tb 1307 rfl rfl) (gw_c (gw_tb 1308 rfl rfl) (gw_c (gw_tb 8 rfl rfl) (gw_c (gw_tb 1309 rfl rfl) gw_n)))), by decide +kernel, by decide⟩
set_option maxRecDepth 100000 in
theorem cL_186 : CV RL 186 yX7_keep cX7_keep 1 (some .int) 0 := ⟨gw_c (gw_tb 1310 rfl rfl) (gw_c (gw_tb 1311 rfl rfl) (gw_c (gw_tb 1312 rfl rfl) (gw_c (gw_tb 8 rfl rfl) (gw_c (gw_tb 1313 rfl rfl) gw_n)))), by decide +kernel, by decide⟩
set_option maxRecDepth 100000 in
theorem cL_190 : CV RL 190 yX7_back cX7_back 1 (some .int) 0 := ⟨gw_c (gw_tb 1314 rfl rfl) (gw_c (gw_tb 1315 rfl rfl) (gw_c (gw_tb 1316 rfl rfl) (gw_c (gw_tb 8 rfl rfl) (gw_c (gw_tb 1317 rfl rfl) gw_n)))), by decide +kernel, by decide⟩
set_option maxRecDepth 100000 in
theorem cL_194 : CV RL 194 yX7_count cX7_count 2 (some .int) 1 := ⟨gw_c (gw_tb 1318 rfl rfl) (gw_c (gw_tb 1319 rfl rfl) (gw_c (gw_tb 1320 rfl rfl) (gw_c (gw_tb 8 rfl rfl) (gw_c (gw_tb 1321 rfl rfl) gw_n)))), by decide +kernel, by decide⟩
set_option maxRecDepth 100000 in
theorem sX6_92 : Cond.fieldLink RX6 92 "HearsaySeeds" "WEIGHS" "[I" ∈ gw := gw_tb 290 rfl rfl
set_option maxRecDepth 100000 in
theorem sX6_297 : Cond.fieldLink RX6 297 "HearsaySeeds" "ABOVE" "[I" ∈ gw := gw_tb 318 rfl rfl
