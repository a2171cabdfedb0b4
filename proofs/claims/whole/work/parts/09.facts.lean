/-! ===== words by their places; fields; calls ===== -/
theorem zin {ws : List Cond} (ps : List Nat) (hp : ws = ps.filterMap (fun i => tables_1[i]?)) (hg : ws.all goodWord = true) : ∀ w ∈ ws, w ∈ zws := by
  intro w hw
  have h1 := List.all_eq_true.mp hg w hw
  rw [hp] at hw
  obtain ⟨i, -, hi⟩ := List.mem_filterMap.mp hw
  exact zws_t i hi h1
theorem inX0 : ∀ w ∈ wsX00, w ∈ zws := zin [62, 64, 66, 68, 70, 72, 74, 76, 78, 80, 82] (by decide +kernel) (by decide +kernel)
theorem inX1 : ∀ w ∈ wsX10, w ∈ zws := zin [149, 151, 153, 155] (by decide +kernel) (by decide +kernel)
theorem inX2 : ∀ w ∈ wsX20, w ∈ zws := zin [173, 175, 177, 179, 181, 183] (by decide +kernel) (by decide +kernel)
theorem inX3 : ∀ w ∈ wsX30, w ∈ zws := zin [224, 226, 228] (by decide +kernel) (by decide +kernel)
theorem inX4 : ∀ w ∈ wsX40, w ∈ zws := zin [111, 113, 115, 117, 119, 121, 123, 125, 127, 129, 131] (by decide +kernel) (by decide +kernel)
theorem inX5 : ∀ w ∈ wsX50, w ∈ zws := zin [201, 203, 205, 207, 209] (by decide +kernel) (by decide +kernel)
theorem inX6 : ∀ w ∈ wsX60, w ∈ zws := zin [243, 245, 247, 249, 251, 253, 255, 257, 259, 261, 263, 265] (by decide +kernel) (by decide +kernel)
theorem inX7 : ∀ w ∈ wsX70, w ∈ zws := zin [793, 795, 797, 799, 801, 803, 805, 807, 809, 811, 813, 815, 817, 819, 821, 823, 825, 827, 829, 831, 833, 835, 837, 839, 841, 843, 845, 847, 849, 851, 853, 855, 857] (by decide +kernel) (by decide +kernel)
theorem fl_X0_30 : zFld RX0 30 0 0 := ⟨RX0, TX0, 11, rfl, by decide, inX0, zws_t 30 (by decide +kernel) rfl⟩
theorem fp_X0_30 : zFldP RX0 30 0 0 (.int) false := ⟨RX0, TX0, 11, tyX0, rfl, by decide, inX0, zws_t 30 (by decide +kernel) rfl, tyX0_ok, nmX0, rfl, rfl, fun h => by cases h⟩
theorem fl_X2_35 : zFld RX2 35 0 0 := ⟨RX0, TX0, 11, rfl, by decide, inX0, zws_t 31 (by decide +kernel) rfl⟩
theorem fp_X2_35 : zFldP RX2 35 0 0 (.int) false := ⟨RX0, TX0, 11, tyX0, rfl, by decide, inX0, zws_t 31 (by decide +kernel) rfl, tyX0_ok, nmX0, rfl, rfl, fun h => by cases h⟩
theorem fl_X4_79 : zFld RX4 79 0 0 := ⟨RX0, TX0, 11, rfl, by decide, inX0, zws_t 32 (by decide +kernel) rfl⟩
theorem fp_X4_79 : zFldP RX4 79 0 0 (.int) false := ⟨RX0, TX0, 11, tyX0, rfl, by decide, inX0, zws_t 32 (by decide +kernel) rfl, tyX0_ok, nmX0, rfl, rfl, fun h => by cases h⟩
theorem fl_X6_103 : zFld RX6 103 0 0 := ⟨RX0, TX0, 11, rfl, by decide, inX0, zws_t 33 (by decide +kernel) rfl⟩
theorem fp_X6_103 : zFldP RX6 103 0 0 (.int) false := ⟨RX0, TX0, 11, tyX0, rfl, by decide, inX0, zws_t 33 (by decide +kernel) rfl, tyX0_ok, nmX0, rfl, rfl, fun h => by cases h⟩
theorem fl_X0_34 : zFld RX0 34 0 1 := ⟨RX0, TX0, 11, rfl, by decide, inX0, zws_t 34 (by decide +kernel) rfl⟩
theorem fp_X0_34 : zFldP RX0 34 0 1 (.int) false := ⟨RX0, TX0, 11, tyX0, rfl, by decide, inX0, zws_t 34 (by decide +kernel) rfl, tyX0_ok, nmX0, rfl, rfl, fun h => by cases h⟩
theorem fl_X4_100 : zFld RX4 100 0 1 := ⟨RX0, TX0, 11, rfl, by decide, inX0, zws_t 35 (by decide +kernel) rfl⟩
theorem fp_X4_100 : zFldP RX4 100 0 1 (.int) false := ⟨RX0, TX0, 11, tyX0, rfl, by decide, inX0, zws_t 35 (by decide +kernel) rfl, tyX0_ok, nmX0, rfl, rfl, fun h => by cases h⟩
theorem fl_X6_106 : zFld RX6 106 0 1 := ⟨RX0, TX0, 11, rfl, by decide, inX0, zws_t 36 (by decide +kernel) rfl⟩
theorem fp_X6_106 : zFldP RX6 106 0 1 (.int) false := ⟨RX0, TX0, 11, tyX0, rfl, by decide, inX0, zws_t 36 (by decide +kernel) rfl, tyX0_ok, nmX0, rfl, rfl, fun h => by cases h⟩
theorem fl_X0_37 : zFld RX0 37 0 2 := ⟨RX0, TX0, 11, rfl, by decide, inX0, zws_t 37 (by decide +kernel) rfl⟩
theorem fp_X0_37 : zFldP RX0 37 0 2 (.int) false := ⟨RX0, TX0, 11, tyX0, rfl, by decide, inX0, zws_t 37 (by decide +kernel) rfl, tyX0_ok, nmX0, rfl, rfl, fun h => by cases h⟩
theorem fl_X6_109 : zFld RX6 109 0 2 := ⟨RX0, TX0, 11, rfl, by decide, inX0, zws_t 38 (by decide +kernel) rfl⟩
theorem fp_X6_109 : zFldP RX6 109 0 2 (.int) false := ⟨RX0, TX0, 11, tyX0, rfl, by decide, inX0, zws_t 38 (by decide +kernel) rfl, tyX0_ok, nmX0, rfl, rfl, fun h => by cases h⟩
theorem fl_X0_40 : zFld RX0 40 0 3 := ⟨RX0, TX0, 11, rfl, by decide, inX0, zws_t 39 (by decide +kernel) rfl⟩
theorem fp_X0_40 : zFldP RX0 40 0 3 (.int) false := ⟨RX0, TX0, 11, tyX0, rfl, by decide, inX0, zws_t 39 (by decide +kernel) rfl, tyX0_ok, nmX0, rfl, rfl, fun h => by cases h⟩
theorem fl_X6_112 : zFld RX6 112 0 3 := ⟨RX0, TX0, 11, rfl, by decide, inX0, zws_t 40 (by decide +kernel) rfl⟩
theorem fp_X6_112 : zFldP RX6 112 0 3 (.int) false := ⟨RX0, TX0, 11, tyX0, rfl, by decide, inX0, zws_t 40 (by decide +kernel) rfl, tyX0_ok, nmX0, rfl, rfl, fun h => by cases h⟩
theorem fl_X0_43 : zFld RX0 43 0 4 := ⟨RX0, TX0, 11, rfl, by decide, inX0, zws_t 41 (by decide +kernel) rfl⟩
theorem fp_X0_43 : zFldP RX0 43 0 4 (.int) false := ⟨RX0, TX0, 11, tyX0, rfl, by decide, inX0, zws_t 41 (by decide +kernel) rfl, tyX0_ok, nmX0, rfl, rfl, fun h => by cases h⟩
theorem fl_X6_194 : zFld RX6 194 0 4 := ⟨RX0, TX0, 11, rfl, by decide, inX0, zws_t 42 (by decide +kernel) rfl⟩
theorem fp_X6_194 : zFldP RX6 194 0 4 (.int) false := ⟨RX0, TX0, 11, tyX0, rfl, by decide, inX0, zws_t 42 (by decide +kernel) rfl, tyX0_ok, nmX0, rfl, rfl, fun h => by cases h⟩
theorem fl_X0_9 : zFld RX0 9 0 5 := ⟨RX0, TX0, 11, rfl, by decide, inX0, zws_t 43 (by decide +kernel) rfl⟩
theorem fp_X0_9 : zFldP RX0 9 0 5 (.array .int) true := ⟨RX0, TX0, 11, tyX0, rfl, by decide, inX0, zws_t 43 (by decide +kernel) rfl, tyX0_ok, nmX0, rfl, rfl, fun _ => rfl⟩
theorem fl_X4_82 : zFld RX4 82 0 5 := ⟨RX0, TX0, 11, rfl, by decide, inX0, zws_t 44 (by decide +kernel) rfl⟩
theorem fl_X6_125 : zFld RX6 125 0 5 := ⟨RX0, TX0, 11, rfl, by decide, inX0, zws_t 45 (by decide +kernel) rfl⟩
theorem fl_X0_15 : zFld RX0 15 0 6 := ⟨RX0, TX0, 11, rfl, by decide, inX0, zws_t 46 (by decide +kernel) rfl⟩
theorem fp_X0_15 : zFldP RX0 15 0 6 (.array .int) true := ⟨RX0, TX0, 11, tyX0, rfl, by decide, inX0, zws_t 46 (by decide +kernel) rfl, tyX0_ok, nmX0, rfl, rfl, fun _ => rfl⟩
theorem fl_X4_88 : zFld RX4 88 0 6 := ⟨RX0, TX0, 11, rfl, by decide, inX0, zws_t 47 (by decide +kernel) rfl⟩
theorem fl_X6_128 : zFld RX6 128 0 6 := ⟨RX0, TX0, 11, rfl, by decide, inX0, zws_t 48 (by decide +kernel) rfl⟩
theorem fl_X0_18 : zFld RX0 18 0 7 := ⟨RX0, TX0, 11, rfl, by decide, inX0, zws_t 49 (by decide +kernel) rfl⟩
theorem fp_X0_18 : zFldP RX0 18 0 7 (.array .int) true := ⟨RX0, TX0, 11, tyX0, rfl, by decide, inX0, zws_t 49 (by decide +kernel) rfl, tyX0_ok, nmX0, rfl, rfl, fun _ => rfl⟩
theorem fl_X2_44 : zFld RX2 44 0 7 := ⟨RX0, TX0, 11, rfl, by decide, inX0, zws_t 50 (by decide +kernel) rfl⟩
theorem fl_X4_94 : zFld RX4 94 0 7 := ⟨RX0, TX0, 11, rfl, by decide, inX0, zws_t 51 (by decide +kernel) rfl⟩
theorem fl_X6_131 : zFld RX6 131 0 7 := ⟨RX0, TX0, 11, rfl, by decide, inX0, zws_t 52 (by decide +kernel) rfl⟩
theorem fl_X0_21 : zFld RX0 21 0 8 := ⟨RX0, TX0, 11, rfl, by decide, inX0, zws_t 53 (by decide +kernel) rfl⟩
theorem fp_X0_21 : zFldP RX0 21 0 8 (.array .int) true := ⟨RX0, TX0, 11, tyX0, rfl, by decide, inX0, zws_t 53 (by decide +kernel) rfl, tyX0_ok, nmX0, rfl, rfl, fun _ => rfl⟩
theorem fl_X4_103 : zFld RX4 103 0 8 := ⟨RX0, TX0, 11, rfl, by decide, inX0, zws_t 54 (by decide +kernel) rfl⟩
theorem fl_X6_144 : zFld RX6 144 0 8 := ⟨RX0, TX0, 11, rfl, by decide, inX0, zws_t 55 (by decide +kernel) rfl⟩
theorem fl_X0_24 : zFld RX0 24 0 9 := ⟨RX0, TX0, 11, rfl, by decide, inX0, zws_t 56 (by decide +kernel) rfl⟩
theorem fp_X0_24 : zFldP RX0 24 0 9 (.array .int) true := ⟨RX0, TX0, 11, tyX0, rfl, by decide, inX0, zws_t 56 (by decide +kernel) rfl, tyX0_ok, nmX0, rfl, rfl, fun _ => rfl⟩
theorem fl_X4_106 : zFld RX4 106 0 9 := ⟨RX0, TX0, 11, rfl, by decide, inX0, zws_t 57 (by decide +kernel) rfl⟩
theorem fl_X6_147 : zFld RX6 147 0 9 := ⟨RX0, TX0, 11, rfl, by decide, inX0, zws_t 58 (by decide +kernel) rfl⟩
theorem fl_X0_27 : zFld RX0 27 0 10 := ⟨RX0, TX0, 11, rfl, by decide, inX0, zws_t 59 (by decide +kernel) rfl⟩
theorem fp_X0_27 : zFldP RX0 27 0 10 (.array .int) true := ⟨RX0, TX0, 11, tyX0, rfl, by decide, inX0, zws_t 59 (by decide +kernel) rfl, tyX0_ok, nmX0, rfl, rfl, fun _ => rfl⟩
theorem fl_X4_112 : zFld RX4 112 0 10 := ⟨RX0, TX0, 11, rfl, by decide, inX0, zws_t 60 (by decide +kernel) rfl⟩
theorem fl_X6_156 : zFld RX6 156 0 10 := ⟨RX0, TX0, 11, rfl, by decide, inX0, zws_t 61 (by decide +kernel) rfl⟩
theorem fl_X4_9 : zFld RX4 9 4 0 := ⟨RX4, TX4, 11, rfl, by decide, inX4, zws_t 95 (by decide +kernel) rfl⟩
theorem fp_X4_9 : zFldP RX4 9 4 0 (.array .int) true := ⟨RX4, TX4, 11, tyX4, rfl, by decide, inX4, zws_t 95 (by decide +kernel) rfl, tyX4_ok, nmX4, rfl, rfl, fun _ => rfl⟩
theorem fl_X6_80 : zFld RX6 80 4 0 := ⟨RX4, TX4, 11, rfl, by decide, inX4, zws_t 96 (by decide +kernel) rfl⟩
theorem fl_X6_77 : zFld RX6 77 4 1 := ⟨RX4, TX4, 11, rfl, by decide, inX4, zws_t 97 (by decide +kernel) rfl⟩
theorem fp_X6_77 : zFldP RX6 77 4 1 (.int) false := ⟨RX4, TX4, 11, tyX4, rfl, by decide, inX4, zws_t 97 (by decide +kernel) rfl, tyX4_ok, nmX4, rfl, rfl, fun h => by cases h⟩
theorem fl_X4_52 : zFld RX4 52 4 1 := ⟨RX4, TX4, 11, rfl, by decide, inX4, zws_t 98 (by decide +kernel) rfl⟩
theorem fp_X4_52 : zFldP RX4 52 4 1 (.int) false := ⟨RX4, TX4, 11, tyX4, rfl, by decide, inX4, zws_t 98 (by decide +kernel) rfl, tyX4_ok, nmX4, rfl, rfl, fun h => by cases h⟩
theorem fl_X4_29 : zFld RX4 29 4 2 := ⟨RX4, TX4, 11, rfl, by decide, inX4, zws_t 99 (by decide +kernel) rfl⟩
theorem fp_X4_29 : zFldP RX4 29 4 2 (.int) false := ⟨RX4, TX4, 11, tyX4, rfl, by decide, inX4, zws_t 99 (by decide +kernel) rfl, tyX4_ok, nmX4, rfl, rfl, fun h => by cases h⟩
theorem fl_X6_87 : zFld RX6 87 4 2 := ⟨RX4, TX4, 11, rfl, by decide, inX4, zws_t 100 (by decide +kernel) rfl⟩
theorem fp_X6_87 : zFldP RX6 87 4 2 (.int) false := ⟨RX4, TX4, 11, tyX4, rfl, by decide, inX4, zws_t 100 (by decide +kernel) rfl, tyX4_ok, nmX4, rfl, rfl, fun h => by cases h⟩
theorem fl_X4_59 : zFld RX4 59 4 3 := ⟨RX4, TX4, 11, rfl, by decide, inX4, zws_t 101 (by decide +kernel) rfl⟩
theorem fp_X4_59 : zFldP RX4 59 4 3 (.int) false := ⟨RX4, TX4, 11, tyX4, rfl, by decide, inX4, zws_t 101 (by decide +kernel) rfl, tyX4_ok, nmX4, rfl, rfl, fun h => by cases h⟩
theorem fl_X6_90 : zFld RX6 90 4 3 := ⟨RX4, TX4, 11, rfl, by decide, inX4, zws_t 102 (by decide +kernel) rfl⟩
theorem fp_X6_90 : zFldP RX6 90 4 3 (.int) false := ⟨RX4, TX4, 11, tyX4, rfl, by decide, inX4, zws_t 102 (by decide +kernel) rfl, tyX4_ok, nmX4, rfl, rfl, fun h => by cases h⟩
theorem fl_X4_18 : zFld RX4 18 4 4 := ⟨RX4, TX4, 11, rfl, by decide, inX4, zws_t 103 (by decide +kernel) rfl⟩
theorem fp_X4_18 : zFldP RX4 18 4 4 (.object "HueLease$Books") true := ⟨RX4, TX4, 11, tyX4, rfl, by decide, inX4, zws_t 103 (by decide +kernel) rfl, tyX4_ok, nmX4, rfl, rfl, fun _ => rfl⟩
theorem fl_X6_93 : zFld RX6 93 4 4 := ⟨RX4, TX4, 11, rfl, by decide, inX4, zws_t 104 (by decide +kernel) rfl⟩
theorem fl_X4_22 : zFld RX4 22 4 5 := ⟨RX4, TX4, 11, rfl, by decide, inX4, zws_t 105 (by decide +kernel) rfl⟩
theorem fp_X4_22 : zFldP RX4 22 4 5 (.object "HueLease$Books") true := ⟨RX4, TX4, 11, tyX4, rfl, by decide, inX4, zws_t 105 (by decide +kernel) rfl, tyX4_ok, nmX4, rfl, rfl, fun _ => rfl⟩
theorem fl_X4_33 : zFld RX4 33 4 6 := ⟨RX4, TX4, 11, rfl, by decide, inX4, zws_t 106 (by decide +kernel) rfl⟩
theorem fp_X4_33 : zFldP RX4 33 4 6 (.int) false := ⟨RX4, TX4, 11, tyX4, rfl, by decide, inX4, zws_t 106 (by decide +kernel) rfl, tyX4_ok, nmX4, rfl, rfl, fun h => by cases h⟩
theorem fl_X4_36 : zFld RX4 36 4 7 := ⟨RX4, TX4, 11, rfl, by decide, inX4, zws_t 107 (by decide +kernel) rfl⟩
theorem fp_X4_36 : zFldP RX4 36 4 7 (.int) false := ⟨RX4, TX4, 11, tyX4, rfl, by decide, inX4, zws_t 107 (by decide +kernel) rfl, tyX4_ok, nmX4, rfl, rfl, fun h => by cases h⟩
theorem fl_X4_43 : zFld RX4 43 4 8 := ⟨RX4, TX4, 11, rfl, by decide, inX4, zws_t 108 (by decide +kernel) rfl⟩
theorem fp_X4_43 : zFldP RX4 43 4 8 (.int) false := ⟨RX4, TX4, 11, tyX4, rfl, by decide, inX4, zws_t 108 (by decide +kernel) rfl, tyX4_ok, nmX4, rfl, rfl, fun h => by cases h⟩
theorem fl_X4_66 : zFld RX4 66 4 9 := ⟨RX4, TX4, 11, rfl, by decide, inX4, zws_t 109 (by decide +kernel) rfl⟩
theorem fp_X4_66 : zFldP RX4 66 4 9 (.int) false := ⟨RX4, TX4, 11, tyX4, rfl, by decide, inX4, zws_t 109 (by decide +kernel) rfl, tyX4_ok, nmX4, rfl, rfl, fun h => by cases h⟩
theorem fl_X4_91 : zFld RX4 91 4 10 := ⟨RX4, TX4, 11, rfl, by decide, inX4, zws_t 110 (by decide +kernel) rfl⟩
theorem fp_X4_91 : zFldP RX4 91 4 10 (.int) false := ⟨RX4, TX4, 11, tyX4, rfl, by decide, inX4, zws_t 110 (by decide +kernel) rfl, tyX4_ok, nmX4, rfl, rfl, fun h => by cases h⟩
theorem fl_X1_35 : zFld RX1 35 1 0 := ⟨RX1, TX1, 4, rfl, by decide, inX1, zws_t 141 (by decide +kernel) rfl⟩
theorem fp_X1_35 : zFldP RX1 35 1 0 (.int) false := ⟨RX1, TX1, 4, tyX1, rfl, by decide, inX1, zws_t 141 (by decide +kernel) rfl, tyX1_ok, nmX1, rfl, rfl, fun h => by cases h⟩
theorem fl_X6_100 : zFld RX6 100 1 0 := ⟨RX1, TX1, 4, rfl, by decide, inX1, zws_t 142 (by decide +kernel) rfl⟩
theorem fp_X6_100 : zFldP RX6 100 1 0 (.int) false := ⟨RX1, TX1, 4, tyX1, rfl, by decide, inX1, zws_t 142 (by decide +kernel) rfl, tyX1_ok, nmX1, rfl, rfl, fun h => by cases h⟩
theorem fl_X1_9 : zFld RX1 9 1 1 := ⟨RX1, TX1, 4, rfl, by decide, inX1, zws_t 143 (by decide +kernel) rfl⟩
theorem fp_X1_9 : zFldP RX1 9 1 1 (.array .int) true := ⟨RX1, TX1, 4, tyX1, rfl, by decide, inX1, zws_t 143 (by decide +kernel) rfl, tyX1_ok, nmX1, rfl, rfl, fun _ => rfl⟩
theorem fl_X6_243 : zFld RX6 243 1 1 := ⟨RX1, TX1, 4, rfl, by decide, inX1, zws_t 144 (by decide +kernel) rfl⟩
theorem fl_X1_15 : zFld RX1 15 1 2 := ⟨RX1, TX1, 4, rfl, by decide, inX1, zws_t 145 (by decide +kernel) rfl⟩
theorem fp_X1_15 : zFldP RX1 15 1 2 (.array .int) true := ⟨RX1, TX1, 4, tyX1, rfl, by decide, inX1, zws_t 145 (by decide +kernel) rfl, tyX1_ok, nmX1, rfl, rfl, fun _ => rfl⟩
theorem fl_X6_246 : zFld RX6 246 1 2 := ⟨RX1, TX1, 4, rfl, by decide, inX1, zws_t 146 (by decide +kernel) rfl⟩
theorem fl_X1_18 : zFld RX1 18 1 3 := ⟨RX1, TX1, 4, rfl, by decide, inX1, zws_t 147 (by decide +kernel) rfl⟩
theorem fp_X1_18 : zFldP RX1 18 1 3 (.array .int) true := ⟨RX1, TX1, 4, tyX1, rfl, by decide, inX1, zws_t 147 (by decide +kernel) rfl, tyX1_ok, nmX1, rfl, rfl, fun _ => rfl⟩
theorem fl_X6_248 : zFld RX6 248 1 3 := ⟨RX1, TX1, 4, rfl, by decide, inX1, zws_t 148 (by decide +kernel) rfl⟩
theorem fl_X2_25 : zFld RX2 25 2 0 := ⟨RX2, TX2, 6, rfl, by decide, inX2, zws_t 164 (by decide +kernel) rfl⟩
theorem fp_X2_25 : zFldP RX2 25 2 0 (.int) false := ⟨RX2, TX2, 6, tyX2, rfl, by decide, inX2, zws_t 164 (by decide +kernel) rfl, tyX2_ok, nmX2, rfl, rfl, fun h => by cases h⟩
theorem fl_X6_208 : zFld RX6 208 2 0 := ⟨RX2, TX2, 6, rfl, by decide, inX2, zws_t 165 (by decide +kernel) rfl⟩
theorem fp_X6_208 : zFldP RX6 208 2 0 (.int) false := ⟨RX2, TX2, 6, tyX2, rfl, by decide, inX2, zws_t 165 (by decide +kernel) rfl, tyX2_ok, nmX2, rfl, rfl, fun h => by cases h⟩
theorem fl_X2_28 : zFld RX2 28 2 1 := ⟨RX2, TX2, 6, rfl, by decide, inX2, zws_t 166 (by decide +kernel) rfl⟩
theorem fp_X2_28 : zFldP RX2 28 2 1 (.int) false := ⟨RX2, TX2, 6, tyX2, rfl, by decide, inX2, zws_t 166 (by decide +kernel) rfl, tyX2_ok, nmX2, rfl, rfl, fun h => by cases h⟩
theorem fl_X6_214 : zFld RX6 214 2 1 := ⟨RX2, TX2, 6, rfl, by decide, inX2, zws_t 167 (by decide +kernel) rfl⟩
theorem fp_X6_214 : zFldP RX6 214 2 1 (.int) false := ⟨RX2, TX2, 6, tyX2, rfl, by decide, inX2, zws_t 167 (by decide +kernel) rfl, tyX2_ok, nmX2, rfl, rfl, fun h => by cases h⟩
theorem fl_X2_9 : zFld RX2 9 2 2 := ⟨RX2, TX2, 6, rfl, by decide, inX2, zws_t 168 (by decide +kernel) rfl⟩
theorem fp_X2_9 : zFldP RX2 9 2 2 (.array .int) true := ⟨RX2, TX2, 6, tyX2, rfl, by decide, inX2, zws_t 168 (by decide +kernel) rfl, tyX2_ok, nmX2, rfl, rfl, fun _ => rfl⟩
theorem fl_X6_211 : zFld RX6 211 2 2 := ⟨RX2, TX2, 6, rfl, by decide, inX2, zws_t 169 (by decide +kernel) rfl⟩
theorem fl_X2_15 : zFld RX2 15 2 3 := ⟨RX2, TX2, 6, rfl, by decide, inX2, zws_t 170 (by decide +kernel) rfl⟩
theorem fp_X2_15 : zFldP RX2 15 2 3 (.array .int) true := ⟨RX2, TX2, 6, tyX2, rfl, by decide, inX2, zws_t 170 (by decide +kernel) rfl, tyX2_ok, nmX2, rfl, rfl, fun _ => rfl⟩
theorem fl_X2_18 : zFld RX2 18 2 4 := ⟨RX2, TX2, 6, rfl, by decide, inX2, zws_t 171 (by decide +kernel) rfl⟩
theorem fp_X2_18 : zFldP RX2 18 2 4 (.int) false := ⟨RX2, TX2, 6, tyX2, rfl, by decide, inX2, zws_t 171 (by decide +kernel) rfl, tyX2_ok, nmX2, rfl, rfl, fun h => by cases h⟩
theorem fl_X2_22 : zFld RX2 22 2 5 := ⟨RX2, TX2, 6, rfl, by decide, inX2, zws_t 172 (by decide +kernel) rfl⟩
theorem fp_X2_22 : zFldP RX2 22 2 5 (.int) false := ⟨RX2, TX2, 6, tyX2, rfl, by decide, inX2, zws_t 172 (by decide +kernel) rfl, tyX2_ok, nmX2, rfl, rfl, fun h => by cases h⟩
theorem fl_X5_49 : zFld RX5 49 5 0 := ⟨RX5, TX5, 5, rfl, by decide, inX5, zws_t 194 (by decide +kernel) rfl⟩
theorem fp_X5_49 : zFldP RX5 49 5 0 (.int) false := ⟨RX5, TX5, 5, tyX5, rfl, by decide, inX5, zws_t 194 (by decide +kernel) rfl, tyX5_ok, nmX5, rfl, rfl, fun h => by cases h⟩
theorem fl_X6_233 : zFld RX6 233 5 0 := ⟨RX5, TX5, 5, rfl, by decide, inX5, zws_t 195 (by decide +kernel) rfl⟩
theorem fp_X6_233 : zFldP RX6 233 5 0 (.int) false := ⟨RX5, TX5, 5, tyX5, rfl, by decide, inX5, zws_t 195 (by decide +kernel) rfl, tyX5_ok, nmX5, rfl, rfl, fun h => by cases h⟩
theorem fl_X5_67 : zFld RX5 67 5 1 := ⟨RX5, TX5, 5, rfl, by decide, inX5, zws_t 196 (by decide +kernel) rfl⟩
theorem fp_X5_67 : zFldP RX5 67 5 1 (.int) false := ⟨RX5, TX5, 5, tyX5, rfl, by decide, inX5, zws_t 196 (by decide +kernel) rfl, tyX5_ok, nmX5, rfl, rfl, fun h => by cases h⟩
theorem fl_X6_236 : zFld RX6 236 5 1 := ⟨RX5, TX5, 5, rfl, by decide, inX5, zws_t 197 (by decide +kernel) rfl⟩
theorem fp_X6_236 : zFldP RX6 236 5 1 (.int) false := ⟨RX5, TX5, 5, tyX5, rfl, by decide, inX5, zws_t 197 (by decide +kernel) rfl, tyX5_ok, nmX5, rfl, rfl, fun h => by cases h⟩
theorem fl_X5_18 : zFld RX5 18 5 2 := ⟨RX5, TX5, 5, rfl, by decide, inX5, zws_t 198 (by decide +kernel) rfl⟩
theorem fp_X5_18 : zFldP RX5 18 5 2 (.int) false := ⟨RX5, TX5, 5, tyX5, rfl, by decide, inX5, zws_t 198 (by decide +kernel) rfl, tyX5_ok, nmX5, rfl, rfl, fun h => by cases h⟩
theorem fl_X5_22 : zFld RX5 22 5 3 := ⟨RX5, TX5, 5, rfl, by decide, inX5, zws_t 199 (by decide +kernel) rfl⟩
theorem fp_X5_22 : zFldP RX5 22 5 3 (.int) false := ⟨RX5, TX5, 5, tyX5, rfl, by decide, inX5, zws_t 199 (by decide +kernel) rfl, tyX5_ok, nmX5, rfl, rfl, fun h => by cases h⟩
theorem fl_X5_11 : zFld RX5 11 5 4 := ⟨RX5, TX5, 5, rfl, by decide, inX5, zws_t 200 (by decide +kernel) rfl⟩
theorem fp_X5_11 : zFldP RX5 11 5 4 (.array (.object "HueLease$Books")) true := ⟨RX5, TX5, 5, tyX5, rfl, by decide, inX5, zws_t 200 (by decide +kernel) rfl, tyX5_ok, nmX5, rfl, rfl, fun _ => rfl⟩
theorem fl_X3_19 : zFld RX3 19 3 0 := ⟨RX3, TX3, 3, rfl, by decide, inX3, zws_t 219 (by decide +kernel) rfl⟩
theorem fp_X3_19 : zFldP RX3 19 3 0 (.int) false := ⟨RX3, TX3, 3, tyX3, rfl, by decide, inX3, zws_t 219 (by decide +kernel) rfl, tyX3_ok, nmX3, rfl, rfl, fun h => by cases h⟩
theorem fl_X3_9 : zFld RX3 9 3 1 := ⟨RX3, TX3, 3, rfl, by decide, inX3, zws_t 220 (by decide +kernel) rfl⟩
theorem fp_X3_9 : zFldP RX3 9 3 1 (.int) false := ⟨RX3, TX3, 3, tyX3, rfl, by decide, inX3, zws_t 220 (by decide +kernel) rfl, tyX3_ok, nmX3, rfl, rfl, fun h => by cases h⟩
theorem fl_X6_269 : zFld RX6 269 3 1 := ⟨RX3, TX3, 3, rfl, by decide, inX3, zws_t 221 (by decide +kernel) rfl⟩
theorem fp_X6_269 : zFldP RX6 269 3 1 (.int) false := ⟨RX3, TX3, 3, tyX3, rfl, by decide, inX3, zws_t 221 (by decide +kernel) rfl, tyX3_ok, nmX3, rfl, rfl, fun h => by cases h⟩
theorem fl_X3_15 : zFld RX3 15 3 2 := ⟨RX3, TX3, 3, rfl, by decide, inX3, zws_t 222 (by decide +kernel) rfl⟩
theorem fp_X3_15 : zFldP RX3 15 3 2 (.array .int) true := ⟨RX3, TX3, 3, tyX3, rfl, by decide, inX3, zws_t 222 (by decide +kernel) rfl, tyX3_ok, nmX3, rfl, rfl, fun _ => rfl⟩
theorem fl_X6_270 : zFld RX6 270 3 2 := ⟨RX3, TX3, 3, rfl, by decide, inX3, zws_t 223 (by decide +kernel) rfl⟩
theorem fl_X6_10 : zFld RX6 10 6 0 := ⟨RX6, TX6, 12, rfl, by decide, inX6, zws_t 231 (by decide +kernel) rfl⟩
theorem fp_X6_10 : zFldP RX6 10 6 0 (.object "HueLease$Books") true := ⟨RX6, TX6, 12, tyX6, rfl, by decide, inX6, zws_t 231 (by decide +kernel) rfl, tyX6_ok, nmX6, rfl, rfl, fun _ => rfl⟩
theorem fl_X6_16 : zFld RX6 16 6 1 := ⟨RX6, TX6, 12, rfl, by decide, inX6, zws_t 232 (by decide +kernel) rfl⟩
theorem fp_X6_16 : zFldP RX6 16 6 1 (.object "HueLease$Books") true := ⟨RX6, TX6, 12, tyX6, rfl, by decide, inX6, zws_t 232 (by decide +kernel) rfl, tyX6_ok, nmX6, rfl, rfl, fun _ => rfl⟩
theorem fl_X6_19 : zFld RX6 19 6 2 := ⟨RX6, TX6, 12, rfl, by decide, inX6, zws_t 233 (by decide +kernel) rfl⟩
theorem fp_X6_19 : zFldP RX6 19 6 2 (.array (.object "HueLease$Books")) true := ⟨RX6, TX6, 12, tyX6, rfl, by decide, inX6, zws_t 233 (by decide +kernel) rfl, tyX6_ok, nmX6, rfl, rfl, fun _ => rfl⟩
theorem fl_X6_23 : zFld RX6 23 6 3 := ⟨RX6, TX6, 12, rfl, by decide, inX6, zws_t 234 (by decide +kernel) rfl⟩
theorem fp_X6_23 : zFldP RX6 23 6 3 (.array .boolean) true := ⟨RX6, TX6, 12, tyX6, rfl, by decide, inX6, zws_t 234 (by decide +kernel) rfl, tyX6_ok, nmX6, rfl, rfl, fun _ => rfl⟩
theorem fl_X6_27 : zFld RX6 27 6 4 := ⟨RX6, TX6, 12, rfl, by decide, inX6, zws_t 235 (by decide +kernel) rfl⟩
theorem fp_X6_27 : zFldP RX6 27 6 4 (.array (.object "HueLease$Books")) true := ⟨RX6, TX6, 12, tyX6, rfl, by decide, inX6, zws_t 235 (by decide +kernel) rfl, tyX6_ok, nmX6, rfl, rfl, fun _ => rfl⟩
theorem fl_X6_30 : zFld RX6 30 6 5 := ⟨RX6, TX6, 12, rfl, by decide, inX6, zws_t 236 (by decide +kernel) rfl⟩
theorem fp_X6_30 : zFldP RX6 30 6 5 (.array .int) true := ⟨RX6, TX6, 12, tyX6, rfl, by decide, inX6, zws_t 236 (by decide +kernel) rfl, tyX6_ok, nmX6, rfl, rfl, fun _ => rfl⟩
theorem fl_X6_37 : zFld RX6 37 6 6 := ⟨RX6, TX6, 12, rfl, by decide, inX6, zws_t 237 (by decide +kernel) rfl⟩
theorem fp_X6_37 : zFldP RX6 37 6 6 (.object "HueLease$Tape") true := ⟨RX6, TX6, 12, tyX6, rfl, by decide, inX6, zws_t 237 (by decide +kernel) rfl, tyX6_ok, nmX6, rfl, rfl, fun _ => rfl⟩
theorem fl_X6_44 : zFld RX6 44 6 7 := ⟨RX6, TX6, 12, rfl, by decide, inX6, zws_t 238 (by decide +kernel) rfl⟩
theorem fp_X6_44 : zFldP RX6 44 6 7 (.object "HueLease$Looks") true := ⟨RX6, TX6, 12, tyX6, rfl, by decide, inX6, zws_t 238 (by decide +kernel) rfl, tyX6_ok, nmX6, rfl, rfl, fun _ => rfl⟩
theorem fl_X6_51 : zFld RX6 51 6 8 := ⟨RX6, TX6, 12, rfl, by decide, inX6, zws_t 239 (by decide +kernel) rfl⟩
theorem fp_X6_51 : zFldP RX6 51 6 8 (.object "HueLease$Mixer") true := ⟨RX6, TX6, 12, tyX6, rfl, by decide, inX6, zws_t 239 (by decide +kernel) rfl, tyX6_ok, nmX6, rfl, rfl, fun _ => rfl⟩
theorem fl_X6_58 : zFld RX6 58 6 9 := ⟨RX6, TX6, 12, rfl, by decide, inX6, zws_t 240 (by decide +kernel) rfl⟩
theorem fp_X6_58 : zFldP RX6 58 6 9 (.object "HueLease$Weather") true := ⟨RX6, TX6, 12, tyX6, rfl, by decide, inX6, zws_t 240 (by decide +kernel) rfl, tyX6_ok, nmX6, rfl, rfl, fun _ => rfl⟩
theorem fl_X6_64 : zFld RX6 64 6 10 := ⟨RX6, TX6, 12, rfl, by decide, inX6, zws_t 241 (by decide +kernel) rfl⟩
theorem fp_X6_64 : zFldP RX6 64 6 10 (.array (.object "HueLease$Sheet")) true := ⟨RX6, TX6, 12, tyX6, rfl, by decide, inX6, zws_t 241 (by decide +kernel) rfl, tyX6_ok, nmX6, rfl, rfl, fun _ => rfl⟩
theorem fl_X6_68 : zFld RX6 68 6 11 := ⟨RX6, TX6, 12, rfl, by decide, inX6, zws_t 242 (by decide +kernel) rfl⟩
theorem fp_X6_68 : zFldP RX6 68 6 11 (.int) false := ⟨RX6, TX6, 12, tyX6, rfl, by decide, inX6, zws_t 242 (by decide +kernel) rfl, tyX6_ok, nmX6, rfl, rfl, fun h => by cases h⟩
theorem fl_X7_7 : zFld RX7 7 7 0 := ⟨RX7, TX7, 33, rfl, by decide, inX7, zws_t 760 (by decide +kernel) rfl⟩
theorem fp_X7_7 : zFldP RX7 7 7 0 (.array .int) true := ⟨RX7, TX7, 33, tyX7, rfl, by decide, inX7, zws_t 760 (by decide +kernel) rfl, tyX7_ok, nmX7, rfl, rfl, fun _ => rfl⟩
theorem fl_X7_142 : zFld RX7 142 7 1 := ⟨RX7, TX7, 33, rfl, by decide, inX7, zws_t 761 (by decide +kernel) rfl⟩
theorem fp_X7_142 : zFldP RX7 142 7 1 (.int) false := ⟨RX7, TX7, 33, tyX7, rfl, by decide, inX7, zws_t 761 (by decide +kernel) rfl, tyX7_ok, nmX7, rfl, rfl, fun h => by cases h⟩
theorem fl_X7_145 : zFld RX7 145 7 2 := ⟨RX7, TX7, 33, rfl, by decide, inX7, zws_t 762 (by decide +kernel) rfl⟩
theorem fp_X7_145 : zFldP RX7 145 7 2 (.int) false := ⟨RX7, TX7, 33, tyX7, rfl, by decide, inX7, zws_t 762 (by decide +kernel) rfl, tyX7_ok, nmX7, rfl, rfl, fun h => by cases h⟩
theorem fl_X7_13 : zFld RX7 13 7 3 := ⟨RX7, TX7, 33, rfl, by decide, inX7, zws_t 763 (by decide +kernel) rfl⟩
theorem fp_X7_13 : zFldP RX7 13 7 3 (.array .int) true := ⟨RX7, TX7, 33, tyX7, rfl, by decide, inX7, zws_t 763 (by decide +kernel) rfl, tyX7_ok, nmX7, rfl, rfl, fun _ => rfl⟩
theorem fl_X7_100 : zFld RX7 100 7 4 := ⟨RX7, TX7, 33, rfl, by decide, inX7, zws_t 764 (by decide +kernel) rfl⟩
theorem fp_X7_100 : zFldP RX7 100 7 4 (.int) false := ⟨RX7, TX7, 33, tyX7, rfl, by decide, inX7, zws_t 764 (by decide +kernel) rfl, tyX7_ok, nmX7, rfl, rfl, fun h => by cases h⟩
theorem fl_X7_121 : zFld RX7 121 7 5 := ⟨RX7, TX7, 33, rfl, by decide, inX7, zws_t 765 (by decide +kernel) rfl⟩
theorem fp_X7_121 : zFldP RX7 121 7 5 (.int) false := ⟨RX7, TX7, 33, tyX7, rfl, by decide, inX7, zws_t 765 (by decide +kernel) rfl, tyX7_ok, nmX7, rfl, rfl, fun h => by cases h⟩
theorem fl_X7_112 : zFld RX7 112 7 6 := ⟨RX7, TX7, 33, rfl, by decide, inX7, zws_t 766 (by decide +kernel) rfl⟩
theorem fp_X7_112 : zFldP RX7 112 7 6 (.int) false := ⟨RX7, TX7, 33, tyX7, rfl, by decide, inX7, zws_t 766 (by decide +kernel) rfl, tyX7_ok, nmX7, rfl, rfl, fun h => by cases h⟩
theorem fl_X7_107 : zFld RX7 107 7 7 := ⟨RX7, TX7, 33, rfl, by decide, inX7, zws_t 767 (by decide +kernel) rfl⟩
theorem fp_X7_107 : zFldP RX7 107 7 7 (.int) false := ⟨RX7, TX7, 33, tyX7, rfl, by decide, inX7, zws_t 767 (by decide +kernel) rfl, tyX7_ok, nmX7, rfl, rfl, fun h => by cases h⟩
theorem fl_X7_115 : zFld RX7 115 7 8 := ⟨RX7, TX7, 33, rfl, by decide, inX7, zws_t 768 (by decide +kernel) rfl⟩
theorem fp_X7_115 : zFldP RX7 115 7 8 (.int) false := ⟨RX7, TX7, 33, tyX7, rfl, by decide, inX7, zws_t 768 (by decide +kernel) rfl, tyX7_ok, nmX7, rfl, rfl, fun h => by cases h⟩
theorem fl_X7_16 : zFld RX7 16 7 9 := ⟨RX7, TX7, 33, rfl, by decide, inX7, zws_t 769 (by decide +kernel) rfl⟩
theorem fp_X7_16 : zFldP RX7 16 7 9 (.array .int) true := ⟨RX7, TX7, 33, tyX7, rfl, by decide, inX7, zws_t 769 (by decide +kernel) rfl, tyX7_ok, nmX7, rfl, rfl, fun _ => rfl⟩
theorem fl_X7_59 : zFld RX7 59 7 10 := ⟨RX7, TX7, 33, rfl, by decide, inX7, zws_t 770 (by decide +kernel) rfl⟩
theorem fp_X7_59 : zFldP RX7 59 7 10 (.int) false := ⟨RX7, TX7, 33, tyX7, rfl, by decide, inX7, zws_t 770 (by decide +kernel) rfl, tyX7_ok, nmX7, rfl, rfl, fun h => by cases h⟩
theorem fl_X7_139 : zFld RX7 139 7 11 := ⟨RX7, TX7, 33, rfl, by decide, inX7, zws_t 771 (by decide +kernel) rfl⟩
theorem fp_X7_139 : zFldP RX7 139 7 11 (.int) false := ⟨RX7, TX7, 33, tyX7, rfl, by decide, inX7, zws_t 771 (by decide +kernel) rfl, tyX7_ok, nmX7, rfl, rfl, fun h => by cases h⟩
theorem fl_X7_63 : zFld RX7 63 7 12 := ⟨RX7, TX7, 33, rfl, by decide, inX7, zws_t 772 (by decide +kernel) rfl⟩
theorem fp_X7_63 : zFldP RX7 63 7 12 (.int) false := ⟨RX7, TX7, 33, tyX7, rfl, by decide, inX7, zws_t 772 (by decide +kernel) rfl, tyX7_ok, nmX7, rfl, rfl, fun h => by cases h⟩
theorem fl_X7_69 : zFld RX7 69 7 13 := ⟨RX7, TX7, 33, rfl, by decide, inX7, zws_t 773 (by decide +kernel) rfl⟩
theorem fp_X7_69 : zFldP RX7 69 7 13 (.int) false := ⟨RX7, TX7, 33, tyX7, rfl, by decide, inX7, zws_t 773 (by decide +kernel) rfl, tyX7_ok, nmX7, rfl, rfl, fun h => by cases h⟩
theorem fl_X7_75 : zFld RX7 75 7 14 := ⟨RX7, TX7, 33, rfl, by decide, inX7, zws_t 774 (by decide +kernel) rfl⟩
theorem fp_X7_75 : zFldP RX7 75 7 14 (.int) false := ⟨RX7, TX7, 33, tyX7, rfl, by decide, inX7, zws_t 774 (by decide +kernel) rfl, tyX7_ok, nmX7, rfl, rfl, fun h => by cases h⟩
theorem fl_X7_66 : zFld RX7 66 7 15 := ⟨RX7, TX7, 33, rfl, by decide, inX7, zws_t 775 (by decide +kernel) rfl⟩
theorem fp_X7_66 : zFldP RX7 66 7 15 (.int) false := ⟨RX7, TX7, 33, tyX7, rfl, by decide, inX7, zws_t 775 (by decide +kernel) rfl, tyX7_ok, nmX7, rfl, rfl, fun h => by cases h⟩
theorem fl_X7_72 : zFld RX7 72 7 16 := ⟨RX7, TX7, 33, rfl, by decide, inX7, zws_t 776 (by decide +kernel) rfl⟩
theorem fp_X7_72 : zFldP RX7 72 7 16 (.int) false := ⟨RX7, TX7, 33, tyX7, rfl, by decide, inX7, zws_t 776 (by decide +kernel) rfl, tyX7_ok, nmX7, rfl, rfl, fun h => by cases h⟩
theorem fl_X7_82 : zFld RX7 82 7 17 := ⟨RX7, TX7, 33, rfl, by decide, inX7, zws_t 777 (by decide +kernel) rfl⟩
theorem fp_X7_82 : zFldP RX7 82 7 17 (.int) false := ⟨RX7, TX7, 33, tyX7, rfl, by decide, inX7, zws_t 777 (by decide +kernel) rfl, tyX7_ok, nmX7, rfl, rfl, fun h => by cases h⟩
theorem fl_X7_19 : zFld RX7 19 7 18 := ⟨RX7, TX7, 33, rfl, by decide, inX7, zws_t 778 (by decide +kernel) rfl⟩
theorem fp_X7_19 : zFldP RX7 19 7 18 (.array .int) true := ⟨RX7, TX7, 33, tyX7, rfl, by decide, inX7, zws_t 778 (by decide +kernel) rfl, tyX7_ok, nmX7, rfl, rfl, fun _ => rfl⟩
theorem fl_X7_22 : zFld RX7 22 7 19 := ⟨RX7, TX7, 33, rfl, by decide, inX7, zws_t 779 (by decide +kernel) rfl⟩
theorem fp_X7_22 : zFldP RX7 22 7 19 (.array .int) true := ⟨RX7, TX7, 33, tyX7, rfl, by decide, inX7, zws_t 779 (by decide +kernel) rfl, tyX7_ok, nmX7, rfl, rfl, fun _ => rfl⟩
theorem fl_X7_160 : zFld RX7 160 7 20 := ⟨RX7, TX7, 33, rfl, by decide, inX7, zws_t 780 (by decide +kernel) rfl⟩
theorem fp_X7_160 : zFldP RX7 160 7 20 (.int) false := ⟨RX7, TX7, 33, tyX7, rfl, by decide, inX7, zws_t 780 (by decide +kernel) rfl, tyX7_ok, nmX7, rfl, rfl, fun h => by cases h⟩
theorem fl_X7_25 : zFld RX7 25 7 21 := ⟨RX7, TX7, 33, rfl, by decide, inX7, zws_t 781 (by decide +kernel) rfl⟩
theorem fp_X7_25 : zFldP RX7 25 7 21 (.array .int) true := ⟨RX7, TX7, 33, tyX7, rfl, by decide, inX7, zws_t 781 (by decide +kernel) rfl, tyX7_ok, nmX7, rfl, rfl, fun _ => rfl⟩
theorem fl_X7_215 : zFld RX7 215 7 22 := ⟨RX7, TX7, 33, rfl, by decide, inX7, zws_t 782 (by decide +kernel) rfl⟩
theorem fp_X7_215 : zFldP RX7 215 7 22 (.int) false := ⟨RX7, TX7, 33, tyX7, rfl, by decide, inX7, zws_t 782 (by decide +kernel) rfl, tyX7_ok, nmX7, rfl, rfl, fun h => by cases h⟩
theorem fl_X7_28 : zFld RX7 28 7 23 := ⟨RX7, TX7, 33, rfl, by decide, inX7, zws_t 783 (by decide +kernel) rfl⟩
theorem fp_X7_28 : zFldP RX7 28 7 23 (.array .int) true := ⟨RX7, TX7, 33, tyX7, rfl, by decide, inX7, zws_t 783 (by decide +kernel) rfl, tyX7_ok, nmX7, rfl, rfl, fun _ => rfl⟩
theorem fl_X7_31 : zFld RX7 31 7 24 := ⟨RX7, TX7, 33, rfl, by decide, inX7, zws_t 784 (by decide +kernel) rfl⟩
theorem fp_X7_31 : zFldP RX7 31 7 24 (.array .int) true := ⟨RX7, TX7, 33, tyX7, rfl, by decide, inX7, zws_t 784 (by decide +kernel) rfl, tyX7_ok, nmX7, rfl, rfl, fun _ => rfl⟩
theorem fl_X7_34 : zFld RX7 34 7 25 := ⟨RX7, TX7, 33, rfl, by decide, inX7, zws_t 785 (by decide +kernel) rfl⟩
theorem fp_X7_34 : zFldP RX7 34 7 25 (.array .int) true := ⟨RX7, TX7, 33, tyX7, rfl, by decide, inX7, zws_t 785 (by decide +kernel) rfl, tyX7_ok, nmX7, rfl, rfl, fun _ => rfl⟩
theorem fl_X7_148 : zFld RX7 148 7 26 := ⟨RX7, TX7, 33, rfl, by decide, inX7, zws_t 786 (by decide +kernel) rfl⟩
theorem fp_X7_148 : zFldP RX7 148 7 26 (.int) false := ⟨RX7, TX7, 33, tyX7, rfl, by decide, inX7, zws_t 786 (by decide +kernel) rfl, tyX7_ok, nmX7, rfl, rfl, fun h => by cases h⟩
theorem fl_X7_37 : zFld RX7 37 7 27 := ⟨RX7, TX7, 33, rfl, by decide, inX7, zws_t 787 (by decide +kernel) rfl⟩
theorem fp_X7_37 : zFldP RX7 37 7 27 (.array .int) true := ⟨RX7, TX7, 33, tyX7, rfl, by decide, inX7, zws_t 787 (by decide +kernel) rfl, tyX7_ok, nmX7, rfl, rfl, fun _ => rfl⟩
theorem fl_X7_40 : zFld RX7 40 7 28 := ⟨RX7, TX7, 33, rfl, by decide, inX7, zws_t 788 (by decide +kernel) rfl⟩
theorem fp_X7_40 : zFldP RX7 40 7 28 (.array .boolean) true := ⟨RX7, TX7, 33, tyX7, rfl, by decide, inX7, zws_t 788 (by decide +kernel) rfl, tyX7_ok, nmX7, rfl, rfl, fun _ => rfl⟩
theorem fl_X7_44 : zFld RX7 44 7 29 := ⟨RX7, TX7, 33, rfl, by decide, inX7, zws_t 789 (by decide +kernel) rfl⟩
theorem fp_X7_44 : zFldP RX7 44 7 29 (.array .int) true := ⟨RX7, TX7, 33, tyX7, rfl, by decide, inX7, zws_t 789 (by decide +kernel) rfl, tyX7_ok, nmX7, rfl, rfl, fun _ => rfl⟩
theorem fl_X7_47 : zFld RX7 47 7 30 := ⟨RX7, TX7, 33, rfl, by decide, inX7, zws_t 790 (by decide +kernel) rfl⟩
theorem fp_X7_47 : zFldP RX7 47 7 30 (.array .int) true := ⟨RX7, TX7, 33, tyX7, rfl, by decide, inX7, zws_t 790 (by decide +kernel) rfl, tyX7_ok, nmX7, rfl, rfl, fun _ => rfl⟩
theorem fl_X7_50 : zFld RX7 50 7 31 := ⟨RX7, TX7, 33, rfl, by decide, inX7, zws_t 791 (by decide +kernel) rfl⟩
theorem fp_X7_50 : zFldP RX7 50 7 31 (.array .int) true := ⟨RX7, TX7, 33, tyX7, rfl, by decide, inX7, zws_t 791 (by decide +kernel) rfl, tyX7_ok, nmX7, rfl, rfl, fun _ => rfl⟩
theorem fl_X7_264 : zFld RX7 264 7 32 := ⟨RX7, TX7, 33, rfl, by decide, inX7, zws_t 792 (by decide +kernel) rfl⟩
theorem fp_X7_264 : zFldP RX7 264 7 32 (.int) false := ⟨RX7, TX7, 33, tyX7, rfl, by decide, inX7, zws_t 792 (by decide +kernel) rfl, tyX7_ok, nmX7, rfl, rfl, fun h => by cases h⟩
def mX6_feed : zM := (RX6, cX6_feed, (some .int), 2, 2, 0, 0)
def mX6_within : zM := (RX6, cX6_within, (some .boolean), 3, 1, 0, 0)
def mX6_end : zM := (RX6, cX6_end, (some .int), 3, 2, 0, 0)
def mX6_text : zM := (RX6, cX6_text, (some .int), 3, 10, 0, 0)
def mX4_readLines : zM := (RX4, cX4_readLines, (some .int), 4, 9, 0, 0)
def mX0_takeFrom : zM := (RX0, cX0_takeFrom, none, 2, 2, 0, 0)
def mX4_readToken : zM := (RX4, cX4_readToken, (some .boolean), 1, 2, 0, 0)
def mX4_behind : zM := (RX4, cX4_behind, (some .int), 4, 1, 0, 0)
def mX4_refuse : zM := (RX4, cX4_refuse, (some .boolean), 3, 1, 0, 0)
def mX4_readLine : zM := (RX4, cX4_readLine, (some .boolean), 2, 8, 0, 0)
def mX4_lineOfName : zM := (RX4, cX4_lineOfName, (some .int), 1, 7, 0, 0)
def mX4_isName : zM := (RX4, cX4_isName, (some .boolean), 3, 6, 0, 0)
def mJ0_length_8abf5 : zM := (RJ0, cJ0_length_8abf5, (some .int), 1, 2, 0, 0)
def mJ0_coder_7d493 : zM := (RJ0, cJ0_coder_7d493, (some .byte), 1, 1, 0, 0)
def mJ0_charAt_5068e : zM := (RJ0, cJ0_charAt_5068e, (some .char), 2, 5, 0, 0)
def mJ0_isLatin1_aae02 : zM := (RJ0, cJ0_isLatin1_aae02, (some .boolean), 1, 1, 0, 0)
def mJ1_charAt_3b067 : zM := (RJ1, cJ1_charAt_3b067, (some .char), 2, 3, 0, 0)
def mJ0_checkIndex_df160 : zM := (RJ0, cJ0_checkIndex_df160, none, 2, 2, 0, 0)
def mJ3_checkIndex_8e157 : zM := (RJ3, cJ3_checkIndex_8e157, (some .int), 3, 1, 0, 0)
def mJ2_charAt_3b067 : zM := (RJ2, cJ2_charAt_3b067, (some .char), 2, 4, 0, 0)
def mJ2_checkIndex_2214a : zM := (RJ2, cJ2_checkIndex_2214a, none, 2, 3, 0, 0)
def mJ2_length_9d52b : zM := (RJ2, cJ2_length_9d52b, (some .int), 1, 1, 0, 0)
def mJ2_getChar_3b067 : zM := (RJ2, cJ2_getChar_3b067, (some .char), 2, 2, 0, 0)
def mX4_readLent : zM := (RX4, cX4_readLent, (some .boolean), 3, 4, 0, 0)
def mX4_readNumber : zM := (RX4, cX4_readNumber, (some .boolean), 3, 3, 0, 0)
def mX6_hasBit : zM := (RX6, cX6_hasBit, (some .boolean), 2, 1, 0, 0)
def mX4_readStop : zM := (RX4, cX4_readStop, (some .boolean), 1, 3, 0, 0)
def mX4_readOne : zM := (RX4, cX4_readOne, (some .boolean), 2, 4, 0, 0)
def mX4_readColour : zM := (RX4, cX4_readColour, (some .boolean), 4, 4, 0, 0)
def mX4_tellsOfNobody : zM := (RX4, cX4_tellsOfNobody, (some .boolean), 4, 3, 0, 0)
def mX0_hasOne : zM := (RX0, cX0_hasOne, (some .boolean), 2, 2, 0, 0)
def mX0_hasColour : zM := (RX0, cX0_hasColour, (some .boolean), 2, 2, 0, 0)
def mX6_fault : zM := (RX6, cX6_fault, (some .int), 1, 1, 0, 0)
def mX6_rule : zM := (RX6, cX6_rule, (some .int), 2, 3, 0, 0)
def mX0_inVats : zM := (RX0, cX0_inVats, (some .int), 1, 2, 0, 0)
def mX6_sum : zM := (RX6, cX6_sum, (some .int), 5, 1, 0, 0)
def mX0_heldByAll : zM := (RX0, cX0_heldByAll, (some .int), 1, 2, 0, 0)
def mX6_colour : zM := (RX6, cX6_colour, (some .int), 3, 3, 0, 0)
def mX0_rentOf : zM := (RX0, cX0_rentOf, (some .int), 2, 1, 0, 0)
def mX0_heldOf : zM := (RX0, cX0_heldOf, (some .int), 4, 1, 0, 0)
def mX6_one : zM := (RX6, cX6_one, (some .int), 3, 4, 0, 0)
def mX0_hueOfOne : zM := (RX0, cX0_hueOfOne, (some .int), 2, 3, 0, 0)
def mX0_hueOfDrops : zM := (RX0, cX0_hueOfDrops, (some .int), 8, 2, 0, 0)
def mX0_heldBy : zM := (RX0, cX0_heldBy, (some .int), 2, 2, 0, 0)
def mX0_rentOfDrops : zM := (RX0, cX0_rentOfDrops, (some .int), 5, 2, 0, 0)
def mX6_holds : zM := (RX6, cX6_holds, (some .int), 3, 3, 0, 0)
def mX6_off : zM := (RX6, cX6_off, (some .int), 3, 4, 0, 0)
def mX6_isHue : zM := (RX6, cX6_isHue, (some .boolean), 1, 2, 0, 0)
def mX6_offBetween : zM := (RX6, cX6_offBetween, (some .int), 2, 2, 0, 0)
def mJ9_abs_0f7a4 : zM := (RJ9, cJ9_abs_0f7a4, (some .int), 1, 1, 0, 0)
def mX6_alter : zM := (RX6, cX6_alter, (some .int), 5, 4, 0, 0)
def mX6_mostToAlter : zM := (RX6, cX6_mostToAlter, (some .int), 1, 1, 0, 0)
def mX6_pay : zM := (RX6, cX6_pay, (some .int), 5, 5, 0, 0)
def mX6_lend : zM := (RX6, cX6_lend, (some .int), 4, 4, 0, 0)
def mX0_giveLoan : zM := (RX0, cX0_giveLoan, (some .int), 5, 3, 0, 0)
def mX6_bring : zM := (RX6, cX6_bring, (some .int), 4, 3, 0, 0)
def mX0_takeBack : zM := (RX0, cX0_takeBack, none, 4, 2, 0, 0)
def mJ9_min_7cf53 : zM := (RJ9, cJ9_min_7cf53, (some .int), 2, 1, 0, 0)
def mX6_days : zM := (RX6, cX6_days, (some .int), 3, 6, 0, 0)
def mX0_passDays : zM := (RX0, cX0_passDays, none, 3, 5, 0, 0)
def mX0_passDay : zM := (RX0, cX0_passDay, none, 3, 4, 0, 0)
def mX0_passDayOfOne : zM := (RX0, cX0_passDayOfOne, none, 7, 3, 0, 0)
def mJ9_max_7cf53 : zM := (RJ9, cJ9_max_7cf53, (some .int), 2, 1, 0, 0)
def mX6_runs : zM := (RX6, cX6_runs, (some .int), 5, 5, 0, 0)
def mX6_ahead : zM := (RX6, cX6_ahead, (some .int), 4, 5, 0, 0)
def mX0_passDaysOfOne : zM := (RX0, cX0_passDaysOfOne, none, 4, 4, 0, 0)
def mX6_lasts : zM := (RX6, cX6_lasts, (some .int), 3, 4, 0, 0)
def mX6_mix : zM := (RX6, cX6_mix, (some .int), 4, 22, 0, 0)
def mX2_tryAll : zM := (RX2, cX2_tryAll, none, 5, 21, 0, 0)
def mX2_pickFrom (d : Nat) : zM := (RX2, cX2_pickFrom, none, 6, d, 0, 0)
def mX2_weigh : zM := (RX2, cX2_weigh, none, 4, 3, 0, 0)
def mX6_cheap : zM := (RX6, cX6_cheap, (some .int), 4, 22, 0, 0)
def mX6_more : zM := (RX6, cX6_more, (some .int), 6, 6, 0, 0)
def mX6_seizuresIfLent : zM := (RX6, cX6_seizuresIfLent, (some .int), 4, 5, 0, 0)
def mX6_swap : zM := (RX6, cX6_swap, (some .int), 7, 7, 0, 0)
def mX6_seizuresIfExchanged : zM := (RX6, cX6_seizuresIfExchanged, (some .int), 4, 6, 0, 0)
def mX6_shed : zM := (RX6, cX6_shed, (some .int), 6, 5, 0, 0)
def mX6_need : zM := (RX6, cX6_need, (some .int), 4, 5, 0, 0)
def mX6_keepsAll : zM := (RX6, cX6_keepsAll, (some .boolean), 5, 4, 0, 0)
def mX6_kind : zM := (RX6, cX6_kind, (some .int), 8, 6, 0, 0)
def mX6_luck : zM := (RX6, cX6_luck, (some .long), 6, 22, 0, 0)
def mX5_meanOver : zM := (RX5, cX5_meanOver, (some .long), 11, 21, 0, 0)
def mX5_summed (d : Nat) : zM := (RX5, cX5_summed, (some .long), 4, d, 0, 0)
def mX5_lookedAt : zM := (RX5, cX5_lookedAt, (some .long), 2, 4, 0, 0)
def mX5_passOn : zM := (RX5, cX5_passOn, none, 4, 5, 0, 0)
def mX5_commonDivisor : zM := (RX5, cX5_commonDivisor, (some .long), 11, 1, 0, 0)
def mX6_mean : zM := (RX6, cX6_mean, (some .long), 4, 22, 0, 0)
def mX6_see : zM := (RX6, cX6_see, (some .int), 4, 3, 0, 0)
def mX6_forget : zM := (RX6, cX6_forget, (some .int), 3, 2, 0, 0)
def mX6_kinds : zM := (RX6, cX6_kinds, (some .int), 2, 7, 0, 0)
def mX6_kindsLeft : zM := (RX6, cX6_kindsLeft, (some .int), 4, 6, 0, 0)
def mX1_fit : zM := (RX1, cX1_fit, (some .boolean), 4, 5, 0, 0)
def mX1_lastDay : zM := (RX1, cX1_lastDay, (some .int), 3, 2, 0, 0)
def mX1_fitOnDay : zM := (RX1, cX1_fitOnDay, (some .boolean), 4, 4, 0, 0)
def mX6_drops : zM := (RX6, cX6_drops, (some .int), 5, 6, 0, 0)
def mX6_ask : zM := (RX6, cX6_ask, (some .int), 9, 7, 0, 0)
def mJ6_bitCount_0f7a4 : zM := (RJ6, cJ6_bitCount_0f7a4, (some .int), 1, 1, 0, 0)
def mX6_worstLeft : zM := (RX6, cX6_worstLeft, (some .int), 7, 4, 0, 0)
def mX6_drift : zM := (RX6, cX6_drift, (some .int), 7, 5, 0, 0)
def mX6_keep : zM := (RX6, cX6_keep, (some .int), 3, 3, 0, 0)
def mX6_back : zM := (RX6, cX6_back, (some .int), 2, 3, 0, 0)
def mX6_sheet : zM := (RX6, cX6_sheet, (some .int), 4, 2, 0, 0)
def mX3_renew : zM := (RX3, cX3_renew, none, 4, 1, 0, 0)
def mX6_lay : zM := (RX6, cX6_lay, (some .int), 5, 2, 0, 0)
def mX3_cut : zM := (RX3, cX3_cut, (some .int), 2, 1, 0, 0)
def mX6_read : zM := (RX6, cX6_read, (some .int), 11, 5, 0, 0)
def mX3_faultAs : zM := (RX3, cX3_faultAs, (some .int), 2, 1, 0, 0)
def mX6_lendOnTrial : zM := (RX6, cX6_lendOnTrial, (some .boolean), 3, 4, 0, 0)
def mX6_torn : zM := (RX6, cX6_torn, (some .int), 1, 1, 0, 0)
def mX6_count : zM := (RX6, cX6_count, (some .int), 2, 2, 0, 0)
def mX7_feed : zM := (RX7, cX7_feed, (some .int), 2, 2, 0, 0)
def mX7_in : zM := (RX7, cX7_in, (some .boolean), 6, 1, 0, 0)
def mX7_end : zM := (RX7, cX7_end, (some .int), 3, 2, 0, 0)
def mX7_text : zM := (RX7, cX7_text, (some .int), 3, 7, 0, 0)
def mX7_step : zM := (RX7, cX7_step, none, 2, 2, 0, 0)
def mX7_byteAt : zM := (RX7, cX7_byteAt, (some .int), 2, 1, 0, 0)
def mX7_fails : zM := (RX7, cX7_fails, none, 2, 1, 0, 0)
def mX7_readLine : zM := (RX7, cX7_readLine, none, 2, 6, 0, 0)
def mX7_nameHere : zM := (RX7, cX7_nameHere, (some .int), 4, 2, 0, 0)
def mX7_readMore : zM := (RX7, cX7_readMore, none, 2, 5, 0, 0)
def mX7_readColour : zM := (RX7, cX7_readColour, none, 3, 4, 0, 0)
def mX7_number : zM := (RX7, cX7_number, (some .int), 4, 3, 0, 0)
def mX7_readLent : zM := (RX7, cX7_readLent, none, 3, 4, 0, 0)
def mX7_fault : zM := (RX7, cX7_fault, (some .int), 1, 1, 0, 0)
def mX7_rule : zM := (RX7, cX7_rule, (some .int), 2, 3, 0, 0)
def mX7_vatsOn : zM := (RX7, cX7_vatsOn, (some .int), 4, 1, 0, 0)
def mX7_heldByAll : zM := (RX7, cX7_heldByAll, (some .int), 4, 2, 0, 0)
def mX7_heldOn : zM := (RX7, cX7_heldOn, (some .int), 5, 1, 0, 0)
def mX7_colour : zM := (RX7, cX7_colour, (some .int), 5, 3, 0, 0)
def mX7_isColour : zM := (RX7, cX7_isColour, (some .boolean), 2, 2, 0, 0)
def mX7_rentOn : zM := (RX7, cX7_rentOn, (some .int), 4, 1, 0, 0)
def mX7_one : zM := (RX7, cX7_one, (some .int), 5, 3, 0, 0)
def mX7_isOne : zM := (RX7, cX7_isOne, (some .boolean), 2, 2, 0, 0)
def mX7_hueOn : zM := (RX7, cX7_hueOn, (some .int), 8, 2, 0, 0)
def mX7_holds : zM := (RX7, cX7_holds, (some .int), 3, 3, 0, 0)
def mX7_off : zM := (RX7, cX7_off, (some .int), 3, 3, 0, 0)
def mX7_offOf : zM := (RX7, cX7_offOf, (some .int), 2, 2, 0, 0)
def mX7_apart : zM := (RX7, cX7_apart, (some .int), 2, 1, 0, 0)
def mX7_alter : zM := (RX7, cX7_alter, (some .int), 5, 3, 0, 0)
def mX7_puts : zM := (RX7, cX7_puts, (some .int), 5, 1, 0, 0)
def mX7_pay : zM := (RX7, cX7_pay, (some .int), 4, 3, 0, 0)
def mX7_lend : zM := (RX7, cX7_lend, (some .int), 4, 4, 0, 0)
def mX7_lendsOn : zM := (RX7, cX7_lendsOn, (some .int), 6, 3, 0, 0)
def mX7_bring : zM := (RX7, cX7_bring, (some .int), 4, 3, 0, 0)
def mX7_bringsOn : zM := (RX7, cX7_bringsOn, none, 6, 1, 0, 0)
def mX7_days : zM := (RX7, cX7_days, (some .int), 4, 4, 0, 0)
def mX7_dayOn : zM := (RX7, cX7_dayOn, none, 6, 3, 0, 0)
def mX7_colourGoes : zM := (RX7, cX7_colourGoes, none, 8, 2, 0, 0)
def mX7_fadesOn : zM := (RX7, cX7_fadesOn, (some .int), 4, 1, 0, 0)
def mX7_runs : zM := (RX7, cX7_runs, (some .int), 4, 5, 0, 0)
def mX7_daysGo : zM := (RX7, cX7_daysGo, (some .int), 4, 4, 0, 0)
def mX7_copies : zM := (RX7, cX7_copies, none, 4, 1, 0, 0)
def mX7_ahead : zM := (RX7, cX7_ahead, (some .int), 4, 5, 0, 0)
def mX7_lasts : zM := (RX7, cX7_lasts, (some .int), 3, 4, 0, 0)
def mX7_mix : zM := (RX7, cX7_mix, (some .int), 7, 3, 0, 0)
def mX7_powerOf : zM := (RX7, cX7_powerOf, (some .int), 4, 1, 0, 0)
def mX7_areDrops : zM := (RX7, cX7_areDrops, (some .boolean), 7, 1, 0, 0)
def mX7_hueOfDrops : zM := (RX7, cX7_hueOfDrops, (some .int), 6, 1, 0, 0)
def mX7_cheap : zM := (RX7, cX7_cheap, (some .int), 8, 3, 0, 0)
def mX7_more : zM := (RX7, cX7_more, (some .int), 6, 5, 0, 0)
def mX7_swap : zM := (RX7, cX7_swap, (some .int), 7, 5, 0, 0)
def mX7_shed : zM := (RX7, cX7_shed, (some .int), 7, 5, 0, 0)
def mX7_need : zM := (RX7, cX7_need, (some .int), 4, 5, 0, 0)
def mX7_kind : zM := (RX7, cX7_kind, (some .int), 8, 5, 0, 0)
def mX7_luck : zM := (RX7, cX7_luck, (some .long), 6, 5, 0, 0)
def mX7_bySun : zM := (RX7, cX7_bySun, (some .long), 15, 4, 0, 0)
def mX7_lowest : zM := (RX7, cX7_lowest, (some .long), 11, 1, 0, 0)
def mX7_mean : zM := (RX7, cX7_mean, (some .long), 4, 5, 0, 0)
def mX7_see : zM := (RX7, cX7_see, (some .int), 4, 3, 0, 0)
def mX7_forget : zM := (RX7, cX7_forget, (some .int), 3, 2, 0, 0)
def mX7_kinds : zM := (RX7, cX7_kinds, (some .int), 2, 6, 0, 0)
def mX7_kindsOf : zM := (RX7, cX7_kindsOf, (some .int), 5, 5, 0, 0)
def mX7_isAsSeen : zM := (RX7, cX7_isAsSeen, (some .boolean), 5, 4, 0, 0)
def mX7_drops : zM := (RX7, cX7_drops, (some .int), 7, 5, 0, 0)
def mX7_ask : zM := (RX7, cX7_ask, (some .int), 12, 6, 0, 0)
def mX7_drift : zM := (RX7, cX7_drift, (some .int), 7, 4, 0, 0)
def mX7_keep : zM := (RX7, cX7_keep, (some .int), 3, 2, 0, 0)
def mX7_back : zM := (RX7, cX7_back, (some .int), 2, 2, 0, 0)
def mX7_sheet : zM := (RX7, cX7_sheet, (some .int), 5, 2, 0, 0)
def mX7_lay : zM := (RX7, cX7_lay, (some .int), 4, 2, 0, 0)
def mX7_read : zM := (RX7, cX7_read, (some .int), 9, 4, 0, 0)
def mX7_torn : zM := (RX7, cX7_torn, (some .int), 1, 1, 0, 0)
def mX7_count : zM := (RX7, cX7_count, (some .int), 5, 1, 0, 0)
theorem cv_L_13 : zCV RL 13 6 yX6_feed mX6_feed 1 := ⟨⟨TX6, 12, rfl⟩, zws_t 268 (by decide +kernel) rfl, zws_t 269 (by decide +kernel) rfl, zws_t 270 (by decide +kernel) rfl, zws_t 1 (by decide +kernel) rfl, zws_t 271 (by decide +kernel) rfl, by decide +kernel, by decide +kernel, by decide +kernel⟩
theorem cs_X6_73 : zCS RX6 73 yX6_within mX6_within 3 := ⟨zws_t 272 (by decide +kernel) rfl, zws_t 273 (by decide +kernel) rfl, zws_t 1 (by decide +kernel) rfl, zws_t 274 (by decide +kernel) rfl, by decide +kernel, by decide +kernel, by decide +kernel⟩
theorem cv_L_18 : zCV RL 18 6 yX6_end mX6_end 1 := ⟨⟨TX6, 12, rfl⟩, zws_t 275 (by decide +kernel) rfl, zws_t 276 (by decide +kernel) rfl, zws_t 277 (by decide +kernel) rfl, zws_t 1 (by decide +kernel) rfl, zws_t 278 (by decide +kernel) rfl, by decide +kernel, by decide +kernel, by decide +kernel⟩
theorem cv_L_22 : zCV RL 22 6 yX6_text mX6_text 0 := ⟨⟨TX6, 12, rfl⟩, zws_t 279 (by decide +kernel) rfl, zws_t 280 (by decide +kernel) rfl, zws_t 281 (by decide +kernel) rfl, zws_t 1 (by decide +kernel) rfl, zws_t 282 (by decide +kernel) rfl, by decide +kernel, by decide +kernel, by decide +kernel⟩
theorem cv_X6_83 : zCV RX6 83 4 yX4_readLines mX4_readLines 0 := ⟨⟨TX4, 11, rfl⟩, zws_t 283 (by decide +kernel) rfl, zws_t 284 (by decide +kernel) rfl, zws_t 285 (by decide +kernel) rfl, zws_t 3 (by decide +kernel) rfl, zws_t 286 (by decide +kernel) rfl, by decide +kernel, by decide +kernel, by decide +kernel⟩
theorem cv_X4_25 : zCV RX4 25 0 yX0_takeFrom mX0_takeFrom 1 := ⟨⟨TX0, 11, rfl⟩, zws_t 287 (by decide +kernel) rfl, zws_t 288 (by decide +kernel) rfl, zws_t 289 (by decide +kernel) rfl, zws_t 2 (by decide +kernel) rfl, zws_t 290 (by decide +kernel) rfl, by decide +kernel, by decide +kernel, by decide +kernel⟩
theorem cv_X4_39 : zCV RX4 39 4 yX4_readToken mX4_readToken 0 := ⟨⟨TX4, 11, rfl⟩, zws_t 294 (by decide +kernel) rfl, zws_t 296 (by decide +kernel) rfl, zws_s 0 (by decide +kernel) rfl, zws_t 3 (by decide +kernel) rfl, zws_t 297 (by decide +kernel) rfl, by decide +kernel, by decide +kernel, by decide +kernel⟩
theorem cn_X4_121 : zCN RX4 121 yX6_within mX6_within 3 := ⟨by decide +kernel, zws_t 273 (by decide +kernel) rfl, zws_t 1 (by decide +kernel) rfl, zws_t 274 (by decide +kernel) rfl, by decide +kernel, by decide +kernel, by decide +kernel⟩
theorem cv_X4_125 : zCV RX4 125 4 yX4_behind mX4_behind 2 := ⟨⟨TX4, 11, rfl⟩, zws_t 299 (by decide +kernel) rfl, zws_t 301 (by decide +kernel) rfl, zws_s 1 (by decide +kernel) rfl, zws_t 3 (by decide +kernel) rfl, zws_t 302 (by decide +kernel) rfl, by decide +kernel, by decide +kernel, by decide +kernel⟩
theorem cv_X4_55 : zCV RX4 55 4 yX4_refuse mX4_refuse 2 := ⟨⟨TX4, 11, rfl⟩, zws_t 303 (by decide +kernel) rfl, zws_t 305 (by decide +kernel) rfl, zws_s 2 (by decide +kernel) rfl, zws_t 3 (by decide +kernel) rfl, zws_t 306 (by decide +kernel) rfl, by decide +kernel, by decide +kernel, by decide +kernel⟩
theorem cv_X4_46 : zCV RX4 46 4 yX4_readLine mX4_readLine 0 := ⟨⟨TX4, 11, rfl⟩, zws_t 307 (by decide +kernel) rfl, zws_t 309 (by decide +kernel) rfl, zws_s 3 (by decide +kernel) rfl, zws_t 3 (by decide +kernel) rfl, zws_t 310 (by decide +kernel) rfl, by decide +kernel, by decide +kernel, by decide +kernel⟩
theorem cv_X4_62 : zCV RX4 62 4 yX4_lineOfName mX4_lineOfName 0 := ⟨⟨TX4, 11, rfl⟩, zws_t 311 (by decide +kernel) rfl, zws_t 313 (by decide +kernel) rfl, zws_s 4 (by decide +kernel) rfl, zws_t 3 (by decide +kernel) rfl, zws_t 314 (by decide +kernel) rfl, by decide +kernel, by decide +kernel, by decide +kernel⟩
theorem cv_X4_131 : zCV RX4 131 4 yX4_isName mX4_isName 1 := ⟨⟨TX4, 11, rfl⟩, zws_t 316 (by decide +kernel) rfl, zws_t 318 (by decide +kernel) rfl, zws_s 5 (by decide +kernel) rfl, zws_t 3 (by decide +kernel) rfl, zws_t 319 (by decide +kernel) rfl, by decide +kernel, by decide +kernel, by decide +kernel⟩
theorem cs_J0_495 : zCS RJ0 495 yJ1_charAt_3b067 mJ1_charAt_3b067 2 := ⟨zws_t 338 (by decide +kernel) rfl, zws_t 339 (by decide +kernel) rfl, zws_t 11 (by decide +kernel) rfl, zws_t 340 (by decide +kernel) rfl, by decide +kernel, by decide +kernel, by decide +kernel⟩
theorem cs_J1_9 : zCS RJ1 9 yJ0_checkIndex_df160 mJ0_checkIndex_df160 2 := ⟨zws_t 341 (by decide +kernel) rfl, zws_t 342 (by decide +kernel) rfl, zws_t 10 (by decide +kernel) rfl, zws_t 343 (by decide +kernel) rfl, by decide +kernel, by decide +kernel, by decide +kernel⟩
theorem cs_J0_1059 : zCS RJ0 1059 yJ3_checkIndex_8e157 mJ3_checkIndex_8e157 3 := ⟨zws_t 346 (by decide +kernel) rfl, zws_t 347 (by decide +kernel) rfl, zws_t 12 (by decide +kernel) rfl, zws_t 348 (by decide +kernel) rfl, by decide +kernel, by decide +kernel, by decide +kernel⟩
theorem cs_J0_498 : zCS RJ0 498 yJ2_charAt_3b067 mJ2_charAt_3b067 2 := ⟨zws_t 349 (by decide +kernel) rfl, zws_t 350 (by decide +kernel) rfl, zws_t 13 (by decide +kernel) rfl, zws_t 351 (by decide +kernel) rfl, by decide +kernel, by decide +kernel, by decide +kernel⟩
theorem cs_J2_67 : zCS RJ2 67 yJ2_checkIndex_2214a mJ2_checkIndex_2214a 2 := ⟨zws_t 352 (by decide +kernel) rfl, zws_t 353 (by decide +kernel) rfl, zws_t 13 (by decide +kernel) rfl, zws_t 354 (by decide +kernel) rfl, by decide +kernel, by decide +kernel, by decide +kernel⟩
theorem cs_J2_48 : zCS RJ2 48 yJ2_length_9d52b mJ2_length_9d52b 1 := ⟨zws_t 355 (by decide +kernel) rfl, zws_t 356 (by decide +kernel) rfl, zws_t 13 (by decide +kernel) rfl, zws_t 357 (by decide +kernel) rfl, by decide +kernel, by decide +kernel, by decide +kernel⟩
theorem cs_J2_414 : zCS RJ2 414 yJ0_checkIndex_df160 mJ0_checkIndex_df160 2 := ⟨zws_t 358 (by decide +kernel) rfl, zws_t 342 (by decide +kernel) rfl, zws_t 10 (by decide +kernel) rfl, zws_t 343 (by decide +kernel) rfl, by decide +kernel, by decide +kernel, by decide +kernel⟩
theorem cs_J2_71 : zCS RJ2 71 yJ2_getChar_3b067 mJ2_getChar_3b067 2 := ⟨zws_t 359 (by decide +kernel) rfl, zws_t 360 (by decide +kernel) rfl, zws_t 13 (by decide +kernel) rfl, zws_t 361 (by decide +kernel) rfl, by decide +kernel, by decide +kernel, by decide +kernel⟩
theorem cv_X4_69 : zCV RX4 69 4 yX4_readLent mX4_readLent 0 := ⟨⟨TX4, 11, rfl⟩, zws_t 373 (by decide +kernel) rfl, zws_t 375 (by decide +kernel) rfl, zws_s 6 (by decide +kernel) rfl, zws_t 3 (by decide +kernel) rfl, zws_t 376 (by decide +kernel) rfl, by decide +kernel, by decide +kernel, by decide +kernel⟩
theorem cv_X4_85 : zCV RX4 85 4 yX4_readNumber mX4_readNumber 1 := ⟨⟨TX4, 11, rfl⟩, zws_t 377 (by decide +kernel) rfl, zws_t 379 (by decide +kernel) rfl, zws_s 7 (by decide +kernel) rfl, zws_t 3 (by decide +kernel) rfl, zws_t 380 (by decide +kernel) rfl, by decide +kernel, by decide +kernel, by decide +kernel⟩
theorem cn_X4_109 : zCN RX4 109 yX6_hasBit mX6_hasBit 2 := ⟨by decide +kernel, zws_t 382 (by decide +kernel) rfl, zws_t 1 (by decide +kernel) rfl, zws_t 383 (by decide +kernel) rfl, by decide +kernel, by decide +kernel, by decide +kernel⟩
theorem cv_X4_97 : zCV RX4 97 4 yX4_readStop mX4_readStop 0 := ⟨⟨TX4, 11, rfl⟩, zws_t 384 (by decide +kernel) rfl, zws_t 386 (by decide +kernel) rfl, zws_s 8 (by decide +kernel) rfl, zws_t 3 (by decide +kernel) rfl, zws_t 387 (by decide +kernel) rfl, by decide +kernel, by decide +kernel, by decide +kernel⟩
theorem cv_X4_72 : zCV RX4 72 4 yX4_readOne mX4_readOne 0 := ⟨⟨TX4, 11, rfl⟩, zws_t 388 (by decide +kernel) rfl, zws_t 390 (by decide +kernel) rfl, zws_s 9 (by decide +kernel) rfl, zws_t 3 (by decide +kernel) rfl, zws_t 391 (by decide +kernel) rfl, by decide +kernel, by decide +kernel, by decide +kernel⟩
theorem cv_X4_75 : zCV RX4 75 4 yX4_readColour mX4_readColour 1 := ⟨⟨TX4, 11, rfl⟩, zws_t 392 (by decide +kernel) rfl, zws_t 394 (by decide +kernel) rfl, zws_s 10 (by decide +kernel) rfl, zws_t 3 (by decide +kernel) rfl, zws_t 395 (by decide +kernel) rfl, by decide +kernel, by decide +kernel, by decide +kernel⟩
theorem cv_X4_49 : zCV RX4 49 4 yX4_tellsOfNobody mX4_tellsOfNobody 0 := ⟨⟨TX4, 11, rfl⟩, zws_t 396 (by decide +kernel) rfl, zws_t 398 (by decide +kernel) rfl, zws_s 11 (by decide +kernel) rfl, zws_t 3 (by decide +kernel) rfl, zws_t 399 (by decide +kernel) rfl, by decide +kernel, by decide +kernel, by decide +kernel⟩
theorem cv_X4_115 : zCV RX4 115 0 yX0_hasOne mX0_hasOne 1 := ⟨⟨TX0, 11, rfl⟩, zws_t 400 (by decide +kernel) rfl, zws_t 401 (by decide +kernel) rfl, zws_t 402 (by decide +kernel) rfl, zws_t 2 (by decide +kernel) rfl, zws_t 403 (by decide +kernel) rfl, by decide +kernel, by decide +kernel, by decide +kernel⟩
theorem cn_X0_52 : zCN RX0 52 yX6_within mX6_within 3 := ⟨by decide +kernel, zws_t 273 (by decide +kernel) rfl, zws_t 1 (by decide +kernel) rfl, zws_t 274 (by decide +kernel) rfl, by decide +kernel, by decide +kernel, by decide +kernel⟩
theorem cv_X4_118 : zCV RX4 118 0 yX0_hasColour mX0_hasColour 1 := ⟨⟨TX0, 11, rfl⟩, zws_t 405 (by decide +kernel) rfl, zws_t 406 (by decide +kernel) rfl, zws_t 407 (by decide +kernel) rfl, zws_t 2 (by decide +kernel) rfl, zws_t 408 (by decide +kernel) rfl, by decide +kernel, by decide +kernel, by decide +kernel⟩
theorem cv_X6_96 : zCV RX6 96 0 yX0_takeFrom mX0_takeFrom 1 := ⟨⟨TX0, 11, rfl⟩, zws_t 409 (by decide +kernel) rfl, zws_t 288 (by decide +kernel) rfl, zws_t 289 (by decide +kernel) rfl, zws_t 2 (by decide +kernel) rfl, zws_t 290 (by decide +kernel) rfl, by decide +kernel, by decide +kernel, by decide +kernel⟩
theorem cv_L_27 : zCV RL 27 6 yX6_fault mX6_fault 0 := ⟨⟨TX6, 12, rfl⟩, zws_t 411 (by decide +kernel) rfl, zws_t 412 (by decide +kernel) rfl, zws_t 413 (by decide +kernel) rfl, zws_t 1 (by decide +kernel) rfl, zws_t 414 (by decide +kernel) rfl, by decide +kernel, by decide +kernel, by decide +kernel⟩
theorem cv_L_31 : zCV RL 31 6 yX6_rule mX6_rule 1 := ⟨⟨TX6, 12, rfl⟩, zws_t 415 (by decide +kernel) rfl, zws_t 416 (by decide +kernel) rfl, zws_t 417 (by decide +kernel) rfl, zws_t 1 (by decide +kernel) rfl, zws_t 418 (by decide +kernel) rfl, by decide +kernel, by decide +kernel, by decide +kernel⟩
theorem cv_X6_115 : zCV RX6 115 0 yX0_inVats mX0_inVats 0 := ⟨⟨TX0, 11, rfl⟩, zws_t 419 (by decide +kernel) rfl, zws_t 420 (by decide +kernel) rfl, zws_t 421 (by decide +kernel) rfl, zws_t 2 (by decide +kernel) rfl, zws_t 422 (by decide +kernel) rfl, by decide +kernel, by decide +kernel, by decide +kernel⟩
theorem cn_X0_56 : zCN RX0 56 yX6_sum mX6_sum 3 := ⟨by decide +kernel, zws_t 424 (by decide +kernel) rfl, zws_t 1 (by decide +kernel) rfl, zws_t 425 (by decide +kernel) rfl, by decide +kernel, by decide +kernel, by decide +kernel⟩
theorem cv_X6_118 : zCV RX6 118 0 yX0_heldByAll mX0_heldByAll 0 := ⟨⟨TX0, 11, rfl⟩, zws_t 426 (by decide +kernel) rfl, zws_t 427 (by decide +kernel) rfl, zws_t 428 (by decide +kernel) rfl, zws_t 2 (by decide +kernel) rfl, zws_t 429 (by decide +kernel) rfl, by decide +kernel, by decide +kernel, by decide +kernel⟩
theorem cv_L_35 : zCV RL 35 6 yX6_colour mX6_colour 2 := ⟨⟨TX6, 12, rfl⟩, zws_t 430 (by decide +kernel) rfl, zws_t 431 (by decide +kernel) rfl, zws_t 432 (by decide +kernel) rfl, zws_t 1 (by decide +kernel) rfl, zws_t 433 (by decide +kernel) rfl, by decide +kernel, by decide +kernel, by decide +kernel⟩
theorem cv_X6_121 : zCV RX6 121 0 yX0_hasColour mX0_hasColour 1 := ⟨⟨TX0, 11, rfl⟩, zws_t 434 (by decide +kernel) rfl, zws_t 406 (by decide +kernel) rfl, zws_t 407 (by decide +kernel) rfl, zws_t 2 (by decide +kernel) rfl, zws_t 408 (by decide +kernel) rfl, by decide +kernel, by decide +kernel, by decide +kernel⟩
theorem cv_X6_134 : zCV RX6 134 0 yX0_rentOf mX0_rentOf 1 := ⟨⟨TX0, 11, rfl⟩, zws_t 435 (by decide +kernel) rfl, zws_t 436 (by decide +kernel) rfl, zws_t 437 (by decide +kernel) rfl, zws_t 2 (by decide +kernel) rfl, zws_t 438 (by decide +kernel) rfl, by decide +kernel, by decide +kernel, by decide +kernel⟩
theorem cv_X6_138 : zCV RX6 138 0 yX0_heldOf mX0_heldOf 1 := ⟨⟨TX0, 11, rfl⟩, zws_t 441 (by decide +kernel) rfl, zws_t 442 (by decide +kernel) rfl, zws_t 443 (by decide +kernel) rfl, zws_t 2 (by decide +kernel) rfl, zws_t 444 (by decide +kernel) rfl, by decide +kernel, by decide +kernel, by decide +kernel⟩
theorem cv_L_40 : zCV RL 40 6 yX6_one mX6_one 2 := ⟨⟨TX6, 12, rfl⟩, zws_t 445 (by decide +kernel) rfl, zws_t 446 (by decide +kernel) rfl, zws_t 447 (by decide +kernel) rfl, zws_t 1 (by decide +kernel) rfl, zws_t 448 (by decide +kernel) rfl, by decide +kernel, by decide +kernel, by decide +kernel⟩
theorem cv_X6_141 : zCV RX6 141 0 yX0_hasOne mX0_hasOne 1 := ⟨⟨TX0, 11, rfl⟩, zws_t 449 (by decide +kernel) rfl, zws_t 401 (by decide +kernel) rfl, zws_t 402 (by decide +kernel) rfl, zws_t 2 (by decide +kernel) rfl, zws_t 403 (by decide +kernel) rfl, by decide +kernel, by decide +kernel, by decide +kernel⟩
theorem cv_X6_150 : zCV RX6 150 0 yX0_hueOfOne mX0_hueOfOne 1 := ⟨⟨TX0, 11, rfl⟩, zws_t 450 (by decide +kernel) rfl, zws_t 451 (by decide +kernel) rfl, zws_t 452 (by decide +kernel) rfl, zws_t 2 (by decide +kernel) rfl, zws_t 453 (by decide +kernel) rfl, by decide +kernel, by decide +kernel, by decide +kernel⟩
theorem cv_X0_67 : zCV RX0 67 0 yX0_hueOfDrops mX0_hueOfDrops 2 := ⟨⟨TX0, 11, rfl⟩, zws_t 454 (by decide +kernel) rfl, zws_t 455 (by decide +kernel) rfl, zws_t 456 (by decide +kernel) rfl, zws_t 2 (by decide +kernel) rfl, zws_t 457 (by decide +kernel) rfl, by decide +kernel, by decide +kernel, by decide +kernel⟩
theorem cv_X6_153 : zCV RX6 153 0 yX0_heldBy mX0_heldBy 1 := ⟨⟨TX0, 11, rfl⟩, zws_t 458 (by decide +kernel) rfl, zws_t 459 (by decide +kernel) rfl, zws_t 460 (by decide +kernel) rfl, zws_t 2 (by decide +kernel) rfl, zws_t 461 (by decide +kernel) rfl, by decide +kernel, by decide +kernel, by decide +kernel⟩
theorem cv_X6_159 : zCV RX6 159 0 yX0_rentOfDrops mX0_rentOfDrops 2 := ⟨⟨TX0, 11, rfl⟩, zws_t 462 (by decide +kernel) rfl, zws_t 463 (by decide +kernel) rfl, zws_t 464 (by decide +kernel) rfl, zws_t 2 (by decide +kernel) rfl, zws_t 465 (by decide +kernel) rfl, by decide +kernel, by decide +kernel, by decide +kernel⟩
theorem cv_X0_63 : zCV RX0 63 0 yX0_rentOf mX0_rentOf 1 := ⟨⟨TX0, 11, rfl⟩, zws_t 466 (by decide +kernel) rfl, zws_t 436 (by decide +kernel) rfl, zws_t 437 (by decide +kernel) rfl, zws_t 2 (by decide +kernel) rfl, zws_t 438 (by decide +kernel) rfl, by decide +kernel, by decide +kernel, by decide +kernel⟩
theorem cv_L_44 : zCV RL 44 6 yX6_holds mX6_holds 2 := ⟨⟨TX6, 12, rfl⟩, zws_t 467 (by decide +kernel) rfl, zws_t 468 (by decide +kernel) rfl, zws_t 469 (by decide +kernel) rfl, zws_t 1 (by decide +kernel) rfl, zws_t 470 (by decide +kernel) rfl, by decide +kernel, by decide +kernel, by decide +kernel⟩
theorem cv_L_48 : zCV RL 48 6 yX6_off mX6_off 2 := ⟨⟨TX6, 12, rfl⟩, zws_t 471 (by decide +kernel) rfl, zws_t 472 (by decide +kernel) rfl, zws_t 473 (by decide +kernel) rfl, zws_t 1 (by decide +kernel) rfl, zws_t 474 (by decide +kernel) rfl, by decide +kernel, by decide +kernel, by decide +kernel⟩
theorem cs_X6_163 : zCS RX6 163 yX6_isHue mX6_isHue 1 := ⟨zws_t 475 (by decide +kernel) rfl, zws_t 476 (by decide +kernel) rfl, zws_t 1 (by decide +kernel) rfl, zws_t 477 (by decide +kernel) rfl, by decide +kernel, by decide +kernel, by decide +kernel⟩
theorem cs_X6_166 : zCS RX6 166 yX6_offBetween mX6_offBetween 2 := ⟨zws_t 478 (by decide +kernel) rfl, zws_t 479 (by decide +kernel) rfl, zws_t 1 (by decide +kernel) rfl, zws_t 480 (by decide +kernel) rfl, by decide +kernel, by decide +kernel, by decide +kernel⟩
theorem cs_X6_291 : zCS RX6 291 yJ9_abs_0f7a4 mJ9_abs_0f7a4 1 := ⟨zws_t 481 (by decide +kernel) rfl, zws_t 482 (by decide +kernel) rfl, zws_t 14 (by decide +kernel) rfl, zws_t 483 (by decide +kernel) rfl, by decide +kernel, by decide +kernel, by decide +kernel⟩
theorem cv_L_52 : zCV RL 52 6 yX6_alter mX6_alter 3 := ⟨⟨TX6, 12, rfl⟩, zws_t 484 (by decide +kernel) rfl, zws_t 485 (by decide +kernel) rfl, zws_t 486 (by decide +kernel) rfl, zws_t 1 (by decide +kernel) rfl, zws_t 487 (by decide +kernel) rfl, by decide +kernel, by decide +kernel, by decide +kernel⟩
theorem cs_X6_170 : zCS RX6 170 yX6_mostToAlter mX6_mostToAlter 1 := ⟨zws_t 488 (by decide +kernel) rfl, zws_t 489 (by decide +kernel) rfl, zws_t 1 (by decide +kernel) rfl, zws_t 490 (by decide +kernel) rfl, by decide +kernel, by decide +kernel, by decide +kernel⟩
theorem cv_X6_173 : zCV RX6 173 6 yX6_colour mX6_colour 2 := ⟨⟨TX6, 12, rfl⟩, zws_t 491 (by decide +kernel) rfl, zws_t 431 (by decide +kernel) rfl, zws_t 432 (by decide +kernel) rfl, zws_t 1 (by decide +kernel) rfl, zws_t 433 (by decide +kernel) rfl, by decide +kernel, by decide +kernel, by decide +kernel⟩
theorem cv_L_57 : zCV RL 57 6 yX6_pay mX6_pay 3 := ⟨⟨TX6, 12, rfl⟩, zws_t 492 (by decide +kernel) rfl, zws_t 493 (by decide +kernel) rfl, zws_t 494 (by decide +kernel) rfl, zws_t 1 (by decide +kernel) rfl, zws_t 495 (by decide +kernel) rfl, by decide +kernel, by decide +kernel, by decide +kernel⟩
theorem cv_X6_176 : zCV RX6 176 6 yX6_one mX6_one 2 := ⟨⟨TX6, 12, rfl⟩, zws_t 496 (by decide +kernel) rfl, zws_t 446 (by decide +kernel) rfl, zws_t 447 (by decide +kernel) rfl, zws_t 1 (by decide +kernel) rfl, zws_t 448 (by decide +kernel) rfl, by decide +kernel, by decide +kernel, by decide +kernel⟩
theorem cv_L_61 : zCV RL 61 6 yX6_lend mX6_lend 3 := ⟨⟨TX6, 12, rfl⟩, zws_t 497 (by decide +kernel) rfl, zws_t 498 (by decide +kernel) rfl, zws_t 499 (by decide +kernel) rfl, zws_t 1 (by decide +kernel) rfl, zws_t 500 (by decide +kernel) rfl, by decide +kernel, by decide +kernel, by decide +kernel⟩
theorem cv_X6_179 : zCV RX6 179 0 yX0_giveLoan mX0_giveLoan 3 := ⟨⟨TX0, 11, rfl⟩, zws_t 501 (by decide +kernel) rfl, zws_t 502 (by decide +kernel) rfl, zws_t 503 (by decide +kernel) rfl, zws_t 2 (by decide +kernel) rfl, zws_t 504 (by decide +kernel) rfl, by decide +kernel, by decide +kernel, by decide +kernel⟩
theorem cv_X0_71 : zCV RX0 71 0 yX0_hasOne mX0_hasOne 1 := ⟨⟨TX0, 11, rfl⟩, zws_t 505 (by decide +kernel) rfl, zws_t 401 (by decide +kernel) rfl, zws_t 402 (by decide +kernel) rfl, zws_t 2 (by decide +kernel) rfl, zws_t 403 (by decide +kernel) rfl, by decide +kernel, by decide +kernel, by decide +kernel⟩
theorem cv_X0_75 : zCV RX0 75 0 yX0_hasColour mX0_hasColour 1 := ⟨⟨TX0, 11, rfl⟩, zws_t 506 (by decide +kernel) rfl, zws_t 406 (by decide +kernel) rfl, zws_t 407 (by decide +kernel) rfl, zws_t 2 (by decide +kernel) rfl, zws_t 408 (by decide +kernel) rfl, by decide +kernel, by decide +kernel, by decide +kernel⟩
theorem cv_L_65 : zCV RL 65 6 yX6_bring mX6_bring 3 := ⟨⟨TX6, 12, rfl⟩, zws_t 507 (by decide +kernel) rfl, zws_t 508 (by decide +kernel) rfl, zws_t 509 (by decide +kernel) rfl, zws_t 1 (by decide +kernel) rfl, zws_t 510 (by decide +kernel) rfl, by decide +kernel, by decide +kernel, by decide +kernel⟩
theorem cv_X6_183 : zCV RX6 183 0 yX0_takeBack mX0_takeBack 3 := ⟨⟨TX0, 11, rfl⟩, zws_t 511 (by decide +kernel) rfl, zws_t 512 (by decide +kernel) rfl, zws_t 513 (by decide +kernel) rfl, zws_t 2 (by decide +kernel) rfl, zws_t 514 (by decide +kernel) rfl, by decide +kernel, by decide +kernel, by decide +kernel⟩
theorem cs_X0_78 : zCS RX0 78 yJ9_min_7cf53 mJ9_min_7cf53 2 := ⟨zws_t 515 (by decide +kernel) rfl, zws_t 516 (by decide +kernel) rfl, zws_t 14 (by decide +kernel) rfl, zws_t 517 (by decide +kernel) rfl, by decide +kernel, by decide +kernel, by decide +kernel⟩
theorem cv_L_69 : zCV RL 69 6 yX6_days mX6_days 1 := ⟨⟨TX6, 12, rfl⟩, zws_t 518 (by decide +kernel) rfl, zws_t 519 (by decide +kernel) rfl, zws_t 520 (by decide +kernel) rfl, zws_t 1 (by decide +kernel) rfl, zws_t 521 (by decide +kernel) rfl, by decide +kernel, by decide +kernel, by decide +kernel⟩
theorem cv_X6_187 : zCV RX6 187 0 yX0_passDays mX0_passDays 1 := ⟨⟨TX0, 11, rfl⟩, zws_t 522 (by decide +kernel) rfl, zws_t 523 (by decide +kernel) rfl, zws_t 524 (by decide +kernel) rfl, zws_t 2 (by decide +kernel) rfl, zws_t 525 (by decide +kernel) rfl, by decide +kernel, by decide +kernel, by decide +kernel⟩
theorem cv_X0_84 : zCV RX0 84 0 yX0_passDay mX0_passDay 1 := ⟨⟨TX0, 11, rfl⟩, zws_t 526 (by decide +kernel) rfl, zws_t 527 (by decide +kernel) rfl, zws_t 528 (by decide +kernel) rfl, zws_t 2 (by decide +kernel) rfl, zws_t 529 (by decide +kernel) rfl, by decide +kernel, by decide +kernel, by decide +kernel⟩
theorem cv_X0_88 : zCV RX0 88 0 yX0_passDayOfOne mX0_passDayOfOne 2 := ⟨⟨TX0, 11, rfl⟩, zws_t 530 (by decide +kernel) rfl, zws_t 531 (by decide +kernel) rfl, zws_t 532 (by decide +kernel) rfl, zws_t 2 (by decide +kernel) rfl, zws_t 533 (by decide +kernel) rfl, by decide +kernel, by decide +kernel, by decide +kernel⟩
theorem cs_X0_95 : zCS RX0 95 yJ9_max_7cf53 mJ9_max_7cf53 2 := ⟨zws_t 536 (by decide +kernel) rfl, zws_t 537 (by decide +kernel) rfl, zws_t 14 (by decide +kernel) rfl, zws_t 538 (by decide +kernel) rfl, by decide +kernel, by decide +kernel, by decide +kernel⟩
theorem cv_X0_98 : zCV RX0 98 0 yX0_takeBack mX0_takeBack 3 := ⟨⟨TX0, 11, rfl⟩, zws_t 539 (by decide +kernel) rfl, zws_t 512 (by decide +kernel) rfl, zws_t 513 (by decide +kernel) rfl, zws_t 2 (by decide +kernel) rfl, zws_t 514 (by decide +kernel) rfl, by decide +kernel, by decide +kernel, by decide +kernel⟩
theorem cv_L_73 : zCV RL 73 6 yX6_runs mX6_runs 2 := ⟨⟨TX6, 12, rfl⟩, zws_t 540 (by decide +kernel) rfl, zws_t 541 (by decide +kernel) rfl, zws_t 542 (by decide +kernel) rfl, zws_t 1 (by decide +kernel) rfl, zws_t 543 (by decide +kernel) rfl, by decide +kernel, by decide +kernel, by decide +kernel⟩
theorem cv_X6_191 : zCV RX6 191 0 yX0_passDay mX0_passDay 1 := ⟨⟨TX0, 11, rfl⟩, zws_t 544 (by decide +kernel) rfl, zws_t 527 (by decide +kernel) rfl, zws_t 528 (by decide +kernel) rfl, zws_t 2 (by decide +kernel) rfl, zws_t 529 (by decide +kernel) rfl, by decide +kernel, by decide +kernel, by decide +kernel⟩
theorem cv_L_77 : zCV RL 77 6 yX6_ahead mX6_ahead 3 := ⟨⟨TX6, 12, rfl⟩, zws_t 545 (by decide +kernel) rfl, zws_t 546 (by decide +kernel) rfl, zws_t 547 (by decide +kernel) rfl, zws_t 1 (by decide +kernel) rfl, zws_t 548 (by decide +kernel) rfl, by decide +kernel, by decide +kernel, by decide +kernel⟩
theorem cv_X6_197 : zCV RX6 197 0 yX0_passDaysOfOne mX0_passDaysOfOne 2 := ⟨⟨TX0, 11, rfl⟩, zws_t 549 (by decide +kernel) rfl, zws_t 550 (by decide +kernel) rfl, zws_t 551 (by decide +kernel) rfl, zws_t 2 (by decide +kernel) rfl, zws_t 552 (by decide +kernel) rfl, by decide +kernel, by decide +kernel, by decide +kernel⟩
theorem cv_L_81 : zCV RL 81 6 yX6_lasts mX6_lasts 1 := ⟨⟨TX6, 12, rfl⟩, zws_t 553 (by decide +kernel) rfl, zws_t 554 (by decide +kernel) rfl, zws_t 555 (by decide +kernel) rfl, zws_t 1 (by decide +kernel) rfl, zws_t 556 (by decide +kernel) rfl, by decide +kernel, by decide +kernel, by decide +kernel⟩
theorem cv_X6_201 : zCV RX6 201 0 yX0_passDayOfOne mX0_passDayOfOne 2 := ⟨⟨TX0, 11, rfl⟩, zws_t 557 (by decide +kernel) rfl, zws_t 531 (by decide +kernel) rfl, zws_t 532 (by decide +kernel) rfl, zws_t 2 (by decide +kernel) rfl, zws_t 533 (by decide +kernel) rfl, by decide +kernel, by decide +kernel, by decide +kernel⟩
theorem cv_L_85 : zCV RL 85 6 yX6_mix mX6_mix 3 := ⟨⟨TX6, 12, rfl⟩, zws_t 558 (by decide +kernel) rfl, zws_t 559 (by decide +kernel) rfl, zws_t 560 (by decide +kernel) rfl, zws_t 1 (by decide +kernel) rfl, zws_t 561 (by decide +kernel) rfl, by decide +kernel, by decide +kernel, by decide +kernel⟩
theorem cv_X6_204 : zCV RX6 204 2 yX2_tryAll mX2_tryAll 4 := ⟨⟨TX2, 6, rfl⟩, zws_t 562 (by decide +kernel) rfl, zws_t 563 (by decide +kernel) rfl, zws_t 564 (by decide +kernel) rfl, zws_t 5 (by decide +kernel) rfl, zws_t 565 (by decide +kernel) rfl, by decide +kernel, by decide +kernel, by decide +kernel⟩
theorem cv_X2_31 (d : Nat) : zCV RX2 31 2 yX2_pickFrom (mX2_pickFrom d) 3 := ⟨⟨TX2, 6, rfl⟩, zws_t 566 (by decide +kernel) rfl, zws_t 568 (by decide +kernel) rfl, zws_s 12 (by decide +kernel) rfl, zws_t 5 (by decide +kernel) rfl, zws_t 569 (by show tables_1[569]? = some (Cond.code yX2_pickFrom cX2_pickFrom 6 none); decide +kernel) rfl, by decide +kernel, by decide +kernel, by decide +kernel⟩
theorem cv_X2_40 : zCV RX2 40 2 yX2_weigh mX2_weigh 1 := ⟨⟨TX2, 6, rfl⟩, zws_t 570 (by decide +kernel) rfl, zws_t 572 (by decide +kernel) rfl, zws_s 13 (by decide +kernel) rfl, zws_t 5 (by decide +kernel) rfl, zws_t 573 (by decide +kernel) rfl, by decide +kernel, by decide +kernel, by decide +kernel⟩
theorem cv_X2_53 : zCV RX2 53 0 yX0_hueOfDrops mX0_hueOfDrops 2 := ⟨⟨TX0, 11, rfl⟩, zws_t 574 (by decide +kernel) rfl, zws_t 455 (by decide +kernel) rfl, zws_t 456 (by decide +kernel) rfl, zws_t 2 (by decide +kernel) rfl, zws_t 457 (by decide +kernel) rfl, by decide +kernel, by decide +kernel, by decide +kernel⟩
theorem cn_X2_57 : zCN RX2 57 yX6_offBetween mX6_offBetween 2 := ⟨by decide +kernel, zws_t 479 (by decide +kernel) rfl, zws_t 1 (by decide +kernel) rfl, zws_t 480 (by decide +kernel) rfl, by decide +kernel, by decide +kernel, by decide +kernel⟩
theorem cv_X2_66 : zCV RX2 66 0 yX0_rentOfDrops mX0_rentOfDrops 2 := ⟨⟨TX0, 11, rfl⟩, zws_t 577 (by decide +kernel) rfl, zws_t 463 (by decide +kernel) rfl, zws_t 464 (by decide +kernel) rfl, zws_t 2 (by decide +kernel) rfl, zws_t 465 (by decide +kernel) rfl, by decide +kernel, by decide +kernel, by decide +kernel⟩
theorem cs_X2_47 : zCS RX2 47 yJ9_min_7cf53 mJ9_min_7cf53 2 := ⟨zws_t 578 (by decide +kernel) rfl, zws_t 516 (by decide +kernel) rfl, zws_t 14 (by decide +kernel) rfl, zws_t 517 (by decide +kernel) rfl, by decide +kernel, by decide +kernel, by decide +kernel⟩
theorem cv_L_89 : zCV RL 89 6 yX6_cheap mX6_cheap 3 := ⟨⟨TX6, 12, rfl⟩, zws_t 579 (by decide +kernel) rfl, zws_t 580 (by decide +kernel) rfl, zws_t 581 (by decide +kernel) rfl, zws_t 1 (by decide +kernel) rfl, zws_t 582 (by decide +kernel) rfl, by decide +kernel, by decide +kernel, by decide +kernel⟩
theorem cv_L_93 : zCV RL 93 6 yX6_more mX6_more 2 := ⟨⟨TX6, 12, rfl⟩, zws_t 583 (by decide +kernel) rfl, zws_t 584 (by decide +kernel) rfl, zws_t 585 (by decide +kernel) rfl, zws_t 1 (by decide +kernel) rfl, zws_t 586 (by decide +kernel) rfl, by decide +kernel, by decide +kernel, by decide +kernel⟩
theorem cv_X6_217 : zCV RX6 217 6 yX6_seizuresIfLent mX6_seizuresIfLent 3 := ⟨⟨TX6, 12, rfl⟩, zws_t 587 (by decide +kernel) rfl, zws_t 589 (by decide +kernel) rfl, zws_s 14 (by decide +kernel) rfl, zws_t 1 (by decide +kernel) rfl, zws_t 590 (by decide +kernel) rfl, by decide +kernel, by decide +kernel, by decide +kernel⟩
theorem cs_X6_220 : zCS RX6 220 yJ9_min_7cf53 mJ9_min_7cf53 2 := ⟨zws_t 591 (by decide +kernel) rfl, zws_t 516 (by decide +kernel) rfl, zws_t 14 (by decide +kernel) rfl, zws_t 517 (by decide +kernel) rfl, by decide +kernel, by decide +kernel, by decide +kernel⟩
theorem cv_L_97 : zCV RL 97 6 yX6_swap mX6_swap 1 := ⟨⟨TX6, 12, rfl⟩, zws_t 592 (by decide +kernel) rfl, zws_t 593 (by decide +kernel) rfl, zws_t 594 (by decide +kernel) rfl, zws_t 1 (by decide +kernel) rfl, zws_t 595 (by decide +kernel) rfl, by decide +kernel, by decide +kernel, by decide +kernel⟩
theorem cv_X6_225 : zCV RX6 225 6 yX6_seizuresIfExchanged mX6_seizuresIfExchanged 2 := ⟨⟨TX6, 12, rfl⟩, zws_t 596 (by decide +kernel) rfl, zws_t 598 (by decide +kernel) rfl, zws_s 15 (by decide +kernel) rfl, zws_t 1 (by decide +kernel) rfl, zws_t 599 (by decide +kernel) rfl, by decide +kernel, by decide +kernel, by decide +kernel⟩
theorem cv_L_101 : zCV RL 101 6 yX6_shed mX6_shed 2 := ⟨⟨TX6, 12, rfl⟩, zws_t 600 (by decide +kernel) rfl, zws_t 601 (by decide +kernel) rfl, zws_t 602 (by decide +kernel) rfl, zws_t 1 (by decide +kernel) rfl, zws_t 603 (by decide +kernel) rfl, by decide +kernel, by decide +kernel, by decide +kernel⟩
theorem cv_L_105 : zCV RL 105 6 yX6_need mX6_need 2 := ⟨⟨TX6, 12, rfl⟩, zws_t 604 (by decide +kernel) rfl, zws_t 605 (by decide +kernel) rfl, zws_t 606 (by decide +kernel) rfl, zws_t 1 (by decide +kernel) rfl, zws_t 607 (by decide +kernel) rfl, by decide +kernel, by decide +kernel, by decide +kernel⟩
theorem cv_X6_228 : zCV RX6 228 6 yX6_keepsAll mX6_keepsAll 3 := ⟨⟨TX6, 12, rfl⟩, zws_t 608 (by decide +kernel) rfl, zws_t 610 (by decide +kernel) rfl, zws_s 16 (by decide +kernel) rfl, zws_t 1 (by decide +kernel) rfl, zws_t 611 (by decide +kernel) rfl, by decide +kernel, by decide +kernel, by decide +kernel⟩
theorem cv_L_109 : zCV RL 109 6 yX6_kind mX6_kind 3 := ⟨⟨TX6, 12, rfl⟩, zws_t 612 (by decide +kernel) rfl, zws_t 613 (by decide +kernel) rfl, zws_t 614 (by decide +kernel) rfl, zws_t 1 (by decide +kernel) rfl, zws_t 615 (by decide +kernel) rfl, by decide +kernel, by decide +kernel, by decide +kernel⟩
theorem cv_L_113 : zCV RL 113 6 yX6_luck mX6_luck 5 := ⟨⟨TX6, 12, rfl⟩, zws_t 616 (by decide +kernel) rfl, zws_t 617 (by decide +kernel) rfl, zws_t 618 (by decide +kernel) rfl, zws_t 1 (by decide +kernel) rfl, zws_t 619 (by decide +kernel) rfl, by decide +kernel, by decide +kernel, by decide +kernel⟩
theorem cv_X6_239 : zCV RX6 239 5 yX5_meanOver mX5_meanOver 4 := ⟨⟨TX5, 5, rfl⟩, zws_t 621 (by decide +kernel) rfl, zws_t 622 (by decide +kernel) rfl, zws_t 623 (by decide +kernel) rfl, zws_t 6 (by decide +kernel) rfl, zws_t 624 (by decide +kernel) rfl, by decide +kernel, by decide +kernel, by decide +kernel⟩
theorem cv_X5_25 : zCV RX5 25 0 yX0_takeFrom mX0_takeFrom 1 := ⟨⟨TX0, 11, rfl⟩, zws_t 625 (by decide +kernel) rfl, zws_t 288 (by decide +kernel) rfl, zws_t 289 (by decide +kernel) rfl, zws_t 2 (by decide +kernel) rfl, zws_t 290 (by decide +kernel) rfl, by decide +kernel, by decide +kernel, by decide +kernel⟩
theorem cv_X5_29 (d : Nat) : zCV RX5 29 5 yX5_summed (mX5_summed d) 1 := ⟨⟨TX5, 5, rfl⟩, zws_t 626 (by decide +kernel) rfl, zws_t 628 (by decide +kernel) rfl, zws_s 17 (by decide +kernel) rfl, zws_t 6 (by decide +kernel) rfl, zws_t 629 (by show tables_1[629]? = some (Cond.code yX5_summed cX5_summed 4 (some .long)); decide +kernel) rfl, by decide +kernel, by decide +kernel, by decide +kernel⟩
theorem cv_X5_41 : zCV RX5 41 5 yX5_lookedAt mX5_lookedAt 1 := ⟨⟨TX5, 5, rfl⟩, zws_t 630 (by decide +kernel) rfl, zws_t 632 (by decide +kernel) rfl, zws_s 18 (by decide +kernel) rfl, zws_t 6 (by decide +kernel) rfl, zws_t 633 (by decide +kernel) rfl, by decide +kernel, by decide +kernel, by decide +kernel⟩
theorem cv_X5_59 : zCV RX5 59 0 yX0_heldByAll mX0_heldByAll 0 := ⟨⟨TX0, 11, rfl⟩, zws_t 634 (by decide +kernel) rfl, zws_t 427 (by decide +kernel) rfl, zws_t 428 (by decide +kernel) rfl, zws_t 2 (by decide +kernel) rfl, zws_t 429 (by decide +kernel) rfl, by decide +kernel, by decide +kernel, by decide +kernel⟩
theorem cv_X5_63 : zCV RX5 63 0 yX0_hueOfOne mX0_hueOfOne 1 := ⟨⟨TX0, 11, rfl⟩, zws_t 635 (by decide +kernel) rfl, zws_t 451 (by decide +kernel) rfl, zws_t 452 (by decide +kernel) rfl, zws_t 2 (by decide +kernel) rfl, zws_t 453 (by decide +kernel) rfl, by decide +kernel, by decide +kernel, by decide +kernel⟩
theorem cv_X5_45 : zCV RX5 45 5 yX5_passOn mX5_passOn 2 := ⟨⟨TX5, 5, rfl⟩, zws_t 636 (by decide +kernel) rfl, zws_t 638 (by decide +kernel) rfl, zws_s 19 (by decide +kernel) rfl, zws_t 6 (by decide +kernel) rfl, zws_t 639 (by decide +kernel) rfl, by decide +kernel, by decide +kernel, by decide +kernel⟩
theorem cv_X5_52 : zCV RX5 52 0 yX0_passDay mX0_passDay 1 := ⟨⟨TX0, 11, rfl⟩, zws_t 640 (by decide +kernel) rfl, zws_t 527 (by decide +kernel) rfl, zws_t 528 (by decide +kernel) rfl, zws_t 2 (by decide +kernel) rfl, zws_t 529 (by decide +kernel) rfl, by decide +kernel, by decide +kernel, by decide +kernel⟩
theorem cv_X5_56 : zCV RX5 56 0 yX0_passDayOfOne mX0_passDayOfOne 2 := ⟨⟨TX0, 11, rfl⟩, zws_t 641 (by decide +kernel) rfl, zws_t 531 (by decide +kernel) rfl, zws_t 532 (by decide +kernel) rfl, zws_t 2 (by decide +kernel) rfl, zws_t 533 (by decide +kernel) rfl, by decide +kernel, by decide +kernel, by decide +kernel⟩
theorem cs_X5_35 : zCS RX5 35 yX5_commonDivisor mX5_commonDivisor 2 := ⟨zws_t 643 (by decide +kernel) rfl, zws_t 644 (by decide +kernel) rfl, zws_t 6 (by decide +kernel) rfl, zws_t 645 (by decide +kernel) rfl, by decide +kernel, by decide +kernel, by decide +kernel⟩
theorem cv_L_118 : zCV RL 118 6 yX6_mean mX6_mean 3 := ⟨⟨TX6, 12, rfl⟩, zws_t 647 (by decide +kernel) rfl, zws_t 648 (by decide +kernel) rfl, zws_t 649 (by decide +kernel) rfl, zws_t 1 (by decide +kernel) rfl, zws_t 650 (by decide +kernel) rfl, by decide +kernel, by decide +kernel, by decide +kernel⟩
theorem cv_L_123 : zCV RL 123 6 yX6_see mX6_see 3 := ⟨⟨TX6, 12, rfl⟩, zws_t 651 (by decide +kernel) rfl, zws_t 652 (by decide +kernel) rfl, zws_t 653 (by decide +kernel) rfl, zws_t 1 (by decide +kernel) rfl, zws_t 654 (by decide +kernel) rfl, by decide +kernel, by decide +kernel, by decide +kernel⟩
theorem cv_L_127 : zCV RL 127 6 yX6_forget mX6_forget 1 := ⟨⟨TX6, 12, rfl⟩, zws_t 655 (by decide +kernel) rfl, zws_t 656 (by decide +kernel) rfl, zws_t 657 (by decide +kernel) rfl, zws_t 1 (by decide +kernel) rfl, zws_t 658 (by decide +kernel) rfl, by decide +kernel, by decide +kernel, by decide +kernel⟩
theorem cv_L_131 : zCV RL 131 6 yX6_kinds mX6_kinds 1 := ⟨⟨TX6, 12, rfl⟩, zws_t 659 (by decide +kernel) rfl, zws_t 660 (by decide +kernel) rfl, zws_t 661 (by decide +kernel) rfl, zws_t 1 (by decide +kernel) rfl, zws_t 662 (by decide +kernel) rfl, by decide +kernel, by decide +kernel, by decide +kernel⟩
theorem cv_X6_250 : zCV RX6 250 6 yX6_kindsLeft mX6_kindsLeft 1 := ⟨⟨TX6, 12, rfl⟩, zws_t 663 (by decide +kernel) rfl, zws_t 665 (by decide +kernel) rfl, zws_s 20 (by decide +kernel) rfl, zws_t 1 (by decide +kernel) rfl, zws_t 666 (by decide +kernel) rfl, by decide +kernel, by decide +kernel, by decide +kernel⟩
theorem cv_X6_253 : zCV RX6 253 1 yX1_fit mX1_fit 1 := ⟨⟨TX1, 4, rfl⟩, zws_t 667 (by decide +kernel) rfl, zws_t 668 (by decide +kernel) rfl, zws_t 669 (by decide +kernel) rfl, zws_t 4 (by decide +kernel) rfl, zws_t 670 (by decide +kernel) rfl, by decide +kernel, by decide +kernel, by decide +kernel⟩
theorem cv_X1_21 : zCV RX1 21 1 yX1_lastDay mX1_lastDay 0 := ⟨⟨TX1, 4, rfl⟩, zws_t 671 (by decide +kernel) rfl, zws_t 673 (by decide +kernel) rfl, zws_s 21 (by decide +kernel) rfl, zws_t 4 (by decide +kernel) rfl, zws_t 674 (by decide +kernel) rfl, by decide +kernel, by decide +kernel, by decide +kernel⟩
theorem cs_X1_43 : zCS RX1 43 yJ9_max_7cf53 mJ9_max_7cf53 2 := ⟨zws_t 675 (by decide +kernel) rfl, zws_t 537 (by decide +kernel) rfl, zws_t 14 (by decide +kernel) rfl, zws_t 538 (by decide +kernel) rfl, by decide +kernel, by decide +kernel, by decide +kernel⟩
theorem cv_X1_25 : zCV RX1 25 1 yX1_fitOnDay mX1_fitOnDay 2 := ⟨⟨TX1, 4, rfl⟩, zws_t 676 (by decide +kernel) rfl, zws_t 678 (by decide +kernel) rfl, zws_s 22 (by decide +kernel) rfl, zws_t 4 (by decide +kernel) rfl, zws_t 679 (by decide +kernel) rfl, by decide +kernel, by decide +kernel, by decide +kernel⟩
theorem cv_X1_39 : zCV RX1 39 0 yX0_hueOfOne mX0_hueOfOne 1 := ⟨⟨TX0, 11, rfl⟩, zws_t 680 (by decide +kernel) rfl, zws_t 451 (by decide +kernel) rfl, zws_t 452 (by decide +kernel) rfl, zws_t 2 (by decide +kernel) rfl, zws_t 453 (by decide +kernel) rfl, by decide +kernel, by decide +kernel, by decide +kernel⟩
theorem cv_X1_29 : zCV RX1 29 0 yX0_passDay mX0_passDay 1 := ⟨⟨TX0, 11, rfl⟩, zws_t 681 (by decide +kernel) rfl, zws_t 527 (by decide +kernel) rfl, zws_t 528 (by decide +kernel) rfl, zws_t 2 (by decide +kernel) rfl, zws_t 529 (by decide +kernel) rfl, by decide +kernel, by decide +kernel, by decide +kernel⟩
theorem cv_L_135 : zCV RL 135 6 yX6_drops mX6_drops 2 := ⟨⟨TX6, 12, rfl⟩, zws_t 682 (by decide +kernel) rfl, zws_t 683 (by decide +kernel) rfl, zws_t 684 (by decide +kernel) rfl, zws_t 1 (by decide +kernel) rfl, zws_t 685 (by decide +kernel) rfl, by decide +kernel, by decide +kernel, by decide +kernel⟩
theorem cv_L_139 : zCV RL 139 6 yX6_ask mX6_ask 2 := ⟨⟨TX6, 12, rfl⟩, zws_t 686 (by decide +kernel) rfl, zws_t 687 (by decide +kernel) rfl, zws_t 688 (by decide +kernel) rfl, zws_t 1 (by decide +kernel) rfl, zws_t 689 (by decide +kernel) rfl, by decide +kernel, by decide +kernel, by decide +kernel⟩
theorem cs_X6_257 : zCS RX6 257 yJ6_bitCount_0f7a4 mJ6_bitCount_0f7a4 1 := ⟨zws_t 690 (by decide +kernel) rfl, zws_t 691 (by decide +kernel) rfl, zws_t 15 (by decide +kernel) rfl, zws_t 692 (by decide +kernel) rfl, by decide +kernel, by decide +kernel, by decide +kernel⟩
theorem cv_X6_262 : zCV RX6 262 6 yX6_worstLeft mX6_worstLeft 2 := ⟨⟨TX6, 12, rfl⟩, zws_t 696 (by decide +kernel) rfl, zws_t 698 (by decide +kernel) rfl, zws_s 23 (by decide +kernel) rfl, zws_t 1 (by decide +kernel) rfl, zws_t 699 (by decide +kernel) rfl, by decide +kernel, by decide +kernel, by decide +kernel⟩
theorem cs_X6_294 : zCS RX6 294 yX6_hasBit mX6_hasBit 2 := ⟨zws_t 700 (by decide +kernel) rfl, zws_t 382 (by decide +kernel) rfl, zws_t 1 (by decide +kernel) rfl, zws_t 383 (by decide +kernel) rfl, by decide +kernel, by decide +kernel, by decide +kernel⟩
theorem cs_X6_298 : zCS RX6 298 yJ9_max_7cf53 mJ9_max_7cf53 2 := ⟨zws_t 701 (by decide +kernel) rfl, zws_t 537 (by decide +kernel) rfl, zws_t 14 (by decide +kernel) rfl, zws_t 538 (by decide +kernel) rfl, by decide +kernel, by decide +kernel, by decide +kernel⟩
theorem cv_L_143 : zCV RL 143 6 yX6_drift mX6_drift 3 := ⟨⟨TX6, 12, rfl⟩, zws_t 702 (by decide +kernel) rfl, zws_t 703 (by decide +kernel) rfl, zws_t 704 (by decide +kernel) rfl, zws_t 1 (by decide +kernel) rfl, zws_t 705 (by decide +kernel) rfl, by decide +kernel, by decide +kernel, by decide +kernel⟩
theorem cv_L_147 : zCV RL 147 6 yX6_keep mX6_keep 1 := ⟨⟨TX6, 12, rfl⟩, zws_t 707 (by decide +kernel) rfl, zws_t 708 (by decide +kernel) rfl, zws_t 709 (by decide +kernel) rfl, zws_t 1 (by decide +kernel) rfl, zws_t 710 (by decide +kernel) rfl, by decide +kernel, by decide +kernel, by decide +kernel⟩
theorem cv_L_151 : zCV RL 151 6 yX6_back mX6_back 1 := ⟨⟨TX6, 12, rfl⟩, zws_t 711 (by decide +kernel) rfl, zws_t 712 (by decide +kernel) rfl, zws_t 713 (by decide +kernel) rfl, zws_t 1 (by decide +kernel) rfl, zws_t 714 (by decide +kernel) rfl, by decide +kernel, by decide +kernel, by decide +kernel⟩
theorem cv_L_155 : zCV RL 155 6 yX6_sheet mX6_sheet 3 := ⟨⟨TX6, 12, rfl⟩, zws_t 715 (by decide +kernel) rfl, zws_t 716 (by decide +kernel) rfl, zws_t 717 (by decide +kernel) rfl, zws_t 1 (by decide +kernel) rfl, zws_t 718 (by decide +kernel) rfl, by decide +kernel, by decide +kernel, by decide +kernel⟩
theorem cv_X6_266 : zCV RX6 266 3 yX3_renew mX3_renew 2 := ⟨⟨TX3, 3, rfl⟩, zws_t 719 (by decide +kernel) rfl, zws_t 720 (by decide +kernel) rfl, zws_t 721 (by decide +kernel) rfl, zws_t 7 (by decide +kernel) rfl, zws_t 722 (by decide +kernel) rfl, by decide +kernel, by decide +kernel, by decide +kernel⟩
theorem cv_L_159 : zCV RL 159 6 yX6_lay mX6_lay 3 := ⟨⟨TX6, 12, rfl⟩, zws_t 723 (by decide +kernel) rfl, zws_t 724 (by decide +kernel) rfl, zws_t 725 (by decide +kernel) rfl, zws_t 1 (by decide +kernel) rfl, zws_t 726 (by decide +kernel) rfl, by decide +kernel, by decide +kernel, by decide +kernel⟩
theorem cv_X6_273 : zCV RX6 273 3 yX3_cut mX3_cut 1 := ⟨⟨TX3, 3, rfl⟩, zws_t 727 (by decide +kernel) rfl, zws_t 728 (by decide +kernel) rfl, zws_t 729 (by decide +kernel) rfl, zws_t 7 (by decide +kernel) rfl, zws_t 730 (by decide +kernel) rfl, by decide +kernel, by decide +kernel, by decide +kernel⟩
theorem cv_L_163 : zCV RL 163 6 yX6_read mX6_read 4 := ⟨⟨TX6, 12, rfl⟩, zws_t 731 (by decide +kernel) rfl, zws_t 732 (by decide +kernel) rfl, zws_t 733 (by decide +kernel) rfl, zws_t 1 (by decide +kernel) rfl, zws_t 734 (by decide +kernel) rfl, by decide +kernel, by decide +kernel, by decide +kernel⟩
theorem cv_X6_276 : zCV RX6 276 3 yX3_faultAs mX3_faultAs 1 := ⟨⟨TX3, 3, rfl⟩, zws_t 735 (by decide +kernel) rfl, zws_t 736 (by decide +kernel) rfl, zws_t 737 (by decide +kernel) rfl, zws_t 7 (by decide +kernel) rfl, zws_t 738 (by decide +kernel) rfl, by decide +kernel, by decide +kernel, by decide +kernel⟩
theorem cv_X6_283 : zCV RX6 283 6 yX6_lendOnTrial mX6_lendOnTrial 2 := ⟨⟨TX6, 12, rfl⟩, zws_t 741 (by decide +kernel) rfl, zws_t 743 (by decide +kernel) rfl, zws_s 24 (by decide +kernel) rfl, zws_t 1 (by decide +kernel) rfl, zws_t 744 (by decide +kernel) rfl, by decide +kernel, by decide +kernel, by decide +kernel⟩
theorem cv_L_168 : zCV RL 168 6 yX6_torn mX6_torn 0 := ⟨⟨TX6, 12, rfl⟩, zws_t 745 (by decide +kernel) rfl, zws_t 746 (by decide +kernel) rfl, zws_t 747 (by decide +kernel) rfl, zws_t 1 (by decide +kernel) rfl, zws_t 748 (by decide +kernel) rfl, by decide +kernel, by decide +kernel, by decide +kernel⟩
theorem cv_L_172 : zCV RL 172 6 yX6_count mX6_count 1 := ⟨⟨TX6, 12, rfl⟩, zws_t 749 (by decide +kernel) rfl, zws_t 750 (by decide +kernel) rfl, zws_t 751 (by decide +kernel) rfl, zws_t 1 (by decide +kernel) rfl, zws_t 752 (by decide +kernel) rfl, by decide +kernel, by decide +kernel, by decide +kernel⟩
theorem cs_X6_287 : zCS RX6 287 yX6_sum mX6_sum 3 := ⟨zws_t 753 (by decide +kernel) rfl, zws_t 424 (by decide +kernel) rfl, zws_t 1 (by decide +kernel) rfl, zws_t 425 (by decide +kernel) rfl, by decide +kernel, by decide +kernel, by decide +kernel⟩
theorem cv_L_17 : zCV RL 17 7 yX7_feed mX7_feed 1 := ⟨⟨TX7, 33, rfl⟩, zws_t 860 (by decide +kernel) rfl, zws_t 861 (by decide +kernel) rfl, zws_t 862 (by decide +kernel) rfl, zws_t 8 (by decide +kernel) rfl, zws_t 863 (by decide +kernel) rfl, by decide +kernel, by decide +kernel, by decide +kernel⟩
theorem cs_X7_55 : zCS RX7 55 yX7_in mX7_in 3 := ⟨zws_t 865 (by decide +kernel) rfl, zws_t 866 (by decide +kernel) rfl, zws_t 8 (by decide +kernel) rfl, zws_t 867 (by decide +kernel) rfl, by decide +kernel, by decide +kernel, by decide +kernel⟩
theorem cv_L_21 : zCV RL 21 7 yX7_end mX7_end 1 := ⟨⟨TX7, 33, rfl⟩, zws_t 868 (by decide +kernel) rfl, zws_t 869 (by decide +kernel) rfl, zws_t 870 (by decide +kernel) rfl, zws_t 8 (by decide +kernel) rfl, zws_t 871 (by decide +kernel) rfl, by decide +kernel, by decide +kernel, by decide +kernel⟩
theorem cv_L_26 : zCV RL 26 7 yX7_text mX7_text 0 := ⟨⟨TX7, 33, rfl⟩, zws_t 872 (by decide +kernel) rfl, zws_t 873 (by decide +kernel) rfl, zws_t 874 (by decide +kernel) rfl, zws_t 8 (by decide +kernel) rfl, zws_t 875 (by decide +kernel) rfl, by decide +kernel, by decide +kernel, by decide +kernel⟩
theorem cv_X7_97 : zCV RX7 97 7 yX7_step mX7_step 0 := ⟨⟨TX7, 33, rfl⟩, zws_t 876 (by decide +kernel) rfl, zws_t 878 (by decide +kernel) rfl, zws_s 25 (by decide +kernel) rfl, zws_t 8 (by decide +kernel) rfl, zws_t 879 (by decide +kernel) rfl, by decide +kernel, by decide +kernel, by decide +kernel⟩
theorem cv_X7_78 : zCV RX7 78 7 yX7_byteAt mX7_byteAt 1 := ⟨⟨TX7, 33, rfl⟩, zws_t 880 (by decide +kernel) rfl, zws_t 882 (by decide +kernel) rfl, zws_s 26 (by decide +kernel) rfl, zws_t 8 (by decide +kernel) rfl, zws_t 883 (by decide +kernel) rfl, by decide +kernel, by decide +kernel, by decide +kernel⟩
theorem cv_X7_93 : zCV RX7 93 7 yX7_fails mX7_fails 1 := ⟨⟨TX7, 33, rfl⟩, zws_t 888 (by decide +kernel) rfl, zws_t 890 (by decide +kernel) rfl, zws_s 27 (by decide +kernel) rfl, zws_t 8 (by decide +kernel) rfl, zws_t 891 (by decide +kernel) rfl, by decide +kernel, by decide +kernel, by decide +kernel⟩
theorem cv_X7_136 : zCV RX7 136 7 yX7_readLine mX7_readLine 0 := ⟨⟨TX7, 33, rfl⟩, zws_t 892 (by decide +kernel) rfl, zws_t 894 (by decide +kernel) rfl, zws_s 28 (by decide +kernel) rfl, zws_t 8 (by decide +kernel) rfl, zws_t 895 (by decide +kernel) rfl, by decide +kernel, by decide +kernel, by decide +kernel⟩
theorem cv_X7_127 : zCV RX7 127 7 yX7_nameHere mX7_nameHere 0 := ⟨⟨TX7, 33, rfl⟩, zws_t 896 (by decide +kernel) rfl, zws_t 898 (by decide +kernel) rfl, zws_s 29 (by decide +kernel) rfl, zws_t 8 (by decide +kernel) rfl, zws_t 899 (by decide +kernel) rfl, by decide +kernel, by decide +kernel, by decide +kernel⟩
theorem cv_X7_133 : zCV RX7 133 7 yX7_readMore mX7_readMore 1 := ⟨⟨TX7, 33, rfl⟩, zws_t 901 (by decide +kernel) rfl, zws_t 903 (by decide +kernel) rfl, zws_s 30 (by decide +kernel) rfl, zws_t 8 (by decide +kernel) rfl, zws_t 904 (by decide +kernel) rfl, by decide +kernel, by decide +kernel, by decide +kernel⟩
theorem cv_X7_118 : zCV RX7 118 7 yX7_readColour mX7_readColour 1 := ⟨⟨TX7, 33, rfl⟩, zws_t 905 (by decide +kernel) rfl, zws_t 907 (by decide +kernel) rfl, zws_s 31 (by decide +kernel) rfl, zws_t 8 (by decide +kernel) rfl, zws_t 908 (by decide +kernel) rfl, by decide +kernel, by decide +kernel, by decide +kernel⟩
theorem cv_X7_103 : zCV RX7 103 7 yX7_number mX7_number 2 := ⟨⟨TX7, 33, rfl⟩, zws_t 909 (by decide +kernel) rfl, zws_t 911 (by decide +kernel) rfl, zws_s 32 (by decide +kernel) rfl, zws_t 8 (by decide +kernel) rfl, zws_t 912 (by decide +kernel) rfl, by decide +kernel, by decide +kernel, by decide +kernel⟩
theorem cv_X7_124 : zCV RX7 124 7 yX7_readLent mX7_readLent 0 := ⟨⟨TX7, 33, rfl⟩, zws_t 913 (by decide +kernel) rfl, zws_t 915 (by decide +kernel) rfl, zws_s 33 (by decide +kernel) rfl, zws_t 8 (by decide +kernel) rfl, zws_t 916 (by decide +kernel) rfl, by decide +kernel, by decide +kernel, by decide +kernel⟩
theorem cv_L_30 : zCV RL 30 7 yX7_fault mX7_fault 0 := ⟨⟨TX7, 33, rfl⟩, zws_t 918 (by decide +kernel) rfl, zws_t 919 (by decide +kernel) rfl, zws_t 920 (by decide +kernel) rfl, zws_t 8 (by decide +kernel) rfl, zws_t 921 (by decide +kernel) rfl, by decide +kernel, by decide +kernel, by decide +kernel⟩
theorem cv_L_34 : zCV RL 34 7 yX7_rule mX7_rule 1 := ⟨⟨TX7, 33, rfl⟩, zws_t 922 (by decide +kernel) rfl, zws_t 923 (by decide +kernel) rfl, zws_t 924 (by decide +kernel) rfl, zws_t 8 (by decide +kernel) rfl, zws_t 925 (by decide +kernel) rfl, by decide +kernel, by decide +kernel, by decide +kernel⟩
theorem cv_X7_170 : zCV RX7 170 7 yX7_vatsOn mX7_vatsOn 1 := ⟨⟨TX7, 33, rfl⟩, zws_t 926 (by decide +kernel) rfl, zws_t 928 (by decide +kernel) rfl, zws_s 34 (by decide +kernel) rfl, zws_t 8 (by decide +kernel) rfl, zws_t 929 (by decide +kernel) rfl, by decide +kernel, by decide +kernel, by decide +kernel⟩
theorem cv_X7_173 : zCV RX7 173 7 yX7_heldByAll mX7_heldByAll 1 := ⟨⟨TX7, 33, rfl⟩, zws_t 930 (by decide +kernel) rfl, zws_t 932 (by decide +kernel) rfl, zws_s 35 (by decide +kernel) rfl, zws_t 8 (by decide +kernel) rfl, zws_t 933 (by decide +kernel) rfl, by decide +kernel, by decide +kernel, by decide +kernel⟩
theorem cv_X7_151 : zCV RX7 151 7 yX7_heldOn mX7_heldOn 2 := ⟨⟨TX7, 33, rfl⟩, zws_t 934 (by decide +kernel) rfl, zws_t 936 (by decide +kernel) rfl, zws_s 36 (by decide +kernel) rfl, zws_t 8 (by decide +kernel) rfl, zws_t 937 (by decide +kernel) rfl, by decide +kernel, by decide +kernel, by decide +kernel⟩
theorem cv_L_39 : zCV RL 39 7 yX7_colour mX7_colour 2 := ⟨⟨TX7, 33, rfl⟩, zws_t 938 (by decide +kernel) rfl, zws_t 939 (by decide +kernel) rfl, zws_t 940 (by decide +kernel) rfl, zws_t 8 (by decide +kernel) rfl, zws_t 941 (by decide +kernel) rfl, by decide +kernel, by decide +kernel, by decide +kernel⟩
theorem cv_X7_176 : zCV RX7 176 7 yX7_isColour mX7_isColour 1 := ⟨⟨TX7, 33, rfl⟩, zws_t 942 (by decide +kernel) rfl, zws_t 944 (by decide +kernel) rfl, zws_s 37 (by decide +kernel) rfl, zws_t 8 (by decide +kernel) rfl, zws_t 945 (by decide +kernel) rfl, by decide +kernel, by decide +kernel, by decide +kernel⟩
theorem cv_X7_157 : zCV RX7 157 7 yX7_rentOn mX7_rentOn 2 := ⟨⟨TX7, 33, rfl⟩, zws_t 947 (by decide +kernel) rfl, zws_t 949 (by decide +kernel) rfl, zws_s 38 (by decide +kernel) rfl, zws_t 8 (by decide +kernel) rfl, zws_t 950 (by decide +kernel) rfl, by decide +kernel, by decide +kernel, by decide +kernel⟩
theorem cv_L_43 : zCV RL 43 7 yX7_one mX7_one 2 := ⟨⟨TX7, 33, rfl⟩, zws_t 951 (by decide +kernel) rfl, zws_t 952 (by decide +kernel) rfl, zws_t 953 (by decide +kernel) rfl, zws_t 8 (by decide +kernel) rfl, zws_t 954 (by decide +kernel) rfl, by decide +kernel, by decide +kernel, by decide +kernel⟩
theorem cv_X7_182 : zCV RX7 182 7 yX7_isOne mX7_isOne 1 := ⟨⟨TX7, 33, rfl⟩, zws_t 955 (by decide +kernel) rfl, zws_t 957 (by decide +kernel) rfl, zws_s 39 (by decide +kernel) rfl, zws_t 8 (by decide +kernel) rfl, zws_t 958 (by decide +kernel) rfl, by decide +kernel, by decide +kernel, by decide +kernel⟩
theorem cv_X7_185 : zCV RX7 185 7 yX7_hueOn mX7_hueOn 2 := ⟨⟨TX7, 33, rfl⟩, zws_t 959 (by decide +kernel) rfl, zws_t 961 (by decide +kernel) rfl, zws_s 40 (by decide +kernel) rfl, zws_t 8 (by decide +kernel) rfl, zws_t 962 (by decide +kernel) rfl, by decide +kernel, by decide +kernel, by decide +kernel⟩
theorem cv_L_47 : zCV RL 47 7 yX7_holds mX7_holds 2 := ⟨⟨TX7, 33, rfl⟩, zws_t 963 (by decide +kernel) rfl, zws_t 964 (by decide +kernel) rfl, zws_t 965 (by decide +kernel) rfl, zws_t 8 (by decide +kernel) rfl, zws_t 966 (by decide +kernel) rfl, by decide +kernel, by decide +kernel, by decide +kernel⟩
theorem cv_L_51 : zCV RL 51 7 yX7_off mX7_off 2 := ⟨⟨TX7, 33, rfl⟩, zws_t 967 (by decide +kernel) rfl, zws_t 968 (by decide +kernel) rfl, zws_t 969 (by decide +kernel) rfl, zws_t 8 (by decide +kernel) rfl, zws_t 970 (by decide +kernel) rfl, by decide +kernel, by decide +kernel, by decide +kernel⟩
theorem cs_X7_190 : zCS RX7 190 yX7_offOf mX7_offOf 2 := ⟨zws_t 972 (by decide +kernel) rfl, zws_t 973 (by decide +kernel) rfl, zws_t 8 (by decide +kernel) rfl, zws_t 974 (by decide +kernel) rfl, by decide +kernel, by decide +kernel, by decide +kernel⟩
theorem cs_X7_154 : zCS RX7 154 yX7_apart mX7_apart 2 := ⟨zws_t 975 (by decide +kernel) rfl, zws_t 976 (by decide +kernel) rfl, zws_t 8 (by decide +kernel) rfl, zws_t 977 (by decide +kernel) rfl, by decide +kernel, by decide +kernel, by decide +kernel⟩
theorem cv_L_56 : zCV RL 56 7 yX7_alter mX7_alter 3 := ⟨⟨TX7, 33, rfl⟩, zws_t 978 (by decide +kernel) rfl, zws_t 979 (by decide +kernel) rfl, zws_t 980 (by decide +kernel) rfl, zws_t 8 (by decide +kernel) rfl, zws_t 981 (by decide +kernel) rfl, by decide +kernel, by decide +kernel, by decide +kernel⟩
theorem cv_X7_193 : zCV RX7 193 7 yX7_puts mX7_puts 3 := ⟨⟨TX7, 33, rfl⟩, zws_t 982 (by decide +kernel) rfl, zws_t 984 (by decide +kernel) rfl, zws_s 41 (by decide +kernel) rfl, zws_t 8 (by decide +kernel) rfl, zws_t 985 (by decide +kernel) rfl, by decide +kernel, by decide +kernel, by decide +kernel⟩
theorem cv_L_60 : zCV RL 60 7 yX7_pay mX7_pay 3 := ⟨⟨TX7, 33, rfl⟩, zws_t 986 (by decide +kernel) rfl, zws_t 987 (by decide +kernel) rfl, zws_t 988 (by decide +kernel) rfl, zws_t 8 (by decide +kernel) rfl, zws_t 989 (by decide +kernel) rfl, by decide +kernel, by decide +kernel, by decide +kernel⟩
theorem cv_L_64 : zCV RL 64 7 yX7_lend mX7_lend 3 := ⟨⟨TX7, 33, rfl⟩, zws_t 991 (by decide +kernel) rfl, zws_t 992 (by decide +kernel) rfl, zws_t 993 (by decide +kernel) rfl, zws_t 8 (by decide +kernel) rfl, zws_t 994 (by decide +kernel) rfl, by decide +kernel, by decide +kernel, by decide +kernel⟩
theorem cv_X7_199 : zCV RX7 199 7 yX7_lendsOn mX7_lendsOn 4 := ⟨⟨TX7, 33, rfl⟩, zws_t 995 (by decide +kernel) rfl, zws_t 997 (by decide +kernel) rfl, zws_s 42 (by decide +kernel) rfl, zws_t 8 (by decide +kernel) rfl, zws_t 998 (by decide +kernel) rfl, by decide +kernel, by decide +kernel, by decide +kernel⟩
theorem cv_L_68 : zCV RL 68 7 yX7_bring mX7_bring 3 := ⟨⟨TX7, 33, rfl⟩, zws_t 999 (by decide +kernel) rfl, zws_t 1000 (by decide +kernel) rfl, zws_t 1001 (by decide +kernel) rfl, zws_t 8 (by decide +kernel) rfl, zws_t 1002 (by decide +kernel) rfl, by decide +kernel, by decide +kernel, by decide +kernel⟩
theorem cv_X7_203 : zCV RX7 203 7 yX7_bringsOn mX7_bringsOn 4 := ⟨⟨TX7, 33, rfl⟩, zws_t 1003 (by decide +kernel) rfl, zws_t 1005 (by decide +kernel) rfl, zws_s 43 (by decide +kernel) rfl, zws_t 8 (by decide +kernel) rfl, zws_t 1006 (by decide +kernel) rfl, by decide +kernel, by decide +kernel, by decide +kernel⟩
theorem cv_L_72 : zCV RL 72 7 yX7_days mX7_days 1 := ⟨⟨TX7, 33, rfl⟩, zws_t 1007 (by decide +kernel) rfl, zws_t 1008 (by decide +kernel) rfl, zws_t 1009 (by decide +kernel) rfl, zws_t 8 (by decide +kernel) rfl, zws_t 1010 (by decide +kernel) rfl, by decide +kernel, by decide +kernel, by decide +kernel⟩
theorem cv_X7_208 : zCV RX7 208 7 yX7_dayOn mX7_dayOn 2 := ⟨⟨TX7, 33, rfl⟩, zws_t 1012 (by decide +kernel) rfl, zws_t 1014 (by decide +kernel) rfl, zws_s 44 (by decide +kernel) rfl, zws_t 8 (by decide +kernel) rfl, zws_t 1015 (by decide +kernel) rfl, by decide +kernel, by decide +kernel, by decide +kernel⟩
theorem cv_X7_166 : zCV RX7 166 7 yX7_colourGoes mX7_colourGoes 4 := ⟨⟨TX7, 33, rfl⟩, zws_t 1016 (by decide +kernel) rfl, zws_t 1018 (by decide +kernel) rfl, zws_s 45 (by decide +kernel) rfl, zws_t 8 (by decide +kernel) rfl, zws_t 1019 (by decide +kernel) rfl, by decide +kernel, by decide +kernel, by decide +kernel⟩
theorem cv_X7_163 : zCV RX7 163 7 yX7_fadesOn mX7_fadesOn 2 := ⟨⟨TX7, 33, rfl⟩, zws_t 1020 (by decide +kernel) rfl, zws_t 1022 (by decide +kernel) rfl, zws_s 46 (by decide +kernel) rfl, zws_t 8 (by decide +kernel) rfl, zws_t 1023 (by decide +kernel) rfl, by decide +kernel, by decide +kernel, by decide +kernel⟩
theorem cv_L_76 : zCV RL 76 7 yX7_runs mX7_runs 2 := ⟨⟨TX7, 33, rfl⟩, zws_t 1024 (by decide +kernel) rfl, zws_t 1025 (by decide +kernel) rfl, zws_t 1026 (by decide +kernel) rfl, zws_t 8 (by decide +kernel) rfl, zws_t 1027 (by decide +kernel) rfl, by decide +kernel, by decide +kernel, by decide +kernel⟩
theorem cv_X7_222 : zCV RX7 222 7 yX7_daysGo mX7_daysGo 2 := ⟨⟨TX7, 33, rfl⟩, zws_t 1030 (by decide +kernel) rfl, zws_t 1032 (by decide +kernel) rfl, zws_s 47 (by decide +kernel) rfl, zws_t 8 (by decide +kernel) rfl, zws_t 1033 (by decide +kernel) rfl, by decide +kernel, by decide +kernel, by decide +kernel⟩
theorem cv_X7_212 : zCV RX7 212 7 yX7_copies mX7_copies 2 := ⟨⟨TX7, 33, rfl⟩, zws_t 1034 (by decide +kernel) rfl, zws_t 1036 (by decide +kernel) rfl, zws_s 48 (by decide +kernel) rfl, zws_t 8 (by decide +kernel) rfl, zws_t 1037 (by decide +kernel) rfl, by decide +kernel, by decide +kernel, by decide +kernel⟩
theorem cv_L_80 : zCV RL 80 7 yX7_ahead mX7_ahead 3 := ⟨⟨TX7, 33, rfl⟩, zws_t 1038 (by decide +kernel) rfl, zws_t 1039 (by decide +kernel) rfl, zws_t 1040 (by decide +kernel) rfl, zws_t 8 (by decide +kernel) rfl, zws_t 1041 (by decide +kernel) rfl, by decide +kernel, by decide +kernel, by decide +kernel⟩
theorem cv_L_84 : zCV RL 84 7 yX7_lasts mX7_lasts 1 := ⟨⟨TX7, 33, rfl⟩, zws_t 1043 (by decide +kernel) rfl, zws_t 1044 (by decide +kernel) rfl, zws_t 1045 (by decide +kernel) rfl, zws_t 8 (by decide +kernel) rfl, zws_t 1046 (by decide +kernel) rfl, by decide +kernel, by decide +kernel, by decide +kernel⟩
theorem cv_L_88 : zCV RL 88 7 yX7_mix mX7_mix 3 := ⟨⟨TX7, 33, rfl⟩, zws_t 1047 (by decide +kernel) rfl, zws_t 1048 (by decide +kernel) rfl, zws_t 1049 (by decide +kernel) rfl, zws_t 8 (by decide +kernel) rfl, zws_t 1050 (by decide +kernel) rfl, by decide +kernel, by decide +kernel, by decide +kernel⟩
theorem cs_X7_227 : zCS RX7 227 yX7_powerOf mX7_powerOf 2 := ⟨zws_t 1051 (by decide +kernel) rfl, zws_t 1052 (by decide +kernel) rfl, zws_t 8 (by decide +kernel) rfl, zws_t 1053 (by decide +kernel) rfl, by decide +kernel, by decide +kernel, by decide +kernel⟩
theorem cv_X7_230 : zCV RX7 230 7 yX7_areDrops mX7_areDrops 2 := ⟨⟨TX7, 33, rfl⟩, zws_t 1054 (by decide +kernel) rfl, zws_t 1056 (by decide +kernel) rfl, zws_s 49 (by decide +kernel) rfl, zws_t 8 (by decide +kernel) rfl, zws_t 1057 (by decide +kernel) rfl, by decide +kernel, by decide +kernel, by decide +kernel⟩
theorem cv_X7_234 : zCV RX7 234 7 yX7_hueOfDrops mX7_hueOfDrops 1 := ⟨⟨TX7, 33, rfl⟩, zws_t 1058 (by decide +kernel) rfl, zws_t 1060 (by decide +kernel) rfl, zws_s 50 (by decide +kernel) rfl, zws_t 8 (by decide +kernel) rfl, zws_t 1061 (by decide +kernel) rfl, by decide +kernel, by decide +kernel, by decide +kernel⟩
theorem cv_L_92 : zCV RL 92 7 yX7_cheap mX7_cheap 3 := ⟨⟨TX7, 33, rfl⟩, zws_t 1062 (by decide +kernel) rfl, zws_t 1063 (by decide +kernel) rfl, zws_t 1064 (by decide +kernel) rfl, zws_t 8 (by decide +kernel) rfl, zws_t 1065 (by decide +kernel) rfl, by decide +kernel, by decide +kernel, by decide +kernel⟩
theorem cv_L_96 : zCV RL 96 7 yX7_more mX7_more 2 := ⟨⟨TX7, 33, rfl⟩, zws_t 1067 (by decide +kernel) rfl, zws_t 1068 (by decide +kernel) rfl, zws_t 1069 (by decide +kernel) rfl, zws_t 8 (by decide +kernel) rfl, zws_t 1070 (by decide +kernel) rfl, by decide +kernel, by decide +kernel, by decide +kernel⟩
theorem cv_L_100 : zCV RL 100 7 yX7_swap mX7_swap 1 := ⟨⟨TX7, 33, rfl⟩, zws_t 1071 (by decide +kernel) rfl, zws_t 1072 (by decide +kernel) rfl, zws_t 1073 (by decide +kernel) rfl, zws_t 8 (by decide +kernel) rfl, zws_t 1074 (by decide +kernel) rfl, by decide +kernel, by decide +kernel, by decide +kernel⟩
theorem cv_L_104 : zCV RL 104 7 yX7_shed mX7_shed 2 := ⟨⟨TX7, 33, rfl⟩, zws_t 1075 (by decide +kernel) rfl, zws_t 1076 (by decide +kernel) rfl, zws_t 1077 (by decide +kernel) rfl, zws_t 8 (by decide +kernel) rfl, zws_t 1078 (by decide +kernel) rfl, by decide +kernel, by decide +kernel, by decide +kernel⟩
theorem cv_L_108 : zCV RL 108 7 yX7_need mX7_need 2 := ⟨⟨TX7, 33, rfl⟩, zws_t 1079 (by decide +kernel) rfl, zws_t 1080 (by decide +kernel) rfl, zws_t 1081 (by decide +kernel) rfl, zws_t 8 (by decide +kernel) rfl, zws_t 1082 (by decide +kernel) rfl, by decide +kernel, by decide +kernel, by decide +kernel⟩
theorem cv_L_112 : zCV RL 112 7 yX7_kind mX7_kind 3 := ⟨⟨TX7, 33, rfl⟩, zws_t 1083 (by decide +kernel) rfl, zws_t 1084 (by decide +kernel) rfl, zws_t 1085 (by decide +kernel) rfl, zws_t 8 (by decide +kernel) rfl, zws_t 1086 (by decide +kernel) rfl, by decide +kernel, by decide +kernel, by decide +kernel⟩
theorem cv_L_117 : zCV RL 117 7 yX7_luck mX7_luck 5 := ⟨⟨TX7, 33, rfl⟩, zws_t 1087 (by decide +kernel) rfl, zws_t 1088 (by decide +kernel) rfl, zws_t 1089 (by decide +kernel) rfl, zws_t 8 (by decide +kernel) rfl, zws_t 1090 (by decide +kernel) rfl, by decide +kernel, by decide +kernel, by decide +kernel⟩
theorem cv_X7_247 : zCV RX7 247 7 yX7_bySun mX7_bySun 5 := ⟨⟨TX7, 33, rfl⟩, zws_t 1093 (by decide +kernel) rfl, zws_t 1095 (by decide +kernel) rfl, zws_s 51 (by decide +kernel) rfl, zws_t 8 (by decide +kernel) rfl, zws_t 1096 (by decide +kernel) rfl, by decide +kernel, by decide +kernel, by decide +kernel⟩
theorem cs_X7_241 : zCS RX7 241 yX7_lowest mX7_lowest 3 := ⟨zws_t 1097 (by decide +kernel) rfl, zws_t 1098 (by decide +kernel) rfl, zws_t 8 (by decide +kernel) rfl, zws_t 1099 (by decide +kernel) rfl, by decide +kernel, by decide +kernel, by decide +kernel⟩
theorem cv_L_122 : zCV RL 122 7 yX7_mean mX7_mean 3 := ⟨⟨TX7, 33, rfl⟩, zws_t 1101 (by decide +kernel) rfl, zws_t 1102 (by decide +kernel) rfl, zws_t 1103 (by decide +kernel) rfl, zws_t 8 (by decide +kernel) rfl, zws_t 1104 (by decide +kernel) rfl, by decide +kernel, by decide +kernel, by decide +kernel⟩
theorem cv_L_126 : zCV RL 126 7 yX7_see mX7_see 3 := ⟨⟨TX7, 33, rfl⟩, zws_t 1105 (by decide +kernel) rfl, zws_t 1106 (by decide +kernel) rfl, zws_t 1107 (by decide +kernel) rfl, zws_t 8 (by decide +kernel) rfl, zws_t 1108 (by decide +kernel) rfl, by decide +kernel, by decide +kernel, by decide +kernel⟩
theorem cv_L_130 : zCV RL 130 7 yX7_forget mX7_forget 1 := ⟨⟨TX7, 33, rfl⟩, zws_t 1110 (by decide +kernel) rfl, zws_t 1111 (by decide +kernel) rfl, zws_t 1112 (by decide +kernel) rfl, zws_t 8 (by decide +kernel) rfl, zws_t 1113 (by decide +kernel) rfl, by decide +kernel, by decide +kernel, by decide +kernel⟩
theorem cv_L_134 : zCV RL 134 7 yX7_kinds mX7_kinds 1 := ⟨⟨TX7, 33, rfl⟩, zws_t 1114 (by decide +kernel) rfl, zws_t 1115 (by decide +kernel) rfl, zws_t 1116 (by decide +kernel) rfl, zws_t 8 (by decide +kernel) rfl, zws_t 1117 (by decide +kernel) rfl, by decide +kernel, by decide +kernel, by decide +kernel⟩
theorem cv_X7_258 : zCV RX7 258 7 yX7_kindsOf mX7_kindsOf 1 := ⟨⟨TX7, 33, rfl⟩, zws_t 1118 (by decide +kernel) rfl, zws_t 1120 (by decide +kernel) rfl, zws_s 52 (by decide +kernel) rfl, zws_t 8 (by decide +kernel) rfl, zws_t 1121 (by decide +kernel) rfl, by decide +kernel, by decide +kernel, by decide +kernel⟩
theorem cv_X7_255 : zCV RX7 255 7 yX7_isAsSeen mX7_isAsSeen 1 := ⟨⟨TX7, 33, rfl⟩, zws_t 1122 (by decide +kernel) rfl, zws_t 1124 (by decide +kernel) rfl, zws_s 53 (by decide +kernel) rfl, zws_t 8 (by decide +kernel) rfl, zws_t 1125 (by decide +kernel) rfl, by decide +kernel, by decide +kernel, by decide +kernel⟩
theorem cv_L_138 : zCV RL 138 7 yX7_drops mX7_drops 2 := ⟨⟨TX7, 33, rfl⟩, zws_t 1126 (by decide +kernel) rfl, zws_t 1127 (by decide +kernel) rfl, zws_t 1128 (by decide +kernel) rfl, zws_t 8 (by decide +kernel) rfl, zws_t 1129 (by decide +kernel) rfl, by decide +kernel, by decide +kernel, by decide +kernel⟩
theorem cv_L_142 : zCV RL 142 7 yX7_ask mX7_ask 2 := ⟨⟨TX7, 33, rfl⟩, zws_t 1130 (by decide +kernel) rfl, zws_t 1131 (by decide +kernel) rfl, zws_t 1132 (by decide +kernel) rfl, zws_t 8 (by decide +kernel) rfl, zws_t 1133 (by decide +kernel) rfl, by decide +kernel, by decide +kernel, by decide +kernel⟩
theorem cv_L_146 : zCV RL 146 7 yX7_drift mX7_drift 3 := ⟨⟨TX7, 33, rfl⟩, zws_t 1134 (by decide +kernel) rfl, zws_t 1135 (by decide +kernel) rfl, zws_t 1136 (by decide +kernel) rfl, zws_t 8 (by decide +kernel) rfl, zws_t 1137 (by decide +kernel) rfl, by decide +kernel, by decide +kernel, by decide +kernel⟩
theorem cv_L_150 : zCV RL 150 7 yX7_keep mX7_keep 1 := ⟨⟨TX7, 33, rfl⟩, zws_t 1139 (by decide +kernel) rfl, zws_t 1140 (by decide +kernel) rfl, zws_t 1141 (by decide +kernel) rfl, zws_t 8 (by decide +kernel) rfl, zws_t 1142 (by decide +kernel) rfl, by decide +kernel, by decide +kernel, by decide +kernel⟩
theorem cv_L_154 : zCV RL 154 7 yX7_back mX7_back 1 := ⟨⟨TX7, 33, rfl⟩, zws_t 1143 (by decide +kernel) rfl, zws_t 1144 (by decide +kernel) rfl, zws_t 1145 (by decide +kernel) rfl, zws_t 8 (by decide +kernel) rfl, zws_t 1146 (by decide +kernel) rfl, by decide +kernel, by decide +kernel, by decide +kernel⟩
theorem cv_L_158 : zCV RL 158 7 yX7_sheet mX7_sheet 3 := ⟨⟨TX7, 33, rfl⟩, zws_t 1147 (by decide +kernel) rfl, zws_t 1148 (by decide +kernel) rfl, zws_t 1149 (by decide +kernel) rfl, zws_t 8 (by decide +kernel) rfl, zws_t 1150 (by decide +kernel) rfl, by decide +kernel, by decide +kernel, by decide +kernel⟩
theorem cv_L_162 : zCV RL 162 7 yX7_lay mX7_lay 3 := ⟨⟨TX7, 33, rfl⟩, zws_t 1151 (by decide +kernel) rfl, zws_t 1152 (by decide +kernel) rfl, zws_t 1153 (by decide +kernel) rfl, zws_t 8 (by decide +kernel) rfl, zws_t 1154 (by decide +kernel) rfl, by decide +kernel, by decide +kernel, by decide +kernel⟩
theorem cv_L_167 : zCV RL 167 7 yX7_read mX7_read 4 := ⟨⟨TX7, 33, rfl⟩, zws_t 1155 (by decide +kernel) rfl, zws_t 1156 (by decide +kernel) rfl, zws_t 1157 (by decide +kernel) rfl, zws_t 8 (by decide +kernel) rfl, zws_t 1158 (by decide +kernel) rfl, by decide +kernel, by decide +kernel, by decide +kernel⟩
theorem cv_L_171 : zCV RL 171 7 yX7_torn mX7_torn 0 := ⟨⟨TX7, 33, rfl⟩, zws_t 1160 (by decide +kernel) rfl, zws_t 1161 (by decide +kernel) rfl, zws_t 1162 (by decide +kernel) rfl, zws_t 8 (by decide +kernel) rfl, zws_t 1163 (by decide +kernel) rfl, by decide +kernel, by decide +kernel, by decide +kernel⟩
theorem cv_L_175 : zCV RL 175 7 yX7_count mX7_count 1 := ⟨⟨TX7, 33, rfl⟩, zws_t 1164 (by decide +kernel) rfl, zws_t 1165 (by decide +kernel) rfl, zws_t 1166 (by decide +kernel) rfl, zws_t 8 (by decide +kernel) rfl, zws_t 1167 (by decide +kernel) rfl, by decide +kernel, by decide +kernel, by decide +kernel⟩
theorem kc_X6_231 : Cond.constantLong RX6 231 (-1) ∈ zws := zws_t 620 (by decide +kernel) rfl
theorem kc_X5_33 : Cond.constantLong RX5 33 (10) ∈ zws := zws_t 642 (by decide +kernel) rfl
theorem kc_X5_39 : Cond.constantLong RX5 39 (-1) ∈ zws := zws_t 646 (by decide +kernel) rfl
theorem kc_J6_265 : Cond.constant RJ6 265 (1431655765) ∈ zws := zws_t 693 (by decide +kernel) rfl
theorem kc_J6_266 : Cond.constant RJ6 266 (858993459) ∈ zws := zws_t 694 (by decide +kernel) rfl
theorem kc_J6_267 : Cond.constant RJ6 267 (252645135) ∈ zws := zws_t 695 (by decide +kernel) rfl
theorem kc_X6_265 : Cond.constant RX6 265 (1103515245) ∈ zws := zws_t 706 (by decide +kernel) rfl
theorem kc_X6_279 : Cond.constantLong RX6 279 (3) ∈ zws := zws_t 739 (by decide +kernel) rfl
theorem kc_X6_281 : Cond.constantLong RX6 281 (2) ∈ zws := zws_t 740 (by decide +kernel) rfl
theorem kc_X7_53 : Cond.constantLong RX7 53 (127) ∈ zws := zws_t 864 (by decide +kernel) rfl
theorem kc_X7_85 : Cond.constantLong RX7 85 (97) ∈ zws := zws_t 884 (by decide +kernel) rfl
theorem kc_X7_87 : Cond.constantLong RX7 87 (122) ∈ zws := zws_t 885 (by decide +kernel) rfl
theorem kc_X7_89 : Cond.constantLong RX7 89 (48) ∈ zws := zws_t 886 (by decide +kernel) rfl
theorem kc_X7_91 : Cond.constantLong RX7 91 (57) ∈ zws := zws_t 887 (by decide +kernel) rfl
theorem kc_X7_131 : Cond.constantLong RX7 131 (5) ∈ zws := zws_t 900 (by decide +kernel) rfl
theorem kc_X7_110 : Cond.constantLong RX7 110 (4) ∈ zws := zws_t 917 (by decide +kernel) rfl
theorem kc_X7_180 : Cond.constantLong RX7 180 (6) ∈ zws := zws_t 946 (by decide +kernel) rfl
theorem kc_X7_188 : Cond.constantLong RX7 188 (999) ∈ zws := zws_t 971 (by decide +kernel) rfl
theorem kc_X7_197 : Cond.constantLong RX7 197 (99) ∈ zws := zws_t 990 (by decide +kernel) rfl
theorem kc_X7_206 : Cond.constantLong RX7 206 (30) ∈ zws := zws_t 1011 (by decide +kernel) rfl
theorem kc_X7_218 : Cond.constantLong RX7 218 (60) ∈ zws := zws_t 1028 (by decide +kernel) rfl
theorem kc_X7_220 : Cond.constantLong RX7 220 (3) ∈ zws := zws_t 1029 (by decide +kernel) rfl
theorem kc_X7_225 : Cond.constantLong RX7 225 (2) ∈ zws := zws_t 1042 (by decide +kernel) rfl
theorem kc_X7_237 : Cond.constantLong RX7 237 (27) ∈ zws := zws_t 1066 (by decide +kernel) rfl
theorem kc_X7_239 : Cond.constantLong RX7 239 (10) ∈ zws := zws_t 1091 (by decide +kernel) rfl
theorem kc_X7_245 : Cond.constantLong RX7 245 (8) ∈ zws := zws_t 1092 (by decide +kernel) rfl
theorem kc_X7_251 : Cond.constantLong RX7 251 (-1) ∈ zws := zws_t 1100 (by decide +kernel) rfl
theorem kc_X7_253 : Cond.constantLong RX7 253 (20) ∈ zws := zws_t 1109 (by decide +kernel) rfl
theorem kc_X7_261 : Cond.constant RX7 261 (1103515245) ∈ zws := zws_t 1138 (by decide +kernel) rfl
theorem kc_X7_262 : Cond.constantLong RX7 262 (13) ∈ zws := zws_t 1159 (by decide +kernel) rfl
theorem vbm20 : (Int8.ofInt (-20)).toInt32 = (-20) := by decide +kernel
theorem vbm14 : (Int8.ofInt (-14)).toInt32 = (-14) := by decide +kernel
theorem vbm12 : (Int8.ofInt (-12)).toInt32 = (-12) := by decide +kernel
theorem vbm11 : (Int8.ofInt (-11)).toInt32 = (-11) := by decide +kernel
theorem vbm10 : (Int8.ofInt (-10)).toInt32 = (-10) := by decide +kernel
theorem vbm4 : (Int8.ofInt (-4)).toInt32 = (-4) := by decide +kernel
theorem vbm3 : (Int8.ofInt (-3)).toInt32 = (-3) := by decide +kernel
theorem vbm2 : (Int8.ofInt (-2)).toInt32 = (-2) := by decide +kernel
theorem vb6 : (Int8.ofInt (6)).toInt32 = 6 := by decide +kernel
theorem vb7 : (Int8.ofInt (7)).toInt32 = 7 := by decide +kernel
theorem vb8 : (Int8.ofInt (8)).toInt32 = 8 := by decide +kernel
theorem vb9 : (Int8.ofInt (9)).toInt32 = 9 := by decide +kernel
theorem vb10 : (Int8.ofInt (10)).toInt32 = 10 := by decide +kernel
theorem vb11 : (Int8.ofInt (11)).toInt32 = 11 := by decide +kernel
theorem vb12 : (Int8.ofInt (12)).toInt32 = 12 := by decide +kernel
theorem vb13 : (Int8.ofInt (13)).toInt32 = 13 := by decide +kernel
theorem vb14 : (Int8.ofInt (14)).toInt32 = 14 := by decide +kernel
theorem vb15 : (Int8.ofInt (15)).toInt32 = 15 := by decide +kernel
theorem vb16 : (Int8.ofInt (16)).toInt32 = 16 := by decide +kernel
theorem vb17 : (Int8.ofInt (17)).toInt32 = 17 := by decide +kernel
theorem vb18 : (Int8.ofInt (18)).toInt32 = 18 := by decide +kernel
theorem vb19 : (Int8.ofInt (19)).toInt32 = 19 := by decide +kernel
theorem vb20 : (Int8.ofInt (20)).toInt32 = 20 := by decide +kernel
theorem vb21 : (Int8.ofInt (21)).toInt32 = 21 := by decide +kernel
theorem vb22 : (Int8.ofInt (22)).toInt32 = 22 := by decide +kernel
theorem vb23 : (Int8.ofInt (23)).toInt32 = 23 := by decide +kernel
theorem vb24 : (Int8.ofInt (24)).toInt32 = 24 := by decide +kernel
theorem vb25 : (Int8.ofInt (25)).toInt32 = 25 := by decide +kernel
theorem vb26 : (Int8.ofInt (26)).toInt32 = 26 := by decide +kernel
theorem vb27 : (Int8.ofInt (27)).toInt32 = 27 := by decide +kernel
theorem vb28 : (Int8.ofInt (28)).toInt32 = 28 := by decide +kernel
theorem vb29 : (Int8.ofInt (29)).toInt32 = 29 := by decide +kernel
theorem vb30 : (Int8.ofInt (30)).toInt32 = 30 := by decide +kernel
theorem vb31 : (Int8.ofInt (31)).toInt32 = 31 := by decide +kernel
theorem vb32 : (Int8.ofInt (32)).toInt32 = 32 := by decide +kernel
theorem vb33 : (Int8.ofInt (33)).toInt32 = 33 := by decide +kernel
theorem vb40 : (Int8.ofInt (40)).toInt32 = 40 := by decide +kernel
theorem vb48 : (Int8.ofInt (48)).toInt32 = 48 := by decide +kernel
theorem vb53 : (Int8.ofInt (53)).toInt32 = 53 := by decide +kernel
theorem vb54 : (Int8.ofInt (54)).toInt32 = 54 := by decide +kernel
theorem vb55 : (Int8.ofInt (55)).toInt32 = 55 := by decide +kernel
theorem vb57 : (Int8.ofInt (57)).toInt32 = 57 := by decide +kernel
theorem vb59 : (Int8.ofInt (59)).toInt32 = 59 := by decide +kernel
theorem vb60 : (Int8.ofInt (60)).toInt32 = 60 := by decide +kernel
theorem vb63 : (Int8.ofInt (63)).toInt32 = 63 := by decide +kernel
theorem vb64 : (Int8.ofInt (64)).toInt32 = 64 := by decide +kernel
theorem vb84 : (Int8.ofInt (84)).toInt32 = 84 := by decide +kernel
theorem vb97 : (Int8.ofInt (97)).toInt32 = 97 := by decide +kernel
theorem vb99 : (Int8.ofInt (99)).toInt32 = 99 := by decide +kernel
theorem vb100 : (Int8.ofInt (100)).toInt32 = 100 := by decide +kernel
theorem vb101 : (Int8.ofInt (101)).toInt32 = 101 := by decide +kernel
theorem vb102 : (Int8.ofInt (102)).toInt32 = 102 := by decide +kernel
theorem vb103 : (Int8.ofInt (103)).toInt32 = 103 := by decide +kernel
theorem vb105 : (Int8.ofInt (105)).toInt32 = 105 := by decide +kernel
theorem vb108 : (Int8.ofInt (108)).toInt32 = 108 := by decide +kernel
theorem vb110 : (Int8.ofInt (110)).toInt32 = 110 := by decide +kernel
theorem vb111 : (Int8.ofInt (111)).toInt32 = 111 := by decide +kernel
theorem vb112 : (Int8.ofInt (112)).toInt32 = 112 := by decide +kernel
theorem vb114 : (Int8.ofInt (114)).toInt32 = 114 := by decide +kernel
theorem vb115 : (Int8.ofInt (115)).toInt32 = 115 := by decide +kernel
theorem vb116 : (Int8.ofInt (116)).toInt32 = 116 := by decide +kernel
theorem vb117 : (Int8.ofInt (117)).toInt32 = 117 := by decide +kernel
theorem vb118 : (Int8.ofInt (118)).toInt32 = 118 := by decide +kernel
theorem vb121 : (Int8.ofInt (121)).toInt32 = 121 := by decide +kernel
theorem vb122 : (Int8.ofInt (122)).toInt32 = 122 := by decide +kernel
theorem vb127 : (Int8.ofInt (127)).toInt32 = 127 := by decide +kernel
theorem vim1 : Int32.ofInt (-1) = (-1) := by decide +kernel
theorem vi0 : Int32.ofInt (0) = 0 := by decide +kernel
theorem vi1 : Int32.ofInt (1) = 1 := by decide +kernel
theorem vi2 : Int32.ofInt (2) = 2 := by decide +kernel
theorem vi3 : Int32.ofInt (3) = 3 := by decide +kernel
theorem vi4 : Int32.ofInt (4) = 4 := by decide +kernel
theorem vi5 : Int32.ofInt (5) = 5 := by decide +kernel
theorem vi6 : Int32.ofInt (6) = 6 := by decide +kernel
theorem vl0 : Int64.ofNat ((0 : Fin 2) : Nat) = 0 := by decide +kernel
theorem vl1 : Int64.ofNat ((1 : Fin 2) : Nat) = 1 := by decide +kernel
theorem vs160 : (Int16.ofInt (160)).toInt32 = 160 := by decide +kernel
theorem vs165 : (Int16.ofInt (165)).toInt32 = 165 := by decide +kernel
theorem vs200 : (Int16.ofInt (200)).toInt32 = 200 := by decide +kernel
theorem vs220 : (Int16.ofInt (220)).toInt32 = 220 := by decide +kernel
theorem vs245 : (Int16.ofInt (245)).toInt32 = 245 := by decide +kernel
theorem vs255 : (Int16.ofInt (255)).toInt32 = 255 := by decide +kernel
theorem vs274 : (Int16.ofInt (274)).toInt32 = 274 := by decide +kernel
theorem vs275 : (Int16.ofInt (275)).toInt32 = 275 := by decide +kernel
theorem vs304 : (Int16.ofInt (304)).toInt32 = 304 := by decide +kernel
theorem vs308 : (Int16.ofInt (308)).toInt32 = 308 := by decide +kernel
theorem vs330 : (Int16.ofInt (330)).toInt32 = 330 := by decide +kernel
theorem vs336 : (Int16.ofInt (336)).toInt32 = 336 := by decide +kernel
theorem vs999 : (Int16.ofInt (999)).toInt32 = 999 := by decide +kernel
theorem vs1000 : (Int16.ofInt (1000)).toInt32 = 1000 := by decide +kernel
theorem vs12345 : (Int16.ofInt (12345)).toInt32 = 12345 := by decide +kernel
theorem vs32767 : (Int16.ofInt (32767)).toInt32 = 32767 := by decide +kernel
