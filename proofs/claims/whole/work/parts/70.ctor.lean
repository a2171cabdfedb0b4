/-! ===== the constructors ===== -/
theorem hoX0 : zMo mX0_init ≠ "HueLeaseLaw" := by decide
theorem hoX1 : zMo mX1_init ≠ "HueLeaseLaw" := by decide
theorem hoX2 : zMo mX2_init ≠ "HueLeaseLaw" := by decide
theorem hoX3 : zMo mX3_init ≠ "HueLeaseLaw" := by decide
theorem hoX4 : zMo mX4_init ≠ "HueLeaseLaw" := by decide
theorem hoX5 : zMo mX5_init ≠ "HueLeaseLaw" := by decide
theorem hoX6 : zMo mX6_init ≠ "HueLeaseLaw" := by decide
theorem hoX7 : zMo mX7_init ≠ "HueLeaseLaw" := by decide
theorem bk_le {n : Nat} (h : zBk n) : n ≤ 143 := of_decide_eq_true (List.all_eq_true.mp (show zBks.all (fun n => decide (n ≤ 143)) = true by decide +kernel) n h)
theorem shS {i : Nat} (h : i < 4) : zSh[150 + 2 * i]? = some (8, 400 * (150 + 2 * i) + 0, 3, [(false, 400 * (150 + 2 * i) + 0), (false, 400 * (150 + 2 * i) + 1), (true, 150 + 2 * i + 1)]) ∧ zSh[150 + 2 * i + 1]? = some (0, 400 * (150 + 2 * i + 1) + 0, 40, []) := by
  have : i = 0 ∨ i = 1 ∨ i = 2 ∨ i = 3 := by omega
  rcases this with rfl | rfl | rfl | rfl <;> exact ⟨by decide +kernel, by decide +kernel⟩
theorem k_X0 {l : Launch} {G : zG} {n : Nat} (hb : zBk n) : Cto l yX0_init mX0_init G 0 fX0 (n) 7 := by
  intro A E hE
  refine zMet.of (by decide) rfl (Nat.le_of_ble_eq_true rfl) (Or.inl rfl) fun X hX hq => ?_
  subst hX
  show Z G X mX0_init 0 0 (zV A E (n + 1)) 0 [some (.ref (A (n)))] []
  have I0 : zI G A E (n) [] (n + 1) A E := zI.rf
  replace hE : E (n) = .inr (0, [.int 0, .int 0, .int 0, .int 0, .int 0, .null, .null, .null, .null, .null, .null]) := hE
  have hn := bk_le hb
  refine z_aload_n 1 dX0_init_0 rfl rfl ?_
  refine c_obj 4 ob_X0 (Nat.le_of_ble_eq_true rfl) (Nat.le_of_ble_eq_true rfl) dX0_init_1 rfl ?_
  refine z_aload_n 5 dX0_init_4 rfl rfl ?_
  refine z_iconst 6 dX0_init_5 vi5 rfl ?_
  refine c_newI 8 (M := 5) (by decide) (by decide) (Nat.le_of_ble_eq_true rfl) (Nat.le_of_ble_eq_true rfl) dX0_init_6 rfl fun A1 E1 g1 h1 e1 => ?_
  have I1 := I0.arr g1 h1 (zDone.I (bk1 hb) e1 (fun j hj => (s0_lo (by omega) : s0 _ = 0).symm))
  have f2 : E1 (n) = .inr (0, [.int 0, .int 0, .int 0, .int 0, .int 0, .null, .null, .null, .null, .null, .null]) := by
    rw [h1 _ I0.1, hE]
  refine c_putF 11 (n) I1.1 I1.q f2 fp_X0_9 (by decide) hoX0 rfl rfl (Nat.le_of_ble_eq_true rfl) dX0_init_8 rfl fun E3 h3 e3 => ?_
  have I3 := I1.put h3 (Or.inl rfl)
  have f3 : E3 (n) = .inr (0, [.int 0, .int 0, .int 0, .int 0, .int 0, .ref (A1 (n + 1)), .null, .null, .null, .null, .null]) := e3
  refine z_aload_n 12 dX0_init_11 rfl rfl ?_
  refine z_bipush 14 dX0_init_12 vb15 rfl ?_
  refine c_newI 16 (M := 15) (by decide) (by decide) (Nat.le_of_ble_eq_true rfl) (Nat.le_of_ble_eq_true rfl) dX0_init_14 rfl fun A4 E4 g4 h4 e4 => ?_
  have I4 := I3.arr g4 h4 (zDone.L (bk2 hb) e4 (fun j hj => s0_lo (by omega)))
  have f5 : E4 (n) = .inr (0, [.int 0, .int 0, .int 0, .int 0, .int 0, .ref (A4 (n + 1)), .null, .null, .null, .null, .null]) := by
    rw [h4 _ I3.1, f3, g4 (n + 1) (by omega)]
  refine c_putF 19 (n) I4.1 I4.q f5 fp_X0_15 (by decide) hoX0 rfl rfl (Nat.le_of_ble_eq_true rfl) dX0_init_16 rfl fun E6 h6 e6 => ?_
  have I6 := I4.put h6 (Or.inl rfl)
  have f6 : E6 (n) = .inr (0, [.int 0, .int 0, .int 0, .int 0, .int 0, .ref (A4 (n + 1)), .ref (A4 (n + 2)), .null, .null, .null, .null]) := e6
  refine z_aload_n 20 dX0_init_19 rfl rfl ?_
  refine z_iconst 21 dX0_init_20 vi5 rfl ?_
  refine c_newI 23 (M := 5) (by decide) (by decide) (Nat.le_of_ble_eq_true rfl) (Nat.le_of_ble_eq_true rfl) dX0_init_21 rfl fun A7 E7 g7 h7 e7 => ?_
  have I7 := I6.arr g7 h7 (zDone.I (bk3 hb) e7 (fun j hj => (s0_lo (by omega) : s0 _ = 0).symm))
  have f8 : E7 (n) = .inr (0, [.int 0, .int 0, .int 0, .int 0, .int 0, .ref (A7 (n + 1)), .ref (A7 (n + 2)), .null, .null, .null, .null]) := by
    rw [h7 _ I6.1, f6, g7 (n + 1) (by omega), g7 (n + 2) (by omega)]
  refine c_putF 26 (n) I7.1 I7.q f8 fp_X0_18 (by decide) hoX0 rfl rfl (Nat.le_of_ble_eq_true rfl) dX0_init_23 rfl fun E9 h9 e9 => ?_
  have I9 := I7.put h9 (Or.inl rfl)
  have f9 : E9 (n) = .inr (0, [.int 0, .int 0, .int 0, .int 0, .int 0, .ref (A7 (n + 1)), .ref (A7 (n + 2)), .ref (A7 (n + 3)), .null, .null, .null]) := e9
  refine z_aload_n 27 dX0_init_26 rfl rfl ?_
  refine z_iconst 28 dX0_init_27 vi4 rfl ?_
  refine c_newI 30 (M := 4) (by decide) (by decide) (Nat.le_of_ble_eq_true rfl) (Nat.le_of_ble_eq_true rfl) dX0_init_28 rfl fun A10 E10 g10 h10 e10 => ?_
  have I10 := I9.arr g10 h10 (zDone.I (bk4 hb) e10 (fun j hj => (s0_lo (by omega) : s0 _ = 0).symm))
  have f11 : E10 (n) = .inr (0, [.int 0, .int 0, .int 0, .int 0, .int 0, .ref (A10 (n + 1)), .ref (A10 (n + 2)), .ref (A10 (n + 3)), .null, .null, .null]) := by
    rw [h10 _ I9.1, f9, g10 (n + 1) (by omega), g10 (n + 2) (by omega), g10 (n + 3) (by omega)]
  refine c_putF 33 (n) I10.1 I10.q f11 fp_X0_21 (by decide) hoX0 rfl rfl (Nat.le_of_ble_eq_true rfl) dX0_init_30 rfl fun E12 h12 e12 => ?_
  have I12 := I10.put h12 (Or.inl rfl)
  have f12 : E12 (n) = .inr (0, [.int 0, .int 0, .int 0, .int 0, .int 0, .ref (A10 (n + 1)), .ref (A10 (n + 2)), .ref (A10 (n + 3)), .ref (A10 (n + 4)), .null, .null]) := e12
  refine z_aload_n 34 dX0_init_33 rfl rfl ?_
  refine z_iconst 35 dX0_init_34 vi4 rfl ?_
  refine c_newI 37 (M := 4) (by decide) (by decide) (Nat.le_of_ble_eq_true rfl) (Nat.le_of_ble_eq_true rfl) dX0_init_35 rfl fun A13 E13 g13 h13 e13 => ?_
  have I13 := I12.arr g13 h13 (zDone.I (bk5 hb) e13 (fun j hj => (s0_lo (by omega) : s0 _ = 0).symm))
  have f14 : E13 (n) = .inr (0, [.int 0, .int 0, .int 0, .int 0, .int 0, .ref (A13 (n + 1)), .ref (A13 (n + 2)), .ref (A13 (n + 3)), .ref (A13 (n + 4)), .null, .null]) := by
    rw [h13 _ I12.1, f12, g13 (n + 1) (by omega), g13 (n + 2) (by omega), g13 (n + 3) (by omega), g13 (n + 4) (by omega)]
  refine c_putF 40 (n) I13.1 I13.q f14 fp_X0_24 (by decide) hoX0 rfl rfl (Nat.le_of_ble_eq_true rfl) dX0_init_37 rfl fun E15 h15 e15 => ?_
  have I15 := I13.put h15 (Or.inl rfl)
  have f15 : E15 (n) = .inr (0, [.int 0, .int 0, .int 0, .int 0, .int 0, .ref (A13 (n + 1)), .ref (A13 (n + 2)), .ref (A13 (n + 3)), .ref (A13 (n + 4)), .ref (A13 (n + 5)), .null]) := e15
  refine z_aload_n 41 dX0_init_40 rfl rfl ?_
  refine z_bipush 43 dX0_init_41 vb20 rfl ?_
  refine c_newI 45 (M := 20) (by decide) (by decide) (Nat.le_of_ble_eq_true rfl) (Nat.le_of_ble_eq_true rfl) dX0_init_43 rfl fun A16 E16 g16 h16 e16 => ?_
  have I16 := I15.arr g16 h16 (zDone.I (bk6 hb) e16 (fun j hj => (s0_lo (by omega) : s0 _ = 0).symm))
  have f17 : E16 (n) = .inr (0, [.int 0, .int 0, .int 0, .int 0, .int 0, .ref (A16 (n + 1)), .ref (A16 (n + 2)), .ref (A16 (n + 3)), .ref (A16 (n + 4)), .ref (A16 (n + 5)), .null]) := by
    rw [h16 _ I15.1, f15, g16 (n + 1) (by omega), g16 (n + 2) (by omega), g16 (n + 3) (by omega), g16 (n + 4) (by omega), g16 (n + 5) (by omega)]
  refine c_putF 48 (n) I16.1 I16.q f17 fp_X0_27 (by decide) hoX0 rfl rfl (Nat.le_of_ble_eq_true rfl) dX0_init_45 rfl fun E18 h18 e18 => ?_
  have I18 := I16.put h18 (Or.inl rfl)
  have f18 : E18 (n) = .inr (0, [.int 0, .int 0, .int 0, .int 0, .int 0, .ref (A16 (n + 1)), .ref (A16 (n + 2)), .ref (A16 (n + 3)), .ref (A16 (n + 4)), .ref (A16 (n + 5)), .ref (A16 (n + 6))]) := e18
  refine z_vret hq rfl dX0_init_48 rfl rfl ?_
  refine I18.post (zDone.O (bk0 hb) (by
    intro q hq h
    simp only [List.mem_cons, List.not_mem_nil, or_false] at hq
    rcases hq with rfl | rfl | rfl | rfl | rfl | rfl | rfl | rfl | rfl | rfl | rfl <;> first | exact absurd (show false = true from h) (by decide) | (dsimp only; omega)) (f18.trans (by
    show _ = (Sum.inr (0, [.int (s0 (400 * n + 56)), .int (s0 (400 * n + 57)), .int (s0 (400 * n + 53)), .int (s0 (400 * n + 54)), .int (s0 (400 * n + 55)), .ref (A16 (n + 1)), .ref (A16 (n + 2)), .ref (A16 (n + 3)), .ref (A16 (n + 4)), .ref (A16 (n + 5)), .ref (A16 (n + 6))]) : va_E)
    rw [s0_lo (x := 400 * n + 56) (by omega), s0_lo (x := 400 * n + 57) (by omega), s0_lo (x := 400 * n + 53) (by omega), s0_lo (x := 400 * n + 54) (by omega), s0_lo (x := 400 * n + 55) (by omega)]))) rfl
theorem k_X1 {l : Launch} {G : zG} : Cto l yX1_init mX1_init G 1 fX1 (35) 4 := by
  intro A E hE
  refine zMet.of (by decide) rfl (Nat.le_of_ble_eq_true rfl) (Or.inl rfl) fun X hX hq => ?_
  subst hX
  show Z G X mX1_init 0 0 (zV A E (35 + 1)) 0 [some (.ref (A (35)))] []
  have I0 : zI G A E (35) [] (35 + 1) A E := zI.rf
  replace hE : E (35) = .inr (1, [.int 0, .null, .null, .null]) := hE
  refine z_aload_n 1 dX1_init_0 rfl rfl ?_
  refine c_obj 4 ob_X1 (Nat.le_of_ble_eq_true rfl) (Nat.le_of_ble_eq_true rfl) dX1_init_1 rfl ?_
  refine z_aload_n 5 dX1_init_4 rfl rfl ?_
  refine z_bipush 7 dX1_init_5 vb6 rfl ?_
  refine c_newI 9 (M := 6) (by decide) (by decide) (Nat.le_of_ble_eq_true rfl) (Nat.le_of_ble_eq_true rfl) dX1_init_7 rfl fun A1 E1 g1 h1 e1 => ?_
  have I1 := I0.arr g1 h1 (zDone.I (sh36) e1 (fun j hj => (s0_lo (by omega) : s0 _ = 0).symm))
  have f2 : E1 (35) = .inr (1, [.int 0, .null, .null, .null]) := by
    rw [h1 _ I0.1, hE]
  refine c_putF 12 (35) I1.1 I1.q f2 fp_X1_9 (by decide) hoX1 rfl rfl (Nat.le_of_ble_eq_true rfl) dX1_init_9 rfl fun E3 h3 e3 => ?_
  have I3 := I1.put h3 (Or.inl rfl)
  have f3 : E3 (35) = .inr (1, [.int 0, .ref (A1 (36)), .null, .null]) := e3
  refine z_aload_n 13 dX1_init_12 rfl rfl ?_
  refine z_bipush 15 dX1_init_13 vb6 rfl ?_
  refine c_newI 17 (M := 6) (by decide) (by decide) (Nat.le_of_ble_eq_true rfl) (Nat.le_of_ble_eq_true rfl) dX1_init_15 rfl fun A4 E4 g4 h4 e4 => ?_
  have I4 := I3.arr g4 h4 (zDone.I (sh37) e4 (fun j hj => (s0_lo (by omega) : s0 _ = 0).symm))
  have f5 : E4 (35) = .inr (1, [.int 0, .ref (A4 (36)), .null, .null]) := by
    rw [h4 _ I3.1, f3, g4 (36) (by omega)]
  refine c_putF 20 (35) I4.1 I4.q f5 fp_X1_15 (by decide) hoX1 rfl rfl (Nat.le_of_ble_eq_true rfl) dX1_init_17 rfl fun E6 h6 e6 => ?_
  have I6 := I4.put h6 (Or.inl rfl)
  have f6 : E6 (35) = .inr (1, [.int 0, .ref (A4 (36)), .ref (A4 (37)), .null]) := e6
  refine z_aload_n 21 dX1_init_20 rfl rfl ?_
  refine z_bipush 23 dX1_init_21 vb6 rfl ?_
  refine c_newI 25 (M := 6) (by decide) (by decide) (Nat.le_of_ble_eq_true rfl) (Nat.le_of_ble_eq_true rfl) dX1_init_23 rfl fun A7 E7 g7 h7 e7 => ?_
  have I7 := I6.arr g7 h7 (zDone.I (sh38) e7 (fun j hj => (s0_lo (by omega) : s0 _ = 0).symm))
  have f8 : E7 (35) = .inr (1, [.int 0, .ref (A7 (36)), .ref (A7 (37)), .null]) := by
    rw [h7 _ I6.1, f6, g7 (36) (by omega), g7 (37) (by omega)]
  refine c_putF 28 (35) I7.1 I7.q f8 fp_X1_18 (by decide) hoX1 rfl rfl (Nat.le_of_ble_eq_true rfl) dX1_init_25 rfl fun E9 h9 e9 => ?_
  have I9 := I7.put h9 (Or.inl rfl)
  have f9 : E9 (35) = .inr (1, [.int 0, .ref (A7 (36)), .ref (A7 (37)), .ref (A7 (38))]) := e9
  refine z_vret hq rfl dX1_init_28 rfl rfl ?_
  refine I9.post (zDone.O (sh35) (by decide) (f9.trans (by
    show _ = (Sum.inr (1, [.int (s0 (400 * 35 + 0)), .ref (A7 (36)), .ref (A7 (37)), .ref (A7 (38))]) : va_E)
    rw [s0_lo (x := 400 * 35 + 0) (by omega)]))) rfl
theorem k_X2 {l : Launch} {G : zG} : Cto l yX2_init mX2_init G 2 fX2 (39) 3 := by
  intro A E hE
  refine zMet.of (by decide) rfl (Nat.le_of_ble_eq_true rfl) (Or.inl rfl) fun X hX hq => ?_
  subst hX
  show Z G X mX2_init 0 0 (zV A E (39 + 1)) 0 [some (.ref (A (39)))] []
  have I0 : zI G A E (39) [] (39 + 1) A E := zI.rf
  replace hE : E (39) = .inr (2, [.int 0, .int 0, .null, .null, .int 0, .int 0]) := hE
  refine z_aload_n 1 dX2_init_0 rfl rfl ?_
  refine c_obj 4 ob_X2 (Nat.le_of_ble_eq_true rfl) (Nat.le_of_ble_eq_true rfl) dX2_init_1 rfl ?_
  refine z_aload_n 5 dX2_init_4 rfl rfl ?_
  refine z_iconst 6 dX2_init_5 vi5 rfl ?_
  refine c_newI 8 (M := 5) (by decide) (by decide) (Nat.le_of_ble_eq_true rfl) (Nat.le_of_ble_eq_true rfl) dX2_init_6 rfl fun A1 E1 g1 h1 e1 => ?_
  have I1 := I0.arr g1 h1 (zDone.I (sh40) e1 (fun j hj => (s0_lo (by omega) : s0 _ = 0).symm))
  have f2 : E1 (39) = .inr (2, [.int 0, .int 0, .null, .null, .int 0, .int 0]) := by
    rw [h1 _ I0.1, hE]
  refine c_putF 11 (39) I1.1 I1.q f2 fp_X2_9 (by decide) hoX2 rfl rfl (Nat.le_of_ble_eq_true rfl) dX2_init_8 rfl fun E3 h3 e3 => ?_
  have I3 := I1.put h3 (Or.inl rfl)
  have f3 : E3 (39) = .inr (2, [.int 0, .int 0, .ref (A1 (40)), .null, .int 0, .int 0]) := e3
  refine z_aload_n 12 dX2_init_11 rfl rfl ?_
  refine z_iconst 13 dX2_init_12 vi5 rfl ?_
  refine c_newI 15 (M := 5) (by decide) (by decide) (Nat.le_of_ble_eq_true rfl) (Nat.le_of_ble_eq_true rfl) dX2_init_13 rfl fun A4 E4 g4 h4 e4 => ?_
  have I4 := I3.arr g4 h4 (zDone.I (sh41) e4 (fun j hj => (s0_lo (by omega) : s0 _ = 0).symm))
  have f5 : E4 (39) = .inr (2, [.int 0, .int 0, .ref (A4 (40)), .null, .int 0, .int 0]) := by
    rw [h4 _ I3.1, f3, g4 (40) (by omega)]
  refine c_putF 18 (39) I4.1 I4.q f5 fp_X2_15 (by decide) hoX2 rfl rfl (Nat.le_of_ble_eq_true rfl) dX2_init_15 rfl fun E6 h6 e6 => ?_
  have I6 := I4.put h6 (Or.inl rfl)
  have f6 : E6 (39) = .inr (2, [.int 0, .int 0, .ref (A4 (40)), .ref (A4 (41)), .int 0, .int 0]) := e6
  refine z_vret hq rfl dX2_init_18 rfl rfl ?_
  refine I6.post (zDone.O (sh39) (by decide) (f6.trans (by
    show _ = (Sum.inr (2, [.int (s0 (400 * 39 + 0)), .int (s0 (400 * 39 + 1)), .ref (A4 (40)), .ref (A4 (41)), .int (s0 (400 * 39 + 4)), .int (s0 (400 * 39 + 5))]) : va_E)
    rw [s0_lo (x := 400 * 39 + 0) (by omega), s0_lo (x := 400 * 39 + 1) (by omega), s0_lo (x := 400 * 39 + 4) (by omega), s0_lo (x := 400 * 39 + 5) (by omega)]))) rfl
theorem k_X4 {l : Launch} {G : zG} : Cto l yX4_init mX4_init G 4 fX4 (19) 16 := by
  intro A E hE
  refine zMet.of (by decide) rfl (Nat.le_of_ble_eq_true rfl) (Or.inl rfl) fun X hX hq => ?_
  subst hX
  show Z G X mX4_init 0 0 (zV A E (19 + 1)) 0 [some (.ref (A (19)))] []
  have I0 : zI G A E (19) [] (19 + 1) A E := zI.rf
  replace hE : E (19) = .inr (4, [.null, .int 0, .int 0, .int 0, .null, .null, .int 0, .int 0, .int 0, .int 0, .int 0]) := hE
  refine z_aload_n 1 dX4_init_0 rfl rfl ?_
  refine c_obj 4 ob_X4 (Nat.le_of_ble_eq_true rfl) (Nat.le_of_ble_eq_true rfl) dX4_init_1 rfl ?_
  refine z_aload_n 5 dX4_init_4 rfl rfl ?_
  refine z_sipush 8 dX4_init_5 vs160 rfl ?_
  refine c_newI 10 (M := 160) (by decide) (by decide) (Nat.le_of_ble_eq_true rfl) (Nat.le_of_ble_eq_true rfl) dX4_init_8 rfl fun A1 E1 g1 h1 e1 => ?_
  have I1 := I0.arr g1 h1 (zDone.I (sh20) e1 (fun j hj => (s0_lo (by omega) : s0 _ = 0).symm))
  have f2 : E1 (19) = .inr (4, [.null, .int 0, .int 0, .int 0, .null, .null, .int 0, .int 0, .int 0, .int 0, .int 0]) := by
    rw [h1 _ I0.1, hE]
  refine c_putF 13 (19) I1.1 I1.q f2 fp_X4_9 (by decide) hoX4 rfl rfl (Nat.le_of_ble_eq_true rfl) dX4_init_10 rfl fun E3 h3 e3 => ?_
  have I3 := I1.put h3 (Or.inl rfl)
  have f3 : E3 (19) = .inr (4, [.ref (A1 (20)), .int 0, .int 0, .int 0, .null, .null, .int 0, .int 0, .int 0, .int 0, .int 0]) := e3
  refine z_aload_n 14 dX4_init_13 rfl rfl ?_
  refine c_mkN 21 (k_X0 bkm21) nw_X4_15 ci_X4_17 ⟨(Nat.le_of_ble_eq_true rfl), (Nat.le_of_ble_eq_true rfl), (Nat.le_of_ble_eq_true rfl), (Nat.le_of_ble_eq_true rfl)⟩ (Nat.le_of_ble_eq_true rfl) dX4_init_14 dX4_init_17 dX4_init_18 rfl fun A4 E4 g4 h4 d4 => ?_
  have I4 := I3.ext g4 h4 (Nat.le_add_right _ _) d4
  have f5 : E4 (19) = .inr (4, [.ref (A4 (20)), .int 0, .int 0, .int 0, .null, .null, .int 0, .int 0, .int 0, .int 0, .int 0]) := by
    rw [h4 _ I3.1, f3, g4 (20) (by omega)]
  refine c_putF 24 (19) I4.1 I4.q f5 fp_X4_18 (by decide) hoX4 rfl rfl (Nat.le_of_ble_eq_true rfl) dX4_init_21 rfl fun E6 h6 e6 => ?_
  have I6 := I4.put h6 (Or.inl rfl)
  have f6 : E6 (19) = .inr (4, [.ref (A4 (20)), .int 0, .int 0, .int 0, .ref (A4 (21)), .null, .int 0, .int 0, .int 0, .int 0, .int 0]) := e6
  refine z_aload_n 25 dX4_init_24 rfl rfl ?_
  refine c_mkN 32 (k_X0 bkm28) nw_X4_15 ci_X4_17 ⟨(Nat.le_of_ble_eq_true rfl), (Nat.le_of_ble_eq_true rfl), (Nat.le_of_ble_eq_true rfl), (Nat.le_of_ble_eq_true rfl)⟩ (Nat.le_of_ble_eq_true rfl) dX4_init_25 dX4_init_28 dX4_init_29 rfl fun A7 E7 g7 h7 d7 => ?_
  have I7 := I6.ext g7 h7 (Nat.le_add_right _ _) d7
  have f8 : E7 (19) = .inr (4, [.ref (A7 (20)), .int 0, .int 0, .int 0, .ref (A7 (21)), .null, .int 0, .int 0, .int 0, .int 0, .int 0]) := by
    rw [h7 _ I6.1, f6, g7 (20) (by omega), g7 (21) (by omega)]
  refine c_putF 35 (19) I7.1 I7.q f8 fp_X4_22 (by decide) hoX4 rfl rfl (Nat.le_of_ble_eq_true rfl) dX4_init_32 rfl fun E9 h9 e9 => ?_
  have I9 := I7.put h9 (Or.inl rfl)
  have f9 : E9 (19) = .inr (4, [.ref (A7 (20)), .int 0, .int 0, .int 0, .ref (A7 (21)), .ref (A7 (28)), .int 0, .int 0, .int 0, .int 0, .int 0]) := e9
  refine z_vret hq rfl dX4_init_35 rfl rfl ?_
  refine I9.post (zDone.O (sh19) (by decide) (f9.trans (by
    show _ = (Sum.inr (4, [.ref (A7 (20)), .int (s0 (400 * 19 + 1)), .int (s0 (400 * 19 + 2)), .int (s0 (400 * 19 + 3)), .ref (A7 (21)), .ref (A7 (28)), .int (s0 (400 * 19 + 6)), .int (s0 (400 * 19 + 7)), .int (s0 (400 * 19 + 8)), .int (s0 (400 * 19 + 9)), .int (s0 (400 * 19 + 10))]) : va_E)
    rw [s0_lo (x := 400 * 19 + 1) (by omega), s0_lo (x := 400 * 19 + 2) (by omega), s0_lo (x := 400 * 19 + 3) (by omega), s0_lo (x := 400 * 19 + 6) (by omega), s0_lo (x := 400 * 19 + 7) (by omega), s0_lo (x := 400 * 19 + 8) (by omega), s0_lo (x := 400 * 19 + 9) (by omega), s0_lo (x := 400 * 19 + 10) (by omega)]))) rfl
theorem k_X3 {l : Launch} {G : zG} {i : Nat} (hi : i < 4) : Cto l yX3_init mX3_init G 3 fX3 (150 + 2 * i) 2 := by
  intro A E hE
  refine zMet.of (by decide) rfl (Nat.le_of_ble_eq_true rfl) (Or.inl rfl) fun X hX hq => ?_
  subst hX
  show Z G X mX3_init 0 0 (zV A E (150 + 2 * i + 1)) 0 [some (.ref (A (150 + 2 * i)))] []
  have I0 : zI G A E (150 + 2 * i) [] (150 + 2 * i + 1) A E := zI.rf
  replace hE : E (150 + 2 * i) = .inr (3, [.int 0, .int 0, .null]) := hE
  refine z_aload_n 1 dX3_init_0 rfl rfl ?_
  refine c_obj 4 ob_X3 (Nat.le_of_ble_eq_true rfl) (Nat.le_of_ble_eq_true rfl) dX3_init_1 rfl ?_
  refine z_aload_n 5 dX3_init_4 rfl rfl ?_
  refine z_iconst 6 dX3_init_5 vim1 rfl ?_
  refine c_put 9 (150 + 2 * i) I0.1 I0.q hE fp_X3_9 rfl rfl (Nat.le_of_ble_eq_true rfl) dX3_init_6 rfl fun E1 h1 e1 => ?_
  have I1 := I0.put h1 (Or.inl rfl)
  have f1 : E1 (150 + 2 * i) = .inr (3, [.int 0, .int (-1), .null]) := e1
  refine z_aload_n 10 dX3_init_9 rfl rfl ?_
  refine z_bipush 12 dX3_init_10 vb40 rfl ?_
  refine c_newI 14 (M := 40) (by decide) (by decide) (Nat.le_of_ble_eq_true rfl) (Nat.le_of_ble_eq_true rfl) dX3_init_12 rfl fun A2 E2 g2 h2 e2 => ?_
  have I2 := I1.arr g2 h2 (zDone.I ((shS hi).2) e2 (fun j hj => (s0_0 (by omega) (by omega) (by omega) (by omega) : s0 _ = 0).symm))
  have f3 : E2 (150 + 2 * i) = .inr (3, [.int 0, .int (-1), .null]) := by
    rw [h2 _ I1.1, f1]
  refine c_putF 17 (150 + 2 * i) I2.1 I2.q f3 fp_X3_15 (by decide) hoX3 rfl rfl (Nat.le_of_ble_eq_true rfl) dX3_init_14 rfl fun E4 h4 e4 => ?_
  have I4 := I2.put h4 (Or.inl rfl)
  have f4 : E4 (150 + 2 * i) = .inr (3, [.int 0, .int (-1), .ref (A2 (150 + 2 * i + 1))]) := e4
  refine z_vret hq rfl dX3_init_17 rfl rfl ?_
  refine I4.post (zDone.O ((shS hi).1) (by
    intro q hq h
    simp only [List.mem_cons, List.not_mem_nil, or_false] at hq
    rcases hq with rfl | rfl | rfl <;> first | exact absurd (show false = true from h) (by decide) | (dsimp only; omega)) (f4.trans (by
    show _ = (Sum.inr (3, [.int (s0 (400 * (150 + 2 * i) + 0)), .int (s0 (400 * (150 + 2 * i) + 1)), .ref (A2 (150 + 2 * i + 1))]) : va_E)
    rw [s0_0 (x := 400 * (150 + 2 * i) + 0) (by omega) (by omega) (by omega) (by omega), s0_sz hi]))) rfl
