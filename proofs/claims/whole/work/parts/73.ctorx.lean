/-! ===== the class is made ===== -/
theorem lp_X6a_b {i : Nat} (h : i < 2) : zBk (108 + 7 * i) := by
  have : i = 0 ∨ i = 1 := by omega
  rcases this with rfl | rfl <;> (show _ ∈ zBks; decide)
theorem lp_X6a {G : zG} {X : zX} {A0 : Nat → Nat} {E0 : Nat → va_E} (k : ∀ (A : Nat → Nat) (E : Nat → va_E), zI G A0 E0 0 [107, 17, 15] (108 + 7 * 2) A E → E 0 = .inr (6, [.ref (A (1)), .ref (A (8)), .ref (A (15)), .ref (A (16)), .ref (A (17)), .ref (A (18)), .ref (A (19)), .ref (A (35)), .ref (A (39)), .ref (A (42)), .ref (A (107)), .int 0]) → (∃ u : Nat → Option Nat, E 15 = eR (zcB G) 2 u ∧ ∀ j, u j = if j < 2 then some (A (108 + 7 * j)) else none) → E 17 = eR (zcB G) 4 (fun _ => none) → E 107 = eR (zcS G) 4 (fun _ => none) → Z G X mX6_init (107 + 7 * 2) (1071 + 64 * 2) (zV A E (108 + 7 * 2)) 139 [some (.ref (A0 0)), some (.int (nI 2))] []) : ∀ (d i : Nat), i + d = 2 → ∀ (A : Nat → Nat) (E : Nat → va_E), zI G A0 E0 0 [107, 17, 15] (108 + 7 * i) A E → E 0 = .inr (6, [.ref (A (1)), .ref (A (8)), .ref (A (15)), .ref (A (16)), .ref (A (17)), .ref (A (18)), .ref (A (19)), .ref (A (35)), .ref (A (39)), .ref (A (42)), .ref (A (107)), .int 0]) → (∃ u : Nat → Option Nat, E 15 = eR (zcB G) 2 u ∧ ∀ j, u j = if j < i then some (A (108 + 7 * j)) else none) → E 17 = eR (zcB G) 4 (fun _ => none) → E 107 = eR (zcS G) 4 (fun _ => none) → Z G X mX6_init (107 + 7 * i) (1071 + 64 * i) (zV A E (108 + 7 * i)) 115 [some (.ref (A0 0)), some (.int (nI i))] []
  | 0, i, hi, A, E, I, f, hu, o0, o1 => by
    obtain rfl : i = 2 := by omega
    refine z_iload_n 116 dX6_init_115 rfl rfl ?_
    refine z_iconst 117 dX6_init_116 vi2 rfl ?_
    refine z_icmp_ge_t 139 dX6_init_117 rfl (by decide) ?_
    exact k A E I f hu o0 o1
  | d + 1, i, hi, A, E, I, f, ⟨u, eu, hu⟩, o0, o1 => by
    have hi2 : i < 2 := by omega
    refine z_iload_n 116 dX6_init_115 rfl rfl ?_
    refine z_iconst 117 dX6_init_116 vi2 rfl ?_
    refine z_icmp_ge_f 120 139 dX6_init_117 rfl (show ¬ (2 : Int32) ≤ nI i from nI_ge (b := 2) hi2 (by decide)) rfl ?_
    refine z_aload_n 121 dX6_init_120 rfl rfl ?_
    refine c_get 124 0 I.1 I.q f fl_X6_19 rfl dX6_init_121 rfl ?_
    refine z_iload_n 125 dX6_init_124 rfl rfl ?_
    refine c_mkN 132 (k_X0 (lp_X6a_b hi2)) nw_X6_7 ci_X6_9 ⟨(Nat.le_of_ble_eq_true rfl), (Nat.le_of_ble_eq_true rfl), (by show 107 + 7 * i + 1 + 6 ≤ 157; omega), (by show 1071 + 64 * i + 11 + 53 ≤ 1627; omega)⟩ (Nat.le_of_ble_eq_true rfl) dX6_init_125 dX6_init_128 dX6_init_129 rfl fun A1 E1 g1 h1 d1 => ?_
    have I1 := I.ext g1 h1 (Nat.le_add_right _ _) d1
    have f1 : E1 0 = .inr (6, [.ref (A1 (1)), .ref (A1 (8)), .ref (A1 (15)), .ref (A1 (16)), .ref (A1 (17)), .ref (A1 (18)), .ref (A1 (19)), .ref (A1 (35)), .ref (A1 (39)), .ref (A1 (42)), .ref (A1 (107)), .int 0]) := by
      rw [h1 _ I.1, f, g1 1 (by omega), g1 8 (by omega), g1 15 (by omega), g1 16 (by omega), g1 17 (by omega), g1 18 (by omega), g1 19 (by omega), g1 35 (by omega), g1 39 (by omega), g1 42 (by omega), g1 107 (by omega)]
    obtain ⟨w, ew⟩ := (d1 (108 + 7 * i) (Nat.le_refl _) (by omega)).obj (bk0 (lp_X6a_b hi2))
    refine c_aast 133 15 i (108 + 7 * i) 2 (by omega) (g1 15 (by omega)) ((h1 15 (by omega)).trans eu) rfl (by omega) rfl ew rfl rfl hi2 (by decide) dX6_init_132 rfl fun E2 h2 e2 => ?_
    refine z_iinc 136 [_, _] dX6_init_133 rfl (show _ + _ = nI (_ + 1) from nI_1 _) (by decide) rfl rfl rfl ?_
    refine z_goto 115 dX6_init_136 rfl ?_
    have I2 := I1.put h2 (Or.inr ⟨by decide, by decide⟩)
    have f2 := (h2 0 (by decide)).trans f1
    have ez : 108 + 7 * i + 7 = 108 + 7 * (i + 1) := by omega
    rw [ez] at I2 ⊢
    exact Z.num (by show 107 + 7 * i + 1 + 6 = _; omega) (by show 1071 + 64 * i + 11 + 53 = _; omega) (lp_X6a k d (i + 1) (by omega) A1 E2 I2 f2 ⟨_, e2, ref_up hu g1 (fun j hj => by omega)⟩ ((h2 17 (by decide)).trans ((h1 17 (by omega)).trans o0)) ((h2 107 (by decide)).trans ((h1 107 (by omega)).trans o1)))
theorem lp_X6b_b {i : Nat} (h : i < 4) : zBk (122 + 7 * i) := by
  have : i = 0 ∨ i = 1 ∨ i = 2 ∨ i = 3 := by omega
  rcases this with rfl | rfl | rfl | rfl <;> (show _ ∈ zBks; decide)
theorem lp_X6b {G : zG} {X : zX} {A0 : Nat → Nat} {E0 : Nat → va_E} (k : ∀ (A : Nat → Nat) (E : Nat → va_E), zI G A0 E0 0 [107, 17] (122 + 7 * 4) A E → E 0 = .inr (6, [.ref (A (1)), .ref (A (8)), .ref (A (15)), .ref (A (16)), .ref (A (17)), .ref (A (18)), .ref (A (19)), .ref (A (35)), .ref (A (39)), .ref (A (42)), .ref (A (107)), .int 0]) → (∃ u : Nat → Option Nat, E 17 = eR (zcB G) 4 u ∧ ∀ j, u j = if j < 4 then some (A (122 + 7 * j)) else none) → E 107 = eR (zcS G) 4 (fun _ => none) → Z G X mX6_init (121 + 7 * 4) (1199 + 64 * 4) (zV A E (122 + 7 * 4)) 165 [some (.ref (A0 0)), some (.int (nI 4))] []) : ∀ (d i : Nat), i + d = 4 → ∀ (A : Nat → Nat) (E : Nat → va_E), zI G A0 E0 0 [107, 17] (122 + 7 * i) A E → E 0 = .inr (6, [.ref (A (1)), .ref (A (8)), .ref (A (15)), .ref (A (16)), .ref (A (17)), .ref (A (18)), .ref (A (19)), .ref (A (35)), .ref (A (39)), .ref (A (42)), .ref (A (107)), .int 0]) → (∃ u : Nat → Option Nat, E 17 = eR (zcB G) 4 u ∧ ∀ j, u j = if j < i then some (A (122 + 7 * j)) else none) → E 107 = eR (zcS G) 4 (fun _ => none) → Z G X mX6_init (121 + 7 * i) (1199 + 64 * i) (zV A E (122 + 7 * i)) 141 [some (.ref (A0 0)), some (.int (nI i))] []
  | 0, i, hi, A, E, I, f, hu, o0 => by
    obtain rfl : i = 4 := by omega
    refine z_iload_n 142 dX6_init_141 rfl rfl ?_
    refine z_iconst 143 dX6_init_142 vi4 rfl ?_
    refine z_icmp_ge_t 165 dX6_init_143 rfl (by decide) ?_
    exact k A E I f hu o0
  | d + 1, i, hi, A, E, I, f, ⟨u, eu, hu⟩, o0 => by
    have hi2 : i < 4 := by omega
    refine z_iload_n 142 dX6_init_141 rfl rfl ?_
    refine z_iconst 143 dX6_init_142 vi4 rfl ?_
    refine z_icmp_ge_f 146 165 dX6_init_143 rfl (show ¬ (4 : Int32) ≤ nI i from nI_ge (b := 4) hi2 (by decide)) rfl ?_
    refine z_aload_n 147 dX6_init_146 rfl rfl ?_
    refine c_get 150 0 I.1 I.q f fl_X6_27 rfl dX6_init_147 rfl ?_
    refine z_iload_n 151 dX6_init_150 rfl rfl ?_
    refine c_mkN 158 (k_X0 (lp_X6b_b hi2)) nw_X6_7 ci_X6_9 ⟨(Nat.le_of_ble_eq_true rfl), (Nat.le_of_ble_eq_true rfl), (by show 121 + 7 * i + 1 + 6 ≤ 157; omega), (by show 1199 + 64 * i + 11 + 53 ≤ 1627; omega)⟩ (Nat.le_of_ble_eq_true rfl) dX6_init_151 dX6_init_154 dX6_init_155 rfl fun A1 E1 g1 h1 d1 => ?_
    have I1 := I.ext g1 h1 (Nat.le_add_right _ _) d1
    have f1 : E1 0 = .inr (6, [.ref (A1 (1)), .ref (A1 (8)), .ref (A1 (15)), .ref (A1 (16)), .ref (A1 (17)), .ref (A1 (18)), .ref (A1 (19)), .ref (A1 (35)), .ref (A1 (39)), .ref (A1 (42)), .ref (A1 (107)), .int 0]) := by
      rw [h1 _ I.1, f, g1 1 (by omega), g1 8 (by omega), g1 15 (by omega), g1 16 (by omega), g1 17 (by omega), g1 18 (by omega), g1 19 (by omega), g1 35 (by omega), g1 39 (by omega), g1 42 (by omega), g1 107 (by omega)]
    obtain ⟨w, ew⟩ := (d1 (122 + 7 * i) (Nat.le_refl _) (by omega)).obj (bk0 (lp_X6b_b hi2))
    refine c_aast 159 17 i (122 + 7 * i) 2 (by omega) (g1 17 (by omega)) ((h1 17 (by omega)).trans eu) rfl (by omega) rfl ew rfl rfl hi2 (by decide) dX6_init_158 rfl fun E2 h2 e2 => ?_
    refine z_iinc 162 [_, _] dX6_init_159 rfl (show _ + _ = nI (_ + 1) from nI_1 _) (by decide) rfl rfl rfl ?_
    refine z_goto 141 dX6_init_162 rfl ?_
    have I2 := I1.put h2 (Or.inr ⟨by decide, by decide⟩)
    have f2 := (h2 0 (by decide)).trans f1
    have ez : 122 + 7 * i + 7 = 122 + 7 * (i + 1) := by omega
    rw [ez] at I2 ⊢
    exact Z.num (by show 121 + 7 * i + 1 + 6 = _; omega) (by show 1199 + 64 * i + 11 + 53 = _; omega) (lp_X6b k d (i + 1) (by omega) A1 E2 I2 f2 ⟨_, e2, ref_up hu g1 (fun j hj => by omega)⟩ ((h2 107 (by decide)).trans ((h1 107 (by omega)).trans o0)))
theorem lp_X6c {G : zG} {X : zX} {A0 : Nat → Nat} {E0 : Nat → va_E} (k : ∀ (A : Nat → Nat) (E : Nat → va_E), zI G A0 E0 0 [107] (150 + 2 * 4) A E → E 0 = .inr (6, [.ref (A (1)), .ref (A (8)), .ref (A (15)), .ref (A (16)), .ref (A (17)), .ref (A (18)), .ref (A (19)), .ref (A (35)), .ref (A (39)), .ref (A (42)), .ref (A (107)), .int 0]) → (∃ u : Nat → Option Nat, E 107 = eR (zcS G) 4 u ∧ ∀ j, u j = if j < 4 then some (A (150 + 2 * j)) else none) → Z G X mX6_init (149 + 2 * 4) (1455 + 43 * 4) (zV A E (150 + 2 * 4)) 191 [some (.ref (A0 0)), some (.int (nI 4))] []) : ∀ (d i : Nat), i + d = 4 → ∀ (A : Nat → Nat) (E : Nat → va_E), zI G A0 E0 0 [107] (150 + 2 * i) A E → E 0 = .inr (6, [.ref (A (1)), .ref (A (8)), .ref (A (15)), .ref (A (16)), .ref (A (17)), .ref (A (18)), .ref (A (19)), .ref (A (35)), .ref (A (39)), .ref (A (42)), .ref (A (107)), .int 0]) → (∃ u : Nat → Option Nat, E 107 = eR (zcS G) 4 u ∧ ∀ j, u j = if j < i then some (A (150 + 2 * j)) else none) → Z G X mX6_init (149 + 2 * i) (1455 + 43 * i) (zV A E (150 + 2 * i)) 167 [some (.ref (A0 0)), some (.int (nI i))] []
  | 0, i, hi, A, E, I, f, hu => by
    obtain rfl : i = 4 := by omega
    refine z_iload_n 168 dX6_init_167 rfl rfl ?_
    refine z_iconst 169 dX6_init_168 vi4 rfl ?_
    refine z_icmp_ge_t 191 dX6_init_169 rfl (by decide) ?_
    exact k A E I f hu 
  | d + 1, i, hi, A, E, I, f, ⟨u, eu, hu⟩ => by
    have hi2 : i < 4 := by omega
    refine z_iload_n 168 dX6_init_167 rfl rfl ?_
    refine z_iconst 169 dX6_init_168 vi4 rfl ?_
    refine z_icmp_ge_f 172 191 dX6_init_169 rfl (show ¬ (4 : Int32) ≤ nI i from nI_ge (b := 4) hi2 (by decide)) rfl ?_
    refine z_aload_n 173 dX6_init_172 rfl rfl ?_
    refine c_get 176 0 I.1 I.q f fl_X6_64 rfl dX6_init_173 rfl ?_
    refine z_iload_n 177 dX6_init_176 rfl rfl ?_
    refine c_mkN 184 (k_X3 hi2) nw_X6_62 ci_X6_72 ⟨(Nat.le_of_ble_eq_true rfl), (Nat.le_of_ble_eq_true rfl), (by show 149 + 2 * i + 1 + 1 ≤ 157; omega), (by show 1455 + 43 * i + 3 + 40 ≤ 1627; omega)⟩ (Nat.le_of_ble_eq_true rfl) dX6_init_177 dX6_init_180 dX6_init_181 rfl fun A1 E1 g1 h1 d1 => ?_
    have I1 := I.ext g1 h1 (Nat.le_add_right _ _) d1
    have f1 : E1 0 = .inr (6, [.ref (A1 (1)), .ref (A1 (8)), .ref (A1 (15)), .ref (A1 (16)), .ref (A1 (17)), .ref (A1 (18)), .ref (A1 (19)), .ref (A1 (35)), .ref (A1 (39)), .ref (A1 (42)), .ref (A1 (107)), .int 0]) := by
      rw [h1 _ I.1, f, g1 1 (by omega), g1 8 (by omega), g1 15 (by omega), g1 16 (by omega), g1 17 (by omega), g1 18 (by omega), g1 19 (by omega), g1 35 (by omega), g1 39 (by omega), g1 42 (by omega), g1 107 (by omega)]
    obtain ⟨w, ew⟩ := (d1 (150 + 2 * i) (Nat.le_refl _) (by omega)).obj ((shS hi2).1)
    refine c_aast 185 107 i (150 + 2 * i) 3 (by omega) (g1 107 (by omega)) ((h1 107 (by omega)).trans eu) rfl (by omega) rfl ew rfl rfl hi2 (by decide) dX6_init_184 rfl fun E2 h2 e2 => ?_
    refine z_iinc 188 [_, _] dX6_init_185 rfl (show _ + _ = nI (_ + 1) from nI_1 _) (by decide) rfl rfl rfl ?_
    refine z_goto 167 dX6_init_188 rfl ?_
    have I2 := I1.put h2 (Or.inr ⟨by decide, by decide⟩)
    have f2 := (h2 0 (by decide)).trans f1
    have ez : 150 + 2 * i + 2 = 150 + 2 * (i + 1) := by omega
    rw [ez] at I2 ⊢
    exact Z.num (by show 149 + 2 * i + 1 + 1 = _; omega) (by show 1455 + 43 * i + 3 + 40 = _; omega) (lp_X6c k d (i + 1) (by omega) A1 E2 I2 f2 ⟨_, e2, ref_up hu g1 (fun j hj => by omega)⟩ )
theorem k_X6 {l : Launch} {G : zG} : Cto l yX6_init mX6_init G 6 fX6 0 158 := by
  intro A E hE
  refine zMet.of (by decide) rfl (Nat.le_of_ble_eq_true rfl) (Or.inl rfl) fun X hX hq => ?_
  subst hX
  show Z G X mX6_init 0 0 (zV A E (0 + 1)) 0 [some (.ref (A 0)), none] []
  have I0 : zI G A E 0 [] (0 + 1) A E := zI.rf
  replace hE : E 0 = .inr (6, [.null, .null, .null, .null, .null, .null, .null, .null, .null, .null, .null, .int 0]) := hE
  refine z_aload_n 1 dX6_init_0 rfl rfl ?_
  refine c_obj 4 ob_X6 (Nat.le_of_ble_eq_true rfl) (Nat.le_of_ble_eq_true rfl) dX6_init_1 rfl ?_
  refine z_aload_n 5 dX6_init_4 rfl rfl ?_
  refine c_mkN 12 (k_X0 bkm1) nw_X6_7 ci_X6_9 ⟨(Nat.le_of_ble_eq_true rfl), (Nat.le_of_ble_eq_true rfl), (Nat.le_of_ble_eq_true rfl), (Nat.le_of_ble_eq_true rfl)⟩ (Nat.le_of_ble_eq_true rfl) dX6_init_5 dX6_init_8 dX6_init_9 rfl fun A1 E1 g1 h1 d1 => ?_
  have I1 := I0.ext g1 h1 (Nat.le_add_right _ _) d1
  have f2 : E1 (0) = .inr (6, [.null, .null, .null, .null, .null, .null, .null, .null, .null, .null, .null, .int 0]) := by
    rw [h1 _ I0.1, hE]
  refine c_putF 15 (0) I1.1 I1.q f2 fp_X6_10 (by decide) hoX6 rfl rfl (Nat.le_of_ble_eq_true rfl) dX6_init_12 rfl fun E3 h3 e3 => ?_
  have I3 := I1.put h3 (Or.inl rfl)
  have f3 : E3 (0) = .inr (6, [.ref (A1 (1)), .null, .null, .null, .null, .null, .null, .null, .null, .null, .null, .int 0]) := e3
  refine z_aload_n 16 dX6_init_15 rfl rfl ?_
  refine c_mkN 23 (k_X0 bkm8) nw_X6_7 ci_X6_9 ⟨(Nat.le_of_ble_eq_true rfl), (Nat.le_of_ble_eq_true rfl), (Nat.le_of_ble_eq_true rfl), (Nat.le_of_ble_eq_true rfl)⟩ (Nat.le_of_ble_eq_true rfl) dX6_init_16 dX6_init_19 dX6_init_20 rfl fun A4 E4 g4 h4 d4 => ?_
  have I4 := I3.ext g4 h4 (Nat.le_add_right _ _) d4
  have f5 : E4 (0) = .inr (6, [.ref (A4 (1)), .null, .null, .null, .null, .null, .null, .null, .null, .null, .null, .int 0]) := by
    rw [h4 _ I3.1, f3, g4 (1) (by omega)]
  refine c_putF 26 (0) I4.1 I4.q f5 fp_X6_16 (by decide) hoX6 rfl rfl (Nat.le_of_ble_eq_true rfl) dX6_init_23 rfl fun E6 h6 e6 => ?_
  have I6 := I4.put h6 (Or.inl rfl)
  have f6 : E6 (0) = .inr (6, [.ref (A4 (1)), .ref (A4 (8)), .null, .null, .null, .null, .null, .null, .null, .null, .null, .int 0]) := e6
  refine z_aload_n 27 dX6_init_26 rfl rfl ?_
  refine z_iconst 28 dX6_init_27 vi2 rfl ?_
  refine c_newB 31 (M := 2) (by decide) (by decide) kl_X6_7 (Nat.le_of_ble_eq_true rfl) (Nat.le_of_ble_eq_true rfl) dX6_init_28 rfl fun A7 E7 g7 h7 e7 => ?_
  have I7 := I6.opn g7 h7
  have f8 : E7 (0) = .inr (6, [.ref (A7 (1)), .ref (A7 (8)), .null, .null, .null, .null, .null, .null, .null, .null, .null, .int 0]) := by
    rw [h7 _ I6.1, f6, g7 (1) (by omega), g7 (8) (by omega)]
  refine c_putF 34 (0) I7.1 I7.q f8 fp_X6_19 (by decide) hoX6 rfl rfl (Nat.le_of_ble_eq_true rfl) dX6_init_31 rfl fun E9 h9 e9 => ?_
  have I9 := I7.put h9 (Or.inl rfl)
  have f9 : E9 (0) = .inr (6, [.ref (A7 (1)), .ref (A7 (8)), .ref (A7 (15)), .null, .null, .null, .null, .null, .null, .null, .null, .int 0]) := e9
  have c10 := (h9 15 (by decide)).trans e7
  refine z_aload_n 35 dX6_init_34 rfl rfl ?_
  refine z_iconst 36 dX6_init_35 vi2 rfl ?_
  refine c_newZ 38 (M := 2) (by decide) (by decide) (Nat.le_of_ble_eq_true rfl) (Nat.le_of_ble_eq_true rfl) dX6_init_36 rfl fun A11 E11 g11 h11 e11 => ?_
  have I11 := I9.arr g11 h11 (zDone.Z (sh16) e11 (fun j hj => s0_lo (by omega)))
  have f12 : E11 (0) = .inr (6, [.ref (A11 (1)), .ref (A11 (8)), .ref (A11 (15)), .null, .null, .null, .null, .null, .null, .null, .null, .int 0]) := by
    rw [h11 _ I9.1, f9, g11 (1) (by omega), g11 (8) (by omega), g11 (15) (by omega)]
  have c13 := (h11 (15) (by decide)).trans c10
  refine c_putF 41 (0) I11.1 I11.q f12 fp_X6_23 (by decide) hoX6 rfl rfl (Nat.le_of_ble_eq_true rfl) dX6_init_38 rfl fun E14 h14 e14 => ?_
  have I14 := I11.put h14 (Or.inl rfl)
  have f14 : E14 (0) = .inr (6, [.ref (A11 (1)), .ref (A11 (8)), .ref (A11 (15)), .ref (A11 (16)), .null, .null, .null, .null, .null, .null, .null, .int 0]) := e14
  have c15 := (h14 15 (by decide)).trans c13
  refine z_aload_n 42 dX6_init_41 rfl rfl ?_
  refine z_iconst 43 dX6_init_42 vi4 rfl ?_
  refine c_newB 46 (M := 4) (by decide) (by decide) kl_X6_7 (Nat.le_of_ble_eq_true rfl) (Nat.le_of_ble_eq_true rfl) dX6_init_43 rfl fun A16 E16 g16 h16 e16 => ?_
  have I16 := I14.opn g16 h16
  have f17 : E16 (0) = .inr (6, [.ref (A16 (1)), .ref (A16 (8)), .ref (A16 (15)), .ref (A16 (16)), .null, .null, .null, .null, .null, .null, .null, .int 0]) := by
    rw [h16 _ I14.1, f14, g16 (1) (by omega), g16 (8) (by omega), g16 (15) (by omega), g16 (16) (by omega)]
  have c18 := (h16 (15) (by decide)).trans c15
  refine c_putF 49 (0) I16.1 I16.q f17 fp_X6_27 (by decide) hoX6 rfl rfl (Nat.le_of_ble_eq_true rfl) dX6_init_46 rfl fun E19 h19 e19 => ?_
  have I19 := I16.put h19 (Or.inl rfl)
  have f19 : E19 (0) = .inr (6, [.ref (A16 (1)), .ref (A16 (8)), .ref (A16 (15)), .ref (A16 (16)), .ref (A16 (17)), .null, .null, .null, .null, .null, .null, .int 0]) := e19
  have c20 := (h19 15 (by decide)).trans c18
  have c21 := (h19 17 (by decide)).trans e16
  refine z_aload_n 50 dX6_init_49 rfl rfl ?_
  refine z_iconst 51 dX6_init_50 vi4 rfl ?_
  refine c_newI 53 (M := 4) (by decide) (by decide) (Nat.le_of_ble_eq_true rfl) (Nat.le_of_ble_eq_true rfl) dX6_init_51 rfl fun A22 E22 g22 h22 e22 => ?_
  have I22 := I19.arr g22 h22 (zDone.I (sh18) e22 (fun j hj => (s0_lo (by omega) : s0 _ = 0).symm))
  have f23 : E22 (0) = .inr (6, [.ref (A22 (1)), .ref (A22 (8)), .ref (A22 (15)), .ref (A22 (16)), .ref (A22 (17)), .null, .null, .null, .null, .null, .null, .int 0]) := by
    rw [h22 _ I19.1, f19, g22 (1) (by omega), g22 (8) (by omega), g22 (15) (by omega), g22 (16) (by omega), g22 (17) (by omega)]
  have c24 := (h22 (15) (by decide)).trans c20
  have c25 := (h22 (17) (by decide)).trans c21
  refine c_putF 56 (0) I22.1 I22.q f23 fp_X6_30 (by decide) hoX6 rfl rfl (Nat.le_of_ble_eq_true rfl) dX6_init_53 rfl fun E26 h26 e26 => ?_
  have I26 := I22.put h26 (Or.inl rfl)
  have f26 : E26 (0) = .inr (6, [.ref (A22 (1)), .ref (A22 (8)), .ref (A22 (15)), .ref (A22 (16)), .ref (A22 (17)), .ref (A22 (18)), .null, .null, .null, .null, .null, .int 0]) := e26
  have c27 := (h26 15 (by decide)).trans c24
  have c28 := (h26 17 (by decide)).trans c25
  refine z_aload_n 57 dX6_init_56 rfl rfl ?_
  refine c_mkN 64 (k_X4) nw_X6_34 ci_X6_36 ⟨(Nat.le_of_ble_eq_true rfl), (Nat.le_of_ble_eq_true rfl), (Nat.le_of_ble_eq_true rfl), (Nat.le_of_ble_eq_true rfl)⟩ (Nat.le_of_ble_eq_true rfl) dX6_init_57 dX6_init_60 dX6_init_61 rfl fun A29 E29 g29 h29 d29 => ?_
  have I29 := I26.ext g29 h29 (Nat.le_add_right _ _) d29
  have f30 : E29 (0) = .inr (6, [.ref (A29 (1)), .ref (A29 (8)), .ref (A29 (15)), .ref (A29 (16)), .ref (A29 (17)), .ref (A29 (18)), .null, .null, .null, .null, .null, .int 0]) := by
    rw [h29 _ I26.1, f26, g29 (1) (by omega), g29 (8) (by omega), g29 (15) (by omega), g29 (16) (by omega), g29 (17) (by omega), g29 (18) (by omega)]
  have c31 := (h29 (15) (by decide)).trans c27
  have c32 := (h29 (17) (by decide)).trans c28
  refine c_putF 67 (0) I29.1 I29.q f30 fp_X6_37 (by decide) hoX6 rfl rfl (Nat.le_of_ble_eq_true rfl) dX6_init_64 rfl fun E33 h33 e33 => ?_
  have I33 := I29.put h33 (Or.inl rfl)
  have f33 : E33 (0) = .inr (6, [.ref (A29 (1)), .ref (A29 (8)), .ref (A29 (15)), .ref (A29 (16)), .ref (A29 (17)), .ref (A29 (18)), .ref (A29 (19)), .null, .null, .null, .null, .int 0]) := e33
  have c34 := (h33 15 (by decide)).trans c31
  have c35 := (h33 17 (by decide)).trans c32
  refine z_aload_n 68 dX6_init_67 rfl rfl ?_
  refine c_mkN 75 (k_X1) nw_X6_41 ci_X6_43 ⟨(Nat.le_of_ble_eq_true rfl), (Nat.le_of_ble_eq_true rfl), (Nat.le_of_ble_eq_true rfl), (Nat.le_of_ble_eq_true rfl)⟩ (Nat.le_of_ble_eq_true rfl) dX6_init_68 dX6_init_71 dX6_init_72 rfl fun A36 E36 g36 h36 d36 => ?_
  have I36 := I33.ext g36 h36 (Nat.le_add_right _ _) d36
  have f37 : E36 (0) = .inr (6, [.ref (A36 (1)), .ref (A36 (8)), .ref (A36 (15)), .ref (A36 (16)), .ref (A36 (17)), .ref (A36 (18)), .ref (A36 (19)), .null, .null, .null, .null, .int 0]) := by
    rw [h36 _ I33.1, f33, g36 (1) (by omega), g36 (8) (by omega), g36 (15) (by omega), g36 (16) (by omega), g36 (17) (by omega), g36 (18) (by omega), g36 (19) (by omega)]
  have c38 := (h36 (15) (by decide)).trans c34
  have c39 := (h36 (17) (by decide)).trans c35
  refine c_putF 78 (0) I36.1 I36.q f37 fp_X6_44 (by decide) hoX6 rfl rfl (Nat.le_of_ble_eq_true rfl) dX6_init_75 rfl fun E40 h40 e40 => ?_
  have I40 := I36.put h40 (Or.inl rfl)
  have f40 : E40 (0) = .inr (6, [.ref (A36 (1)), .ref (A36 (8)), .ref (A36 (15)), .ref (A36 (16)), .ref (A36 (17)), .ref (A36 (18)), .ref (A36 (19)), .ref (A36 (35)), .null, .null, .null, .int 0]) := e40
  have c41 := (h40 15 (by decide)).trans c38
  have c42 := (h40 17 (by decide)).trans c39
  refine z_aload_n 79 dX6_init_78 rfl rfl ?_
  refine c_mkN 86 (k_X2) nw_X6_48 ci_X6_50 ⟨(Nat.le_of_ble_eq_true rfl), (Nat.le_of_ble_eq_true rfl), (Nat.le_of_ble_eq_true rfl), (Nat.le_of_ble_eq_true rfl)⟩ (Nat.le_of_ble_eq_true rfl) dX6_init_79 dX6_init_82 dX6_init_83 rfl fun A43 E43 g43 h43 d43 => ?_
  have I43 := I40.ext g43 h43 (Nat.le_add_right _ _) d43
  have f44 : E43 (0) = .inr (6, [.ref (A43 (1)), .ref (A43 (8)), .ref (A43 (15)), .ref (A43 (16)), .ref (A43 (17)), .ref (A43 (18)), .ref (A43 (19)), .ref (A43 (35)), .null, .null, .null, .int 0]) := by
    rw [h43 _ I40.1, f40, g43 (1) (by omega), g43 (8) (by omega), g43 (15) (by omega), g43 (16) (by omega), g43 (17) (by omega), g43 (18) (by omega), g43 (19) (by omega), g43 (35) (by omega)]
  have c45 := (h43 (15) (by decide)).trans c41
  have c46 := (h43 (17) (by decide)).trans c42
  refine c_putF 89 (0) I43.1 I43.q f44 fp_X6_51 (by decide) hoX6 rfl rfl (Nat.le_of_ble_eq_true rfl) dX6_init_86 rfl fun E47 h47 e47 => ?_
  have I47 := I43.put h47 (Or.inl rfl)
  have f47 : E47 (0) = .inr (6, [.ref (A43 (1)), .ref (A43 (8)), .ref (A43 (15)), .ref (A43 (16)), .ref (A43 (17)), .ref (A43 (18)), .ref (A43 (19)), .ref (A43 (35)), .ref (A43 (39)), .null, .null, .int 0]) := e47
  have c48 := (h47 15 (by decide)).trans c45
  have c49 := (h47 17 (by decide)).trans c46
  refine z_aload_n 90 dX6_init_89 rfl rfl ?_
  refine c_mkI 97 (k_X5) nw_X6_55 ci_X6_57 ⟨(Nat.le_of_ble_eq_true rfl), (Nat.le_of_ble_eq_true rfl), (Nat.le_of_ble_eq_true rfl), (Nat.le_of_ble_eq_true rfl)⟩ (Nat.le_of_ble_eq_true rfl) dX6_init_90 dX6_init_93 dX6_init_94 rfl fun A50 E50 g50 h50 d50 => ?_
  have I50 := I47.ext g50 h50 (Nat.le_add_right _ _) d50
  have f51 : E50 (0) = .inr (6, [.ref (A50 (1)), .ref (A50 (8)), .ref (A50 (15)), .ref (A50 (16)), .ref (A50 (17)), .ref (A50 (18)), .ref (A50 (19)), .ref (A50 (35)), .ref (A50 (39)), .null, .null, .int 0]) := by
    rw [h50 _ I47.1, f47, g50 (1) (by omega), g50 (8) (by omega), g50 (15) (by omega), g50 (16) (by omega), g50 (17) (by omega), g50 (18) (by omega), g50 (19) (by omega), g50 (35) (by omega), g50 (39) (by omega)]
  have c52 := (h50 (15) (by decide)).trans c48
  have c53 := (h50 (17) (by decide)).trans c49
  refine c_putF 100 (0) I50.1 I50.q f51 fp_X6_58 (by decide) hoX6 rfl rfl (Nat.le_of_ble_eq_true rfl) dX6_init_97 rfl fun E54 h54 e54 => ?_
  have I54 := I50.put h54 (Or.inl rfl)
  have f54 : E54 (0) = .inr (6, [.ref (A50 (1)), .ref (A50 (8)), .ref (A50 (15)), .ref (A50 (16)), .ref (A50 (17)), .ref (A50 (18)), .ref (A50 (19)), .ref (A50 (35)), .ref (A50 (39)), .ref (A50 (42)), .null, .int 0]) := e54
  have c55 := (h54 15 (by decide)).trans c52
  have c56 := (h54 17 (by decide)).trans c53
  refine z_aload_n 101 dX6_init_100 rfl rfl ?_
  refine z_iconst 102 dX6_init_101 vi4 rfl ?_
  refine c_newS 105 (M := 4) (by decide) (by decide) kl_X6_62 (Nat.le_of_ble_eq_true rfl) (Nat.le_of_ble_eq_true rfl) dX6_init_102 rfl fun A57 E57 g57 h57 e57 => ?_
  have I57 := I54.opn g57 h57
  have f58 : E57 (0) = .inr (6, [.ref (A57 (1)), .ref (A57 (8)), .ref (A57 (15)), .ref (A57 (16)), .ref (A57 (17)), .ref (A57 (18)), .ref (A57 (19)), .ref (A57 (35)), .ref (A57 (39)), .ref (A57 (42)), .null, .int 0]) := by
    rw [h57 _ I54.1, f54, g57 (1) (by omega), g57 (8) (by omega), g57 (15) (by omega), g57 (16) (by omega), g57 (17) (by omega), g57 (18) (by omega), g57 (19) (by omega), g57 (35) (by omega), g57 (39) (by omega), g57 (42) (by omega)]
  have c59 := (h57 (15) (by decide)).trans c55
  have c60 := (h57 (17) (by decide)).trans c56
  refine c_putF 108 (0) I57.1 I57.q f58 fp_X6_64 (by decide) hoX6 rfl rfl (Nat.le_of_ble_eq_true rfl) dX6_init_105 rfl fun E61 h61 e61 => ?_
  have I61 := I57.put h61 (Or.inl rfl)
  have f61 : E61 (0) = .inr (6, [.ref (A57 (1)), .ref (A57 (8)), .ref (A57 (15)), .ref (A57 (16)), .ref (A57 (17)), .ref (A57 (18)), .ref (A57 (19)), .ref (A57 (35)), .ref (A57 (39)), .ref (A57 (42)), .ref (A57 (107)), .int 0]) := e61
  have c62 := (h61 15 (by decide)).trans c59
  have c63 := (h61 17 (by decide)).trans c60
  have c64 := (h61 107 (by decide)).trans e57
  refine z_aload_n 109 dX6_init_108 rfl rfl ?_
  refine z_iconst 110 dX6_init_109 vi0 rfl ?_
  refine c_put 113 (0) I61.1 I61.q f61 fp_X6_68 rfl rfl (Nat.le_of_ble_eq_true rfl) dX6_init_110 rfl fun E65 h65 e65 => ?_
  have I65 := I61.put h65 (Or.inl rfl)
  have f65 : E65 (0) = .inr (6, [.ref (A57 (1)), .ref (A57 (8)), .ref (A57 (15)), .ref (A57 (16)), .ref (A57 (17)), .ref (A57 (18)), .ref (A57 (19)), .ref (A57 (35)), .ref (A57 (39)), .ref (A57 (42)), .ref (A57 (107)), .int 0]) := e65
  have c66 := (h65 15 (by decide)).trans c62
  have c67 := (h65 17 (by decide)).trans c63
  have c68 := (h65 107 (by decide)).trans c64
  refine z_iconst 114 dX6_init_113 vi0 rfl ?_
  refine z_istore_n 115 [_, some (.int (nI 0))] dX6_init_114 (by decide) rfl rfl rfl ?_
  refine lp_X6a (fun A7 E7 I f hu o7 o8 => ?_) 2 0 rfl A57 E65 I65 f65 ⟨_, c66, fun j => (if_neg (Nat.not_lt_zero j)).symm⟩ c67 c68
  obtain ⟨u, eu, hu⟩ := hu
  have J : zI G A E 0 [107, 17] _ A7 E7 := I.fin (fun k hk h2 => by
    simp only [List.mem_cons, List.not_mem_nil, or_false] at hk h2
    obtain rfl : k = 15 := by omega
    exact zDone.B sh15 (by decide) eu (ref_row (by decide) hu))
  refine z_iconst 140 dX6_init_139 vi0 rfl ?_
  refine z_istore_n 141 [_, some (.int (nI 0))] dX6_init_140 (by decide) rfl rfl rfl ?_
  refine lp_X6b (fun A8 E8 I f hu o8 => ?_) 4 0 rfl A7 E7 J f ⟨_, o7, fun j => (if_neg (Nat.not_lt_zero j)).symm⟩ o8
  obtain ⟨u, eu, hu⟩ := hu
  have J : zI G A E 0 [107] _ A8 E8 := I.fin (fun k hk h2 => by
    simp only [List.mem_cons, List.not_mem_nil, or_false] at hk h2
    obtain rfl : k = 17 := by omega
    exact zDone.B sh17 (by decide) eu (ref_row (by decide) hu))
  refine z_iconst 166 dX6_init_165 vi0 rfl ?_
  refine z_istore_n 167 [_, some (.int (nI 0))] dX6_init_166 (by decide) rfl rfl rfl ?_
  refine lp_X6c (fun A9 E9 I f hu => ?_) 4 0 rfl A8 E8 J f ⟨_, o8, fun j => (if_neg (Nat.not_lt_zero j)).symm⟩
  obtain ⟨u, eu, hu⟩ := hu
  have J : zI G A E 0 [] _ A9 E9 := I.fin (fun k hk _ => by
    cases List.mem_singleton.mp hk
    exact zDone.S sh107 (by decide) eu (ref_row (by decide) hu))
  refine z_vret hq rfl dX6_init_191 rfl rfl ?_
  refine J.post (zDone.O (sh0) (by decide) (f.trans (by
    show _ = (Sum.inr (6, [.ref (A9 (1)), .ref (A9 (8)), .ref (A9 (15)), .ref (A9 (16)), .ref (A9 (17)), .ref (A9 (18)), .ref (A9 (19)), .ref (A9 (35)), .ref (A9 (39)), .ref (A9 (42)), .ref (A9 (107)), .int (s0 (400 * 0 + 11))]) : va_E)
    rw [s0_lo (x := 400 * 0 + 11) (by omega)]))) rfl
