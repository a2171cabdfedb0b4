/-! ===== the constructors with loops ===== -/
theorem zDone.obj {G : zG} {n k lo len ci : Nat} {sl : List (Bool × Nat)} {A : Nat → Nat} {E : Nat → va_E} (h : zDone G n A E k) (hs : zSh[k]? = some (ci + 5, lo, len, sl)) : ∃ fs, E k = .inr (ci, fs) := by
  obtain ⟨s, h1, -, h3⟩ := h
  rw [hs] at h1
  cases h1
  rcases h3 with h3 | ⟨c, n, g, g', -, h4, -⟩
  · exact ⟨_, h3⟩
  · cases (show (Sum.inr _ : va_E) = Sum.inl _ from h4)
theorem ref_row {A : Nat → Nat} {u : Nat → Option Nat} {sl : List (Bool × Nat)} {base m cnt : Nat} (hs : sl = (List.range cnt).map (fun j => (true, base + m * j))) (hu : ∀ j, u j = if j < cnt then some (A (base + m * j)) else none) : ∀ j, u j = (sl[j]?).map (fun q => A q.2) := by
  intro j
  rw [hu, hs, List.getElem?_map]
  by_cases h : j < cnt
  · rw [if_pos h, List.getElem?_range h]; rfl
  · rw [if_neg h, List.getElem?_eq_none (by rw [List.length_range]; omega)]; rfl
theorem ref_up {A A1 : Nat → Nat} {u : Nat → Option Nat} {base m i N : Nat} (hu : ∀ j, u j = if j < i then some (A (base + m * j)) else none) (hg : ∀ k, k < N → A1 k = A k) (hN : ∀ j, j < i → base + m * j < N) : ∀ j, va_up u i (some (A1 (base + m * i))) j = if j < i + 1 then some (A1 (base + m * j)) else none := by
  intro j
  simp only [va_up]
  by_cases h : j = i
  · subst h; rw [if_pos rfl, if_pos (Nat.lt_succ_self _)]
  · rw [if_neg h, hu]
    by_cases h2 : j < i
    · rw [if_pos h2, if_pos (by omega), hg _ (hN j h2)]
    · rw [if_neg h2, if_neg (by omega)]
theorem lp_X5_b {i : Nat} (h : i < 9) : zBk (44 + 7 * i) := by
  have : i = 0 ∨ i = 1 ∨ i = 2 ∨ i = 3 ∨ i = 4 ∨ i = 5 ∨ i = 6 ∨ i = 7 ∨ i = 8 := by omega
  rcases this with rfl | rfl | rfl | rfl | rfl | rfl | rfl | rfl | rfl <;> (show _ ∈ zBks; decide)
theorem lp_X5 {G : zG} {X : zX} {A0 : Nat → Nat} {E0 : Nat → va_E} (k : ∀ (A : Nat → Nat) (E : Nat → va_E), zI G A0 E0 42 [43] (44 + 7 * 9) A E → E 42 = .inr (5, [.int 0, .int 0, .int 0, .int 0, .ref (A (43))]) → (∃ u : Nat → Option Nat, E 43 = eR (zcB G) 9 u ∧ ∀ j, u j = if j < 9 then some (A (44 + 7 * j)) else none) → Z G X mX5_init (1 + 7 * 9) (9 + 64 * 9) (zV A E (44 + 7 * 9)) 40 [some (.ref (A0 42)), some (.int (nI 9))] []) : ∀ (d i : Nat), i + d = 9 → ∀ (A : Nat → Nat) (E : Nat → va_E), zI G A0 E0 42 [43] (44 + 7 * i) A E → E 42 = .inr (5, [.int 0, .int 0, .int 0, .int 0, .ref (A (43))]) → (∃ u : Nat → Option Nat, E 43 = eR (zcB G) 9 u ∧ ∀ j, u j = if j < i then some (A (44 + 7 * j)) else none) → Z G X mX5_init (1 + 7 * i) (9 + 64 * i) (zV A E (44 + 7 * i)) 15 [some (.ref (A0 42)), some (.int (nI i))] []
  | 0, i, hi, A, E, I, f, hu => by
    obtain rfl : i = 9 := by omega
    refine z_iload_n 16 dX5_init_15 rfl rfl ?_
    refine z_bipush 18 dX5_init_16 vb8 rfl ?_
    refine z_icmp_gt_t 40 dX5_init_18 rfl (by decide) ?_
    exact k A E I f hu 
  | d + 1, i, hi, A, E, I, f, ⟨u, eu, hu⟩ => by
    have hi2 : i < 9 := by omega
    refine z_iload_n 16 dX5_init_15 rfl rfl ?_
    refine z_bipush 18 dX5_init_16 vb8 rfl ?_
    refine z_icmp_gt_f 21 40 dX5_init_18 rfl (show ¬ (8 : Int32) < nI i from nI_nlt (a := 8) (by omega) (by decide)) rfl ?_
    refine z_aload_n 22 dX5_init_21 rfl rfl ?_
    refine c_get 25 42 I.1 I.q f fl_X5_11 rfl dX5_init_22 rfl ?_
    refine z_iload_n 26 dX5_init_25 rfl rfl ?_
    refine c_mkN 33 (k_X0 (lp_X5_b hi2)) nw_X5_9 ci_X5_17 ⟨(Nat.le_of_ble_eq_true rfl), (Nat.le_of_ble_eq_true rfl), (by show 1 + 7 * i + 1 + 6 ≤ 64; omega), (by show 9 + 64 * i + 11 + 53 ≤ 585; omega)⟩ (Nat.le_of_ble_eq_true rfl) dX5_init_26 dX5_init_29 dX5_init_30 rfl fun A1 E1 g1 h1 d1 => ?_
    have I1 := I.ext g1 h1 (Nat.le_add_right _ _) d1
    have f1 : E1 42 = .inr (5, [.int 0, .int 0, .int 0, .int 0, .ref (A1 (43))]) := by
      rw [h1 _ I.1, f, g1 43 (by omega)]
    obtain ⟨w, ew⟩ := (d1 (44 + 7 * i) (Nat.le_refl _) (by omega)).obj (bk0 (lp_X5_b hi2))
    refine c_aast 34 43 i (44 + 7 * i) 2 (by omega) (g1 43 (by omega)) ((h1 43 (by omega)).trans eu) rfl (by omega) rfl ew rfl rfl hi2 (by decide) dX5_init_33 rfl fun E2 h2 e2 => ?_
    refine z_iinc 37 [_, _] dX5_init_34 rfl (show _ + _ = nI (_ + 1) from nI_1 _) (by decide) rfl rfl rfl ?_
    refine z_goto 15 dX5_init_37 rfl ?_
    have I2 := I1.put h2 (Or.inr ⟨by decide, by decide⟩)
    have f2 := (h2 42 (by decide)).trans f1
    have ez : 44 + 7 * i + 7 = 44 + 7 * (i + 1) := by omega
    rw [ez] at I2 ⊢
    exact Z.num (by show 1 + 7 * i + 1 + 6 = _; omega) (by show 9 + 64 * i + 11 + 53 = _; omega) (lp_X5 k d (i + 1) (by omega) A1 E2 I2 f2 ⟨_, e2, ref_up hu g1 (fun j hj => by omega)⟩ )
theorem k_X5 {l : Launch} {G : zG} : Cto l yX5_init mX5_init G 5 fX5 42 65 := by
  intro A E hE
  refine zMet.of (by decide) rfl (Nat.le_of_ble_eq_true rfl) (Or.inl rfl) fun X hX hq => ?_
  subst hX
  show Z G X mX5_init 0 0 (zV A E (42 + 1)) 0 [some (.ref (A 42)), none] []
  have I0 : zI G A E 42 [] (42 + 1) A E := zI.rf
  replace hE : E 42 = .inr (5, [.int 0, .int 0, .int 0, .int 0, .null]) := hE
  refine z_aload_n 1 dX5_init_0 rfl rfl ?_
  refine c_obj 4 ob_X5 (Nat.le_of_ble_eq_true rfl) (Nat.le_of_ble_eq_true rfl) dX5_init_1 rfl ?_
  refine z_aload_n 5 dX5_init_4 rfl rfl ?_
  refine z_bipush 7 dX5_init_5 vb9 rfl ?_
  refine c_newB 10 (M := 9) (by decide) (by decide) kl_X5_9 (Nat.le_of_ble_eq_true rfl) (Nat.le_of_ble_eq_true rfl) dX5_init_7 rfl fun A1 E1 g1 h1 e1 => ?_
  have I1 := I0.opn g1 h1
  have f2 : E1 (42) = .inr (5, [.int 0, .int 0, .int 0, .int 0, .null]) := by
    rw [h1 _ I0.1, hE]
  refine c_putF 13 (42) I1.1 I1.q f2 fp_X5_11 (by decide) hoX5 rfl rfl (Nat.le_of_ble_eq_true rfl) dX5_init_10 rfl fun E3 h3 e3 => ?_
  have I3 := I1.put h3 (Or.inl rfl)
  have f3 : E3 (42) = .inr (5, [.int 0, .int 0, .int 0, .int 0, .ref (A1 (43))]) := e3
  have c4 := (h3 43 (by decide)).trans e1
  refine z_iconst 14 dX5_init_13 vi0 rfl ?_
  refine z_istore_n 15 [_, some (.int (nI 0))] dX5_init_14 (by decide) rfl rfl rfl ?_
  refine lp_X5 (fun A9 E9 I f hu => ?_) 9 0 rfl A1 E3 I3 f3 ⟨_, c4, fun j => (if_neg (Nat.not_lt_zero j)).symm⟩
  obtain ⟨u, eu, hu⟩ := hu
  have J : zI G A E 42 [] _ A9 E9 := I.fin (fun k hk _ => by
    cases List.mem_singleton.mp hk
    exact zDone.B sh43 (by decide) eu (ref_row (by decide) hu))
  refine z_vret hq rfl dX5_init_40 rfl rfl ?_
  refine J.post (zDone.O (sh42) (by decide) (f.trans (by
    show _ = (Sum.inr (5, [.int (s0 (400 * 42 + 0)), .int (s0 (400 * 42 + 1)), .int (s0 (400 * 42 + 2)), .int (s0 (400 * 42 + 3)), .ref (A9 (43))]) : va_E)
    rw [s0_lo (x := 400 * 42 + 0) (by omega), s0_lo (x := 400 * 42 + 1) (by omega), s0_lo (x := 400 * 42 + 2) (by omega), s0_lo (x := 400 * 42 + 3) (by omega)]))) rfl
