/-! ===== a book's bounds, kept by its days ===== -/
def bnd (i : Nat) : Nat := if i < 5 then 3 else if i < 20 then 9 else if i < 25 then 99 else if i < 29 then 999 else if i < 53 then 99 else if i = 56 then 5 else 4
theorem okQ_iff {Q : Pg} : okQ Q ↔ ∀ i, (i < 53 ∨ i = 56 ∨ i = 57) → Q i ≤ bnd i := by
  constructor
  · rintro ⟨h1, h2, h3, h4, h5, h6, h7, h8⟩ i hi
    simp only [bnd]
    by_cases a1 : i < 5
    · rw [if_pos a1]; have := h1 i a1; omega
    rw [if_neg a1]
    by_cases a2 : i < 20
    · rw [if_pos a2]; have := h2 (i - 5) (by omega); rw [show 5 + (i - 5) = i by omega] at this; omega
    rw [if_neg a2]
    by_cases a3 : i < 25
    · rw [if_pos a3]; have := h3 (i - 20) (by omega); rw [show 20 + (i - 20) = i by omega] at this; omega
    rw [if_neg a3]
    by_cases a4 : i < 29
    · rw [if_pos a4]; have := h4 (i - 25) (by omega); rw [show 25 + (i - 25) = i by omega] at this; omega
    rw [if_neg a4]
    by_cases a5 : i < 53
    · rw [if_pos a5]
      by_cases a6 : i < 33
      · have := h5 (i - 29) (by omega); rw [show 29 + (i - 29) = i by omega] at this; omega
      · have := h6 (i - 33) (by omega); rw [show 33 + (i - 33) = i by omega] at this; omega
    rw [if_neg a5]
    by_cases a6 : i = 56
    · rw [if_pos a6, a6]; exact h7
    · rw [if_neg a6, show i = 57 by omega]; exact h8
  · intro h
    refine ⟨fun i hi => ?_, fun i hi => ?_, fun i hi => ?_, fun i hi => ?_, fun i hi => ?_, fun i hi => ?_, h 56 (by omega), h 57 (by omega)⟩
    · have := h i (by omega); simp only [bnd, if_pos hi] at this; omega
    · have := h (5 + i) (by omega); simp only [bnd] at this; rw [if_neg (by omega), if_pos (by omega)] at this; omega
    · have := h (20 + i) (by omega); simp only [bnd] at this; rw [if_neg (by omega), if_neg (by omega), if_pos (by omega)] at this; omega
    · have := h (25 + i) (by omega); simp only [bnd] at this; rw [if_neg (by omega), if_neg (by omega), if_neg (by omega), if_pos (by omega)] at this; omega
    · have := h (29 + i) (by omega); simp only [bnd] at this; rw [if_neg (by omega), if_neg (by omega), if_neg (by omega), if_neg (by omega), if_pos (by omega)] at this; omega
    · have := h (33 + i) (by omega); simp only [bnd] at this; rw [if_neg (by omega), if_neg (by omega), if_neg (by omega), if_neg (by omega), if_pos (by omega)] at this; omega
theorem okQ_un {Q : Pg} {i v : Nat} (h : okQ Q) (hv : (i < 53 ∨ i = 56 ∨ i = 57) → v ≤ bnd i) : okQ (un Q i v) := by
  rw [okQ_iff] at h ⊢
  intro j hj
  simp only [un]
  split
  · rename_i e; subst e; exact hv hj
  · exact h j hj
theorem bnd_v {c : Nat} (h : c < 5) : bnd (20 + c) = 99 := by simp only [bnd]; rw [if_neg (by omega), if_neg (by omega), if_pos (by omega)]
theorem bnd_p {p : Nat} (h : p < 4) : bnd (25 + p) = 999 := by simp only [bnd]; rw [if_neg (by omega), if_neg (by omega), if_neg (by omega), if_pos (by omega)]
theorem bnd_h {i : Nat} (h : i < 20) : bnd (33 + i) = 99 := by simp only [bnd]; rw [if_neg (by omega), if_neg (by omega), if_neg (by omega), if_neg (by omega), if_pos (by omega)]
theorem bnd_h' {p c : Nat} (h : p < 4) (hc : c < 5) : bnd (33 + 5 * p + c) = 99 := by rw [Nat.add_assoc]; exact bnd_h (by omega)
theorem okQ.kd {Q : Pg} (h : okQ Q) {c : Nat} (hc : c < 5) : Q c < 4 := h.1 c hc
theorem okQ.vt {Q : Pg} (h : okQ Q) {c : Nat} (hc : c < 5) : Q (20 + c) ≤ 99 := h.2.2.1 c hc
theorem okQ.pu {Q : Pg} (h : okQ Q) {p : Nat} (hp : p < 4) : Q (25 + p) ≤ 999 := h.2.2.2.1 p hp
theorem okQ.ea {Q : Pg} (h : okQ Q) {p : Nat} (hp : p < 4) : Q (29 + p) ≤ 99 := h.2.2.2.2.1 p hp
theorem okQ.he {Q : Pg} (h : okQ Q) {p c : Nat} (hp : p < 4) (hc : c < 5) : Q (33 + 5 * p + c) ≤ 99 := by rw [Nat.add_assoc]; exact h.2.2.2.2.2.1 (5 * p + c) (by omega)
theorem okQ.nc {Q : Pg} (h : okQ Q) : Q 56 ≤ 5 := h.2.2.2.2.2.2.1
theorem okQ.np {Q : Pg} (h : okQ Q) : Q 57 ≤ 4 := h.2.2.2.2.2.2.2
theorem okQ_colGo {Q : Pg} {p c t : Nat} (h : okQ Q) (hp : p < 4) (hc : c < 5) : okQ (colGo Q p c t) := by
  have h1 := h.pu hp
  have h2 := h.he hp hc
  simp only [colGo]
  split
  · exact h
  split
  · refine okQ_un (okQ_un (okQ_un h ?_) (by omega)) ?_
    · intro _; rw [bnd_p hp]; omega
    · intro _; rw [bnd_h' hp hc]; omega
  · refine okQ_un (okQ_un (okQ_un (okQ_un h ?_) ?_) (by omega)) (by omega)
    · intro _; rw [bnd_v hc]; exact Nat.min_le_left _ _
    · intro _; exact Nat.zero_le _
theorem colGo_off {Q : Pg} {p c t i : Nat} (hi : i ≠ 20 + c) (hi2 : i ≠ 25 + p) (hi3 : i ≠ 33 + 5 * p + c) (hi4 : i ≠ 54) (hi5 : i ≠ 55) (hi6 : i ≠ 58 + p) : colGo Q p c t i = Q i := by
  simp only [colGo]
  split
  · rfl
  split
  · rw [un_n hi3, un_n hi5, un_n hi2]
  · rw [un_n hi6, un_n hi4, un_n hi3, un_n hi]
theorem cols_off {Q : Pg} {p t i : Nat} (hi2 : i ≠ 25 + p) (hi4 : i ≠ 54) (hi5 : i ≠ 55) (hi6 : i ≠ 58 + p) : ∀ n, (∀ c, c < n → i ≠ 20 + c ∧ i ≠ 33 + 5 * p + c) → cols Q p t n i = Q i
  | 0, _ => rfl
  | n + 1, h => by rw [cols, colGo_off (h n (by omega)).1 hi2 (h n (by omega)).2 hi4 hi5 hi6, cols_off hi2 hi4 hi5 hi6 n (fun c hc => h c (by omega))]
theorem okQ_cols {Q : Pg} {p t : Nat} (h : okQ Q) (hp : p < 4) : ∀ n, n ≤ 5 → okQ (cols Q p t n)
  | 0, _ => h
  | n + 1, hn => okQ_colGo (okQ_cols h hp n (by omega)) hp (by omega)
theorem okQ_dayO {Q : Pg} {p t : Nat} (h : okQ Q) (hp : p < 4) : okQ (dayO Q p t) := okQ_cols (okQ_un h (fun _ => by rw [bnd_p hp]; exact Nat.min_le_left _ _)) hp _ h.nc
theorem dayO_off {Q : Pg} {p t i : Nat} (h : okQ Q) (hi2 : i ≠ 25 + p) (hi4 : i ≠ 54) (hi5 : i ≠ 55) (hi6 : i ≠ 58 + p) (h7 : ∀ c, c < 5 → i ≠ 20 + c ∧ i ≠ 33 + 5 * p + c) : dayO Q p t i = Q i := by
  rw [dayO, cols_off hi2 hi4 hi5 hi6 _ (fun c hc => h7 c (by have := h.nc; omega)), un_n hi2]
theorem okQ_ones {Q : Pg} {t : Nat} (h : okQ Q) : ∀ n, n ≤ 4 → okQ (ones Q t n)
  | 0, _ => h
  | n + 1, hn => okQ_dayO (okQ_ones h n (by omega)) (by omega)
theorem ones_off {Q : Pg} {t i : Nat} (h : okQ Q) (hi : i < 20 ∨ (29 ≤ i ∧ i < 33) ∨ i = 53 ∨ i = 56 ∨ i = 57) : ∀ n, n ≤ 4 → ones Q t n i = Q i
  | 0, _ => rfl
  | n + 1, hn => by rw [ones, dayO_off (okQ_ones h n (by omega)) (by omega) (by omega) (by omega) (by omega) (fun c hc => by omega), ones_off h hi n (by omega)]
theorem okQ_dayA {Q : Pg} {t : Nat} (h : okQ Q) : okQ (dayA Q t) := okQ_un (okQ_ones h _ h.np) (by omega)
theorem okQ_daysA {Q : Pg} (h : okQ Q) : ∀ n, okQ (daysA Q n)
  | 0 => h
  | n + 1 => okQ_dayA (okQ_daysA h n)
theorem okQ_daysO {Q : Pg} {p : Nat} (h : okQ Q) (hp : p < 4) : ∀ n, okQ (daysO Q p n)
  | 0 => h
  | n + 1 => okQ_dayO (okQ_daysO h hp n) hp
theorem zmin {x y : Int32} {a b : Nat} (hx : x = nI a) (hy : y = nI b) (ha : a < 2 ^ 31) (hb : b < 2 ^ 31) : (if y < x then y else x) = nI (min a b) := by
  rw [hx, hy, Nat.min_def]
  by_cases h : b < a
  · rw [if_pos (nI_lt h ha), if_neg (by omega)]
  · rw [if_neg (fun q => h ((nI_ltI hb ha).mp q)), if_pos (by omega)]
theorem zmax {x y : Int32} {a b : Nat} (hx : x = nI a) (hy : y = nI b) (ha : a < 2 ^ 31) (hb : b < 2 ^ 31) : (if x < y then y else x) = nI (max a b) := by
  rw [hx, hy, Nat.max_def]
  by_cases h : a < b
  · rw [if_pos (nI_lt h hb), if_pos (by omega)]
  · rw [if_neg (fun q => h ((nI_ltI ha hb).mp q))]
    by_cases h2 : a ≤ b
    · rw [if_pos h2, show a = b by omega]
    · rw [if_neg h2]
theorem zmax0 {x : Int32} {a b : Nat} (hx : x = nI a - nI b) (ha : a < 2 ^ 30) (hb : b < 2 ^ 30) : (if (0 : Int32) < x then x else 0) = nI (a - b) := by
  subst hx
  have e := pk_sub_toInt ha hb
  by_cases h : b < a
  · rw [if_pos (by rw [Int32.lt_iff_toInt_lt, e, Int32.toInt_zero]; omega), pk_sub (by omega)]
  · rw [if_neg (by rw [Int32.lt_iff_toInt_lt, e, Int32.toInt_zero]; omega), show a - b = 0 by omega]; rfl
/-! ===== a book's writes ===== -/
set_option maxRecDepth 100000 in
theorem c_takeBack {l : Launch} {G : zG} {σ : Nat → Int32} {r p c n : Nat} {Q : Pg} (hk : zBk r) (hQ : hds σ r Q) (hp : p < 4) (hc : c < 5) (hn : n ≤ Q (33 + 5 * p + c)) (hb : Q (20 + c) + n < 2 ^ 31) : zMet l yX0_takeBack mX0_takeBack [.ref (zGa G r), .int (nI p), .int (nI c), .int (nI n)] G (zW G σ) (zFn G none (sp σ r (un (un Q (33 + 5 * p + c) (Q (33 + 5 * p + c) - n)) (20 + c) (min 99 (Q (20 + c) + n))))) := by
  have e0 : 33 + (p * 5 + c) = 33 + 5 * p + c := by omega
  have e1 : ∀ v, un Q (33 + 5 * p + c) v (20 + c) = Q (20 + c) := fun v => un_n (by omega)
  conv => arg 6; rw [← sp_self hQ]
  refine zMet.of (by decide) rfl (Nat.le_of_ble_eq_true rfl) (Or.inr rfl) fun X hX hq => ?_
  subst hX
  show Y G X mX0_takeBack (sp σ r Q) 0 [some (.ref (zGa G r)), some (.int (nI p)), some (.int (nI c)), some (.int (nI n))] []
  refine z_aload_n 1 dX0_takeBack_0 rfl rfl ?_
  refine y_getr 4 _ (bk0 hk) rfl fl_X0_27 dX0_takeBack_1 rfl ?_
  refine z_iload_n 5 dX0_takeBack_4 rfl rfl ?_
  refine z_iconst 6 dX0_takeBack_5 vi5 rfl ?_
  refine z_imulN 7 rfl (show (5 : Int32) = nI 5 from rfl) dX0_takeBack_6 rfl ?_
  refine z_iload_n 8 dX0_takeBack_7 rfl rfl ?_
  refine z_iaddN 9 rfl rfl dX0_takeBack_8 rfl ?_
  refine z_dup2 10 dX0_takeBack_9 rfl rfl rfl ?_
  refine p_ld 11 _ (bk6 hk) rfl (by omega) (by decide) dX0_takeBack_10 rfl ?_
  rw [e0]
  refine z_iload_n 12 dX0_takeBack_11 rfl rfl ?_
  refine z_isubN 13 rfl rfl hn dX0_takeBack_12 rfl ?_
  refine p_st 14 _ (bk6 hk) rfl (by omega) rfl (by decide) dX0_takeBack_13 rfl ?_
  rw [e0]
  refine z_aload_n 15 dX0_takeBack_14 rfl rfl ?_
  refine y_getr 18 _ (bk0 hk) rfl fl_X0_18 dX0_takeBack_15 rfl ?_
  refine z_iload_n 19 dX0_takeBack_18 rfl rfl ?_
  refine z_bipush 21 dX0_takeBack_19 vb99 rfl ?_
  refine z_aload_n 22 dX0_takeBack_21 rfl rfl ?_
  refine y_getr 25 _ (bk0 hk) rfl fl_X0_18 dX0_takeBack_22 rfl ?_
  refine z_iload_n 26 dX0_takeBack_25 rfl rfl ?_
  refine p_ld 27 _ (bk3 hk) rfl (by omega) (by decide) dX0_takeBack_26 rfl ?_
  rw [e1]
  refine z_iload_n 28 dX0_takeBack_27 rfl rfl ?_
  refine z_iaddN 29 rfl rfl dX0_takeBack_28 rfl ?_
  refine y_mn 32 kl_X0_78 (by decide) (Nat.le_of_ble_eq_true rfl) dX0_takeBack_29 rfl ?_
  refine p_st 33 _ (bk3 hk) rfl (by omega) (zmin rfl rfl (by decide) hb) (by decide) dX0_takeBack_32 rfl ?_
  refine z_vret hq rfl dX0_takeBack_33 rfl rfl ?_
  exact ⟨rfl, rfl⟩
set_option maxRecDepth 100000 in
theorem c_passDayOfOne {l : Launch} {G : zG} {σ : Nat → Int32} {r p t : Nat} {Q : Pg} (hk : zBk r) (hQ : hds σ r Q) (ok : okQ Q) (hp : p < 4) (ht : t ≤ 2) : zMet l yX0_passDayOfOne mX0_passDayOfOne [.ref (zGa G r), .int (nI p), .int (nI t)] G (zW G σ) (zFn G none (sp σ r (dayO Q p t))) := by
  have b1 := ok.pu hp
  have b2 := ok.ea hp
  have b3 := ok.nc
  conv => arg 6; rw [← sp_self hQ]
  refine zMet.of (by decide) rfl (Nat.le_of_ble_eq_true rfl) (Or.inr rfl) fun X hX hq => ?_
  subst hX
  show Y G X mX0_passDayOfOne (sp σ r Q) 0 [some (.ref (zGa G r)), some (.int (nI p)), some (.int (nI t)), none, none, none, none] []
  refine z_aload_n 1 dX0_passDayOfOne_0 rfl rfl ?_
  refine y_getr 4 _ (bk0 hk) rfl fl_X0_21 dX0_passDayOfOne_1 rfl ?_
  refine z_iload_n 5 dX0_passDayOfOne_4 rfl rfl ?_
  refine z_sipush 8 dX0_passDayOfOne_5 vs999 rfl ?_
  refine z_aload_n 9 dX0_passDayOfOne_8 rfl rfl ?_
  refine y_getr 12 _ (bk0 hk) rfl fl_X0_21 dX0_passDayOfOne_9 rfl ?_
  refine z_iload_n 13 dX0_passDayOfOne_12 rfl rfl ?_
  refine p_ld 14 _ (bk4 hk) rfl (by omega) (by decide) dX0_passDayOfOne_13 rfl ?_
  refine z_aload_n 15 dX0_passDayOfOne_14 rfl rfl ?_
  refine y_getr 18 _ (bk0 hk) rfl fl_X0_24 dX0_passDayOfOne_15 rfl ?_
  refine z_iload_n 19 dX0_passDayOfOne_18 rfl rfl ?_
  refine p_ld 20 _ (bk5 hk) rfl (by omega) (by decide) dX0_passDayOfOne_19 rfl ?_
  refine z_iaddN 21 rfl rfl dX0_passDayOfOne_20 rfl ?_
  refine y_mn 24 kl_X0_78 (by decide) (Nat.le_of_ble_eq_true rfl) dX0_passDayOfOne_21 rfl ?_
  refine p_st 25 _ (bk4 hk) rfl (by omega) (zmin rfl rfl (by decide) (by omega)) (by decide) dX0_passDayOfOne_24 rfl ?_
  refine z_iconst 26 dX0_passDayOfOne_25 vi0 rfl ?_
  refine z_istore_n 27 [_, _, _, _, _, _, _] dX0_passDayOfOne_26 (by decide) rfl rfl rfl ?_
  have ok1 : okQ (un Q (25 + p) (min 999 (Q (25 + p) + Q (29 + p)))) := okQ_un ok (fun _ => by rw [bnd_p hp]; exact Nat.min_le_left _ _)
  generalize hQ1 : un Q (25 + p) (min 999 (Q (25 + p) + Q (29 + p))) = Q1 at ok1
  have e56 : Q1 56 = Q 56 := by rw [← hQ1]; exact un_n (by omega)
  refine zup (P := fun i => ∀ u v w, Y G X mX0_passDayOfOne (sp σ r (cols Q1 p t i)) 27 [some (.ref (zGa G r)), some (.int (nI p)), some (.int (nI t)), some (.int (nI i)), u, v, w] []) (Q 56) ?_ (fun i hi ih => ?_) 0 (Nat.zero_le _) none none none
  · intro u v w
    have e2 : cols Q1 p t (Q 56) 56 = Q 56 := by rw [cols_off (by omega) (by omega) (by omega) (by omega) _ (fun c hc => by omega)]; exact e56
    refine z_iload_n 28 dX0_passDayOfOne_27 rfl rfl ?_
    refine z_aload_n 29 dX0_passDayOfOne_28 rfl rfl ?_
    refine p_get 32 hk rfl fl_X0_30 dX0_passDayOfOne_29 rfl ?_
    rw [e2]
    refine z_icmp_ge_t 157 dX0_passDayOfOne_32 rfl (Int32.le_refl _) ?_
    refine z_vret hq rfl dX0_passDayOfOne_157 rfl rfl ?_
    exact ⟨rfl, by simp only [dayO, hQ1]⟩
  · intro u v w
    have e2 : cols Q1 p t i 56 = Q 56 := by rw [cols_off (by omega) (by omega) (by omega) (by omega) _ (fun c hc => by omega)]; exact e56
    have oki := okQ_cols (t := t) ok1 hp i (by omega)
    have ih : ∀ u v w, Y G X mX0_passDayOfOne (sp σ r (colGo (cols Q1 p t i) p i t)) 27 [some (.ref (zGa G r)), some (.int (nI p)), some (.int (nI t)), some (.int (nI (i + 1))), u, v, w] [] := ih
    generalize cols Q1 p t i = R at ih e2 oki ⊢
    have c5 : i < 5 := by omega
    have e0 : 33 + (p * 5 + i) = 33 + 5 * p + i := by omega
    have b4 := oki.he hp c5
    have b5 := oki.pu hp
    have b6 := rentK_le (R i)
    have b7 := fadeK_le (R i)
    have b8 : t * fadeK (R i) ≤ 2 * 3 := Nat.mul_le_mul ht b7
    have b9 : R (33 + 5 * p + i) * rentK (R i) ≤ 99 * 6 := Nat.mul_le_mul b4 b6
    have bv := oki.vt c5
    have g1 : ∀ v, un R (25 + p) v 55 = R 55 := fun v => un_n (by omega)
    have g3 : ∀ v w, un (un R (33 + 5 * p + i) v) (20 + i) w 54 = R 54 := fun v w => by rw [un_n (by omega), un_n (by omega)]
    have g2 : ∀ v w, un (un R (25 + p) v) 55 w i = R i := fun v w => by rw [un_n (by omega), un_n (by omega)]
    refine z_iload_n 28 dX0_passDayOfOne_27 rfl rfl ?_
    refine z_aload_n 29 dX0_passDayOfOne_28 rfl rfl ?_
    refine p_get 32 hk rfl fl_X0_30 dX0_passDayOfOne_29 rfl ?_
    rw [e2]
    refine z_icmp_ge_f 35 157 dX0_passDayOfOne_32 rfl (nI_ge hi (by omega)) rfl ?_
    refine z_iload_n 36 dX0_passDayOfOne_35 rfl rfl ?_
    refine z_iconst 37 dX0_passDayOfOne_36 vi5 rfl ?_
    refine z_imulN 38 rfl (show (5 : Int32) = nI 5 from rfl) dX0_passDayOfOne_37 rfl ?_
    refine z_iload_n 39 dX0_passDayOfOne_38 rfl rfl ?_
    refine z_iaddN 40 rfl rfl dX0_passDayOfOne_39 rfl ?_
    refine z_istore 42 [_, _, _, _, _, _, _] dX0_passDayOfOne_40 (by decide) rfl rfl rfl ?_
    refine z_aload_n 43 dX0_passDayOfOne_42 rfl rfl ?_
    refine y_getr 46 _ (bk0 hk) rfl fl_X0_27 dX0_passDayOfOne_43 rfl ?_
    refine z_iload 48 dX0_passDayOfOne_46 rfl rfl ?_
    refine p_ld 49 _ (bk6 hk) rfl (by omega) (by decide) dX0_passDayOfOne_48 rfl ?_
    rw [e0]
    refine z_istore 51 [_, _, _, _, _, _, _] dX0_passDayOfOne_49 (by decide) rfl rfl rfl ?_
    refine z_iload 53 dX0_passDayOfOne_51 rfl rfl ?_
    refine z_aload_n 54 dX0_passDayOfOne_53 rfl rfl ?_
    refine z_iload_n 55 dX0_passDayOfOne_54 rfl rfl ?_
    refine y_cVs 58 _ (c_rentOf hk hds_sp c5 (oki.kd c5)) (bk0 hk) cv_X0_63 ⟨by decide, by decide, rfl, rfl⟩ (Nat.le_of_ble_eq_true rfl) dX0_passDayOfOne_55 rfl rfl ?_
    refine z_imulN 59 rfl rfl dX0_passDayOfOne_58 rfl ?_
    refine z_istore 61 [_, _, _, _, _, _, _] dX0_passDayOfOne_59 (by decide) rfl rfl rfl ?_
    refine z_iload 63 dX0_passDayOfOne_61 rfl rfl ?_
    refine z_if_le 128 66 dX0_passDayOfOne_63 rfl rfl (fun h63 => ?_) (fun h63 => ?_)
    · skip
      have h0 : R (33 + 5 * p + i) = 0 := by
          have := (nI_leI (a := R (33 + 5 * p + i)) (b := 0) (by omega) (by decide)).mp h63
          omega
      have e9 : colGo R p i t = R := by simp only [colGo]; rw [if_pos h0]
      refine z_iload 130 dX0_passDayOfOne_128 rfl rfl ?_
      refine z_if_le_t 151 dX0_passDayOfOne_130 rfl (h63) ?_
      refine z_iinc 154 [_, _, _, _, _, _, _] dX0_passDayOfOne_151 rfl (show _ + _ = nI (_ + 1) from nI_1 _) (by decide) rfl rfl rfl ?_
      refine z_goto 27 dX0_passDayOfOne_154 rfl ?_
      rw [e9] at ih
      exact ih _ _ _
    · skip
      have h0 : R (33 + 5 * p + i) ≠ 0 := fun e => h63 (by rw [e]; decide)
      refine z_aload_n 67 dX0_passDayOfOne_66 rfl rfl ?_
      refine y_getr 70 _ (bk0 hk) rfl fl_X0_21 dX0_passDayOfOne_67 rfl ?_
      refine z_iload_n 71 dX0_passDayOfOne_70 rfl rfl ?_
      refine p_ld 72 _ (bk4 hk) rfl (by omega) (by decide) dX0_passDayOfOne_71 rfl ?_
      refine z_iload 74 dX0_passDayOfOne_72 rfl rfl ?_
      refine z_icmp_lt 128 77 dX0_passDayOfOne_74 rfl rfl (fun h74 => ?_) (fun h74 => ?_)
      · skip
        have h1 : R (25 + p) < R (33 + 5 * p + i) * rentK (R i) := (nI_ltI (by omega) (by omega)).mp h74
        refine z_iload 130 dX0_passDayOfOne_128 rfl rfl ?_
        refine z_if_le_f 133 151 dX0_passDayOfOne_130 rfl (h63) rfl ?_
        refine z_aload_n 134 dX0_passDayOfOne_133 rfl rfl ?_
        refine z_iload_n 135 dX0_passDayOfOne_134 rfl rfl ?_
        refine z_iload_n 136 dX0_passDayOfOne_135 rfl rfl ?_
        refine z_iload 138 dX0_passDayOfOne_136 rfl rfl ?_
        refine y_cVv 141 _ (c_takeBack hk hds_sp hp c5 (Nat.le_refl _) (by omega)) (bk0 hk) cv_X0_98 ⟨by decide, by decide, rfl, rfl⟩ (Nat.le_of_ble_eq_true rfl) dX0_passDayOfOne_138 rfl rfl ?_
        rw [sp_sp, Nat.sub_self]
        refine z_aload_n 142 dX0_passDayOfOne_141 rfl rfl ?_
        refine z_dup 143 dX0_passDayOfOne_142 rfl rfl ?_
        refine p_get 146 hk rfl fl_X0_40 dX0_passDayOfOne_143 rfl ?_
        rw [g3]
        refine z_iconst 147 dX0_passDayOfOne_146 vi1 rfl ?_
        refine z_iaddN 148 rfl (show (1 : Int32) = nI 1 from rfl) dX0_passDayOfOne_147 rfl ?_
        refine p_put 151 hk rfl rfl fp_X0_40 dX0_passDayOfOne_148 rfl ?_
        refine z_iinc 154 [_, _, _, _, _, _, _] dX0_passDayOfOne_151 rfl (show _ + _ = nI (_ + 1) from nI_1 _) (by decide) rfl rfl rfl ?_
        refine z_goto 27 dX0_passDayOfOne_154 rfl ?_
        have e9 : colGo R p i t = un (un (un (un R (33 + 5 * p + i) 0) (20 + i) (min 99 (R (20 + i) + R (33 + 5 * p + i)))) 54 (R 54 + 1)) (58 + p) (R (58 + p) + 1) := by simp only [colGo]; rw [if_neg h0, if_neg (by omega), un_co (Q := R) (i := 20 + i) (j := 33 + 5 * p + i) (by omega)]
        rw [e9] at ih
        exact y_ghost hk (by omega) (ih _ _ _)
      · skip
        have h1 : R (33 + 5 * p + i) * rentK (R i) ≤ R (25 + p) := by
            rcases Nat.lt_or_ge (R (25 + p)) (R (33 + 5 * p + i) * rentK (R i)) with q | q
            · exact absurd (nI_lt q (by omega)) h74
            · exact q
        refine z_aload_n 78 dX0_passDayOfOne_77 rfl rfl ?_
        refine y_getr 81 _ (bk0 hk) rfl fl_X0_21 dX0_passDayOfOne_78 rfl ?_
        refine z_iload_n 82 dX0_passDayOfOne_81 rfl rfl ?_
        refine z_dup2 83 dX0_passDayOfOne_82 rfl rfl rfl ?_
        refine p_ld 84 _ (bk4 hk) rfl (by omega) (by decide) dX0_passDayOfOne_83 rfl ?_
        refine z_iload 86 dX0_passDayOfOne_84 rfl rfl ?_
        refine z_isubN 87 rfl rfl h1 dX0_passDayOfOne_86 rfl ?_
        refine p_st 88 _ (bk4 hk) rfl (by omega) rfl (by decide) dX0_passDayOfOne_87 rfl ?_
        refine z_aload_n 89 dX0_passDayOfOne_88 rfl rfl ?_
        refine z_dup 90 dX0_passDayOfOne_89 rfl rfl ?_
        refine p_get 93 hk rfl fl_X0_43 dX0_passDayOfOne_90 rfl ?_
        rw [g1]
        refine z_iload 95 dX0_passDayOfOne_93 rfl rfl ?_
        refine z_iaddN 96 rfl rfl dX0_passDayOfOne_95 rfl ?_
        refine p_put 99 hk rfl rfl fp_X0_43 dX0_passDayOfOne_96 rfl ?_
        refine z_aload_n 100 dX0_passDayOfOne_99 rfl rfl ?_
        refine y_getr 103 _ (bk0 hk) rfl fl_X0_27 dX0_passDayOfOne_100 rfl ?_
        refine z_iload 105 dX0_passDayOfOne_103 rfl rfl ?_
        refine z_iconst 106 dX0_passDayOfOne_105 vi0 rfl ?_
        refine z_iload 108 dX0_passDayOfOne_106 rfl rfl ?_
        refine z_iload_n 109 dX0_passDayOfOne_108 rfl rfl ?_
        refine z_gsF 112 rfl dX0_passDayOfOne_109 rfl ?_
        refine z_aload_n 113 dX0_passDayOfOne_112 rfl rfl ?_
        refine y_getr 116 _ (bk0 hk) rfl fl_X0_9 dX0_passDayOfOne_113 rfl ?_
        refine z_iload_n 117 dX0_passDayOfOne_116 rfl rfl ?_
        refine p_ld 118 _ (bk1 hk) rfl (by omega) (by decide) dX0_passDayOfOne_117 rfl ?_
        rw [Nat.zero_add, g2]
        refine z_tF 119 _ rfl (oki.kd c5) (fades_v (oki.kd c5)) dX0_passDayOfOne_118 rfl ?_
        refine z_imulN 120 rfl rfl dX0_passDayOfOne_119 rfl ?_
        refine z_isub 121 dX0_passDayOfOne_120 rfl ?_
        refine y_mx 124 kl_X0_95 (by decide) (Nat.le_of_ble_eq_true rfl) dX0_passDayOfOne_121 rfl ?_
        refine p_st 125 _ (bk6 hk) rfl (by omega) (zmax0 rfl (by omega) (by omega)) (by decide) dX0_passDayOfOne_124 rfl ?_
        refine z_goto 151 dX0_passDayOfOne_125 rfl ?_
        refine z_iinc 154 [_, _, _, _, _, _, _] dX0_passDayOfOne_151 rfl (show _ + _ = nI (_ + 1) from nI_1 _) (by decide) rfl rfl rfl ?_
        refine z_goto 27 dX0_passDayOfOne_154 rfl ?_
        have e9 : colGo R p i t = un (un (un R (25 + p) (R (25 + p) - R (33 + 5 * p + i) * rentK (R i))) 55 (R 55 + R (33 + 5 * p + i) * rentK (R i))) (33 + 5 * p + i) (R (33 + 5 * p + i) - t * fadeK (R i)) := by simp only [colGo]; rw [if_neg h0, if_pos h1]
        rw [e9] at ih
        rw [e0]
        exact ih _ _ _
set_option maxRecDepth 100000 in
theorem c_passDay {l : Launch} {G : zG} {σ : Nat → Int32} {r t : Nat} {Q : Pg} (hk : zBk r) (hQ : hds σ r Q) (ok : okQ Q) (ht : t ≤ 2) : zMet l yX0_passDay mX0_passDay [.ref (zGa G r), .int (nI t)] G (zW G σ) (zFn G none (sp σ r (dayA Q t))) := by
  have b3 := ok.np
  conv => arg 6; rw [← sp_self hQ]
  refine zMet.of (by decide) rfl (Nat.le_of_ble_eq_true rfl) (Or.inr rfl) fun X hX hq => ?_
  subst hX
  show Y G X mX0_passDay (sp σ r Q) 0 [some (.ref (zGa G r)), some (.int (nI t)), none] []
  refine z_iconst 1 dX0_passDay_0 vi0 rfl ?_
  refine z_istore_n 2 [_, _, _] dX0_passDay_1 (by decide) rfl rfl rfl ?_
  refine zup (P := fun i => Y G X mX0_passDay (sp σ r (ones Q t i)) 2 [some (.ref (zGa G r)), some (.int (nI t)), some (.int (nI i))] []) (Q 57) ?_ (fun i hi ih => ?_) 0 (Nat.zero_le _)
  · have e2 : ones Q t (Q 57) 57 = Q 57 := ones_off ok (by omega) _ b3
    refine z_iload_n 3 dX0_passDay_2 rfl rfl ?_
    refine z_aload_n 4 dX0_passDay_3 rfl rfl ?_
    refine p_get 7 hk rfl fl_X0_34 dX0_passDay_4 rfl ?_
    rw [e2]
    refine z_icmp_ge_t 22 dX0_passDay_7 rfl (Int32.le_refl _) ?_
    refine z_aload_n 23 dX0_passDay_22 rfl rfl ?_
    refine z_dup 24 dX0_passDay_23 rfl rfl ?_
    refine p_get 27 hk rfl fl_X0_37 dX0_passDay_24 rfl ?_
    refine z_iconst 28 dX0_passDay_27 vi1 rfl ?_
    refine z_iaddN 29 rfl (show (1 : Int32) = nI 1 from rfl) dX0_passDay_28 rfl ?_
    refine p_put 32 hk rfl rfl fp_X0_37 dX0_passDay_29 rfl ?_
    refine z_vret hq rfl dX0_passDay_32 rfl rfl ?_
    exact ⟨rfl, rfl⟩
  · have e2 : ones Q t i 57 = Q 57 := ones_off ok (by omega) _ (by omega)
    refine z_iload_n 3 dX0_passDay_2 rfl rfl ?_
    refine z_aload_n 4 dX0_passDay_3 rfl rfl ?_
    refine p_get 7 hk rfl fl_X0_34 dX0_passDay_4 rfl ?_
    rw [e2]
    refine z_icmp_ge_f 10 22 dX0_passDay_7 rfl (nI_ge hi (by omega)) rfl ?_
    refine z_aload_n 11 dX0_passDay_10 rfl rfl ?_
    refine z_iload_n 12 dX0_passDay_11 rfl rfl ?_
    refine z_iload_n 13 dX0_passDay_12 rfl rfl ?_
    refine y_cVv 16 _ (c_passDayOfOne hk hds_sp (okQ_ones ok i (by omega)) (by omega) ht) (bk0 hk) cv_X0_88 ⟨by decide, by decide, rfl, rfl⟩ (Nat.le_of_ble_eq_true rfl) dX0_passDay_13 rfl rfl ?_
    rw [sp_sp]
    refine z_iinc 19 [_, _, _] dX0_passDay_16 rfl (show _ + _ = nI (_ + 1) from nI_1 _) (by decide) rfl rfl rfl ?_
    refine z_goto 2 dX0_passDay_19 rfl ?_
    exact ih
set_option maxRecDepth 100000 in
theorem c_passDays {l : Launch} {G : zG} {σ : Nat → Int32} {r n : Nat} {Q : Pg} (hk : zBk r) (hQ : hds σ r Q) (ok : okQ Q) (hn : n < 2 ^ 31) : zMet l yX0_passDays mX0_passDays [.ref (zGa G r), .int (nI n)] G (zW G σ) (zFn G none (sp σ r (daysA Q n))) := by
  conv => arg 6; rw [← sp_self hQ]
  refine zMet.of (by decide) rfl (Nat.le_of_ble_eq_true rfl) (Or.inr rfl) fun X hX hq => ?_
  subst hX
  show Y G X mX0_passDays (sp σ r Q) 0 [some (.ref (zGa G r)), some (.int (nI n)), none] []
  refine z_iconst 1 dX0_passDays_0 vi0 rfl ?_
  refine z_istore_n 2 [_, _, _] dX0_passDays_1 (by decide) rfl rfl rfl ?_
  refine zup (P := fun i => Y G X mX0_passDays (sp σ r (daysA Q i)) 2 [some (.ref (zGa G r)), some (.int (nI n)), some (.int (nI i))] []) n ?_ (fun i hi ih => ?_) 0 (Nat.zero_le _)
  · skip
    refine z_iload_n 3 dX0_passDays_2 rfl rfl ?_
    refine z_iload_n 4 dX0_passDays_3 rfl rfl ?_
    refine z_icmp_ge_t 18 dX0_passDays_4 rfl (Int32.le_refl _) ?_
    refine z_vret hq rfl dX0_passDays_18 rfl rfl ?_
    exact ⟨rfl, rfl⟩
  · skip
    refine z_iload_n 3 dX0_passDays_2 rfl rfl ?_
    refine z_iload_n 4 dX0_passDays_3 rfl rfl ?_
    refine z_icmp_ge_f 7 18 dX0_passDays_4 rfl (nI_ge hi (by omega)) rfl ?_
    refine z_aload_n 8 dX0_passDays_7 rfl rfl ?_
    refine z_iconst 9 dX0_passDays_8 vi1 rfl ?_
    refine y_cVv 12 _ (c_passDay (t := 1) hk hds_sp (okQ_daysA ok i) (by decide)) (bk0 hk) cv_X0_84 ⟨by decide, by decide, rfl, rfl⟩ (Nat.le_of_ble_eq_true rfl) dX0_passDays_9 rfl rfl ?_
    rw [sp_sp]
    refine z_iinc 15 [_, _, _] dX0_passDays_12 rfl (show _ + _ = nI (_ + 1) from nI_1 _) (by decide) rfl rfl rfl ?_
    refine z_goto 2 dX0_passDays_15 rfl ?_
    exact ih
set_option maxRecDepth 100000 in
theorem c_passDaysOfOne {l : Launch} {G : zG} {σ : Nat → Int32} {r p n : Nat} {Q : Pg} (hk : zBk r) (hQ : hds σ r Q) (ok : okQ Q) (hp : p < 4) (hn : n < 2 ^ 31) : zMet l yX0_passDaysOfOne mX0_passDaysOfOne [.ref (zGa G r), .int (nI p), .int (nI n)] G (zW G σ) (zFn G none (sp σ r (daysO Q p n))) := by
  conv => arg 6; rw [← sp_self hQ]
  refine zMet.of (by decide) rfl (Nat.le_of_ble_eq_true rfl) (Or.inr rfl) fun X hX hq => ?_
  subst hX
  show Y G X mX0_passDaysOfOne (sp σ r Q) 0 [some (.ref (zGa G r)), some (.int (nI p)), some (.int (nI n)), none] []
  refine z_iconst 1 dX0_passDaysOfOne_0 vi0 rfl ?_
  refine z_istore_n 2 [_, _, _, _] dX0_passDaysOfOne_1 (by decide) rfl rfl rfl ?_
  refine zup (P := fun i => Y G X mX0_passDaysOfOne (sp σ r (daysO Q p i)) 2 [some (.ref (zGa G r)), some (.int (nI p)), some (.int (nI n)), some (.int (nI i))] []) n ?_ (fun i hi ih => ?_) 0 (Nat.zero_le _)
  · skip
    refine z_iload_n 3 dX0_passDaysOfOne_2 rfl rfl ?_
    refine z_iload_n 4 dX0_passDaysOfOne_3 rfl rfl ?_
    refine z_icmp_ge_t 19 dX0_passDaysOfOne_4 rfl (Int32.le_refl _) ?_
    refine z_vret hq rfl dX0_passDaysOfOne_19 rfl rfl ?_
    exact ⟨rfl, rfl⟩
  · skip
    refine z_iload_n 3 dX0_passDaysOfOne_2 rfl rfl ?_
    refine z_iload_n 4 dX0_passDaysOfOne_3 rfl rfl ?_
    refine z_icmp_ge_f 7 19 dX0_passDaysOfOne_4 rfl (nI_ge hi (by omega)) rfl ?_
    refine z_aload_n 8 dX0_passDaysOfOne_7 rfl rfl ?_
    refine z_iload_n 9 dX0_passDaysOfOne_8 rfl rfl ?_
    refine z_iconst 10 dX0_passDaysOfOne_9 vi1 rfl ?_
    refine y_cVv 13 _ (c_passDayOfOne (t := 1) hk hds_sp (okQ_daysO ok hp i) hp (by decide)) (bk0 hk) cv_X0_88 ⟨by decide, by decide, rfl, rfl⟩ (Nat.le_of_ble_eq_true rfl) dX0_passDaysOfOne_10 rfl rfl ?_
    rw [sp_sp]
    refine z_iinc 16 [_, _, _, _] dX0_passDaysOfOne_13 rfl (show _ + _ = nI (_ + 1) from nI_1 _) (by decide) rfl rfl rfl ?_
    refine z_goto 2 dX0_passDaysOfOne_16 rfl ?_
    exact ih

