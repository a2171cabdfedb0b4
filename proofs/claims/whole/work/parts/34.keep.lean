/-! ===== arrays of books and of sheets ===== -/
theorem aa15 {j : Nat} (hj : j < 2) : ([(true, 108), (true, 115)] : List (Bool × Nat))[j]? = some (true, 108 + 7 * j) := by
  rcases (show j = 0 ∨ j = 1 by omega) with rfl | rfl <;> rfl
theorem aa17 {j : Nat} (hj : j < 4) : ([(true, 122), (true, 129), (true, 136), (true, 143)] : List (Bool × Nat))[j]? = some (true, 122 + 7 * j) := by
  rcases (show j = 0 ∨ j = 1 ∨ j = 2 ∨ j = 3 by omega) with rfl | rfl | rfl | rfl <;> rfl
theorem aa107 {j : Nat} (hj : j < 4) : ([(true, 150), (true, 152), (true, 154), (true, 156)] : List (Bool × Nat))[j]? = some (true, 150 + 2 * j) := by
  rcases (show j = 0 ∨ j = 1 ∨ j = 2 ∨ j = 3 by omega) with rfl | rfl | rfl | rfl <;> rfl
theorem aa43 {j : Nat} (hj : j < 9) : ([(true, 44), (true, 51), (true, 58), (true, 65), (true, 72), (true, 79), (true, 86), (true, 93), (true, 100)] : List (Bool × Nat))[j]? = some (true, 44 + 7 * j) := by
  rcases (show j = 0 ∨ j = 1 ∨ j = 2 ∨ j = 3 ∨ j = 4 ∨ j = 5 ∨ j = 6 ∨ j = 7 ∨ j = 8 by omega) with rfl | rfl | rfl | rfl | rfl | rfl | rfl | rfl | rfl <;> rfl
theorem bka15 {j : Nat} (hj : j < 2) : zBk (108 + 7 * j) := by
  rcases (show j = 0 ∨ j = 1 by omega) with rfl | rfl <;> (show _ ∈ zBks; decide)
theorem bka17 {j : Nat} (hj : j < 4) : zBk (122 + 7 * j) := by
  rcases (show j = 0 ∨ j = 1 ∨ j = 2 ∨ j = 3 by omega) with rfl | rfl | rfl | rfl <;> (show _ ∈ zBks; decide)
theorem bka43 {j : Nat} (hj : j < 9) : zBk (44 + 7 * j) := by
  rcases (show j = 0 ∨ j = 1 ∨ j = 2 ∨ j = 3 ∨ j = 4 ∨ j = 5 ∨ j = 6 ∨ j = 7 ∨ j = 8 by omega) with rfl | rfl | rfl | rfl | rfl | rfl | rfl | rfl | rfl <;> (show _ ∈ zBks; decide)
theorem sho {j : Nat} (hj : j < 4) : zSh[150 + 2 * j]? = some (8, 400 * (150 + 2 * j) + 0, 3, [(false, 400 * (150 + 2 * j) + 0), (false, 400 * (150 + 2 * j) + 1), (true, 150 + 2 * j + 1)]) := by
  rcases (show j = 0 ∨ j = 1 ∨ j = 2 ∨ j = 3 by omega) with rfl | rfl | rfl | rfl <;> decide +kernel
theorem shc {j : Nat} (hj : j < 4) : zSh[150 + 2 * j + 1]? = some (0, 400 * (150 + 2 * j + 1) + 0, 40, []) := by
  rcases (show j = 0 ∨ j = 1 ∨ j = 2 ∨ j = 3 by omega) with rfl | rfl | rfl | rfl <;> decide +kernel
/-! ===== keep, back ===== -/
def vKeep (f : Nat → Int32) (k : Int32) : Int32 := if inR k 2 then (if f (nN k) = 0 then 0 else 1) else -1
def sKeepC (σ : Nat → Int32) (N : Pg) (k : Int32) : Nat → Int32 := if inR k 2 then upd (sp σ (108 + 7 * nN k) (nrm N)) (400 * 16 + 0 + nN k) 1 else σ
def sKeepR (σ : Nat → Int32) (k : Int32) : Nat → Int32 := if inR k 2 then upd (cp σ 63600 (63600 + 55 * (nN k + 1)) 55) (400 * 169 + 0 + nN k) 1 else σ
def vBack (f : Nat → Int32) (I : Nat → Pg) (k : Int32) : Int32 := if inR k 2 then (if f (nN k) = 0 then -2 else nI (I (nN k) 53)) else -1
def sBackC (σ : Nat → Int32) (I : Nat → Pg) (k : Int32) : Nat → Int32 := if inR k 2 ∧ σ (400 * 16 + 0 + nN k) ≠ 0 then sp σ 1 (nrm (I (nN k))) else σ
def sBackR (σ : Nat → Int32) (k : Int32) : Nat → Int32 := if inR k 2 ∧ σ (400 * 169 + 0 + nN k) ≠ 0 then cp σ (63600 + 55 * (nN k + 1)) 63600 55 else σ
set_option maxRecDepth 100000 in
theorem x_keep {l : Launch} {G : zG} {σ : Nat → Int32} {N : Pg} {k : Int32} (hc : hdc σ 1 N) : zMet l yX6_keep mX6_keep [.ref (zGa G 0), .int k] G (zW G σ) (zFn G (some (.int (vKeep (fun j => σ (400 * 16 + 0 + j)) k))) (sKeepC σ N k)) := by
  have bw : bi ((0 : Int32) ≤ k ∧ k ≤ 1) = bi (inR k 2) := bi_cg (le_inR (n := 1) (by decide))
  refine zMet.of (by decide) rfl (Nat.le_of_ble_eq_true rfl) (Or.inr rfl) fun X hX hq => ?_
  subst hX
  show Y G X mX6_keep σ 0 [some (.ref (zGa G 0)), some (.int k), none] []
  by_cases hi : inR k 2
  · obtain ⟨j, hj, rfl⟩ := inR_of hi (by decide)
    have ej : nN (nI j) = j := nN_nI (by omega)
    refine z_iload_n 1 dX6_keep_0 rfl rfl ?_
    refine z_iconst 2 dX6_keep_1 vi0 rfl ?_
    refine z_iconst 3 dX6_keep_2 vi1 rfl ?_
    refine y_cSs 6 (c_within) cs_X6_73 ⟨by decide, by decide, rfl, rfl⟩ (Nat.le_of_ble_eq_true rfl) dX6_keep_3 rfl rfl ?_
    rw [bw]
    refine z_if_ne_t 11 dX6_keep_6 rfl (by rw [bi_t hi]; decide) ?_
    refine z_aload_n 12 dX6_keep_11 rfl rfl ?_
    refine y_getr 15 _ sh0 rfl fl_X6_23 dX6_keep_12 rfl ?_
    refine z_iload_n 16 dX6_keep_15 rfl rfl ?_
    refine y_ldZ 17 _ j sh16 rfl hj (by omega) dX6_keep_16 rfl ?_
    refine z_if_eq 24 20 dX6_keep_17 rfl rfl (fun h17 => ?_) (fun h17 => ?_)
    · skip
      refine z_iconst 25 dX6_keep_24 vi0 rfl ?_
      refine z_istore_n 26 [_, _, _] dX6_keep_25 (by decide) rfl rfl rfl ?_
      refine z_aload_n 27 dX6_keep_26 rfl rfl ?_
      refine y_getr 30 _ sh0 rfl fl_X6_19 dX6_keep_27 rfl ?_
      refine z_iload_n 31 dX6_keep_30 rfl rfl ?_
      refine y_aaB 32 _ j sh15 rfl hj (by decide) (aa15 hj) dX6_keep_31 rfl ?_
      refine z_aload_n 33 dX6_keep_32 rfl rfl ?_
      refine y_getr 36 _ sh0 rfl fl_X6_10 dX6_keep_33 rfl ?_
      refine y_cVv 39 _ (n_takeFrom (bka15 hj) bkm1 (by omega) hc) (bk0 (bka15 hj)) cv_X6_96 ⟨by decide, by decide, rfl, rfl⟩ (Nat.le_of_ble_eq_true rfl) dX6_keep_36 rfl rfl ?_
      refine z_aload_n 40 dX6_keep_39 rfl rfl ?_
      refine y_getr 43 _ sh0 rfl fl_X6_23 dX6_keep_40 rfl ?_
      refine z_iload_n 44 dX6_keep_43 rfl rfl ?_
      refine z_iconst 45 dX6_keep_44 vi1 rfl ?_
      refine y_stZ 46 _ j sh16 rfl hj (by decide) rfl dX6_keep_45 rfl ?_
      refine z_iload_n 47 dX6_keep_46 rfl rfl ?_
      refine z_iret hq rfl dX6_keep_47 rfl rfl ?_
      exact ⟨by rw [vKeep, if_pos hi, ej, if_pos h17], by rw [sKeepC, if_pos hi, ej]⟩
    · skip
      refine z_iconst 21 dX6_keep_20 vi1 rfl ?_
      refine z_goto 25 dX6_keep_21 rfl ?_
      refine z_istore_n 26 [_, _, _] dX6_keep_25 (by decide) rfl rfl rfl ?_
      refine z_aload_n 27 dX6_keep_26 rfl rfl ?_
      refine y_getr 30 _ sh0 rfl fl_X6_19 dX6_keep_27 rfl ?_
      refine z_iload_n 31 dX6_keep_30 rfl rfl ?_
      refine y_aaB 32 _ j sh15 rfl hj (by decide) (aa15 hj) dX6_keep_31 rfl ?_
      refine z_aload_n 33 dX6_keep_32 rfl rfl ?_
      refine y_getr 36 _ sh0 rfl fl_X6_10 dX6_keep_33 rfl ?_
      refine y_cVv 39 _ (n_takeFrom (bka15 hj) bkm1 (by omega) hc) (bk0 (bka15 hj)) cv_X6_96 ⟨by decide, by decide, rfl, rfl⟩ (Nat.le_of_ble_eq_true rfl) dX6_keep_36 rfl rfl ?_
      refine z_aload_n 40 dX6_keep_39 rfl rfl ?_
      refine y_getr 43 _ sh0 rfl fl_X6_23 dX6_keep_40 rfl ?_
      refine z_iload_n 44 dX6_keep_43 rfl rfl ?_
      refine z_iconst 45 dX6_keep_44 vi1 rfl ?_
      refine y_stZ 46 _ j sh16 rfl hj (by decide) rfl dX6_keep_45 rfl ?_
      refine z_iload_n 47 dX6_keep_46 rfl rfl ?_
      refine z_iret hq rfl dX6_keep_47 rfl rfl ?_
      exact ⟨by rw [vKeep, if_pos hi, ej, if_neg h17], by rw [sKeepC, if_pos hi, ej]⟩
  · skip
    refine z_iload_n 1 dX6_keep_0 rfl rfl ?_
    refine z_iconst 2 dX6_keep_1 vi0 rfl ?_
    refine z_iconst 3 dX6_keep_2 vi1 rfl ?_
    refine y_cSs 6 (c_within) cs_X6_73 ⟨by decide, by decide, rfl, rfl⟩ (Nat.le_of_ble_eq_true rfl) dX6_keep_3 rfl rfl ?_
    rw [bw]
    refine z_if_ne_f 9 11 dX6_keep_6 rfl (bi_f hi) rfl ?_
    refine z_iconst 10 dX6_keep_9 vim1 rfl ?_
    refine z_iret hq rfl dX6_keep_10 rfl rfl ?_
    exact ⟨by rw [vKeep, if_neg hi], by rw [sKeepC, if_neg hi]⟩
set_option maxRecDepth 100000 in
theorem r_keep {l : Launch} {G : zG} {σ : Nat → Int32} {k : Int32} : zMet l yX7_keep mX7_keep [.ref (zGa G 158), .int k] G (zW G σ) (zFn G (some (.int (vKeep (fun j => σ (400 * 169 + 0 + j)) k))) (sKeepR σ k)) := by
  have bw : bi ((0 : Int64) ≤ k.toInt64 ∧ k.toInt64 ≤ 1) = bi (inR k 2) := bi_in7 (n := 1) (by decide)
  refine zMet.of (by decide) rfl (Nat.le_of_ble_eq_true rfl) (Or.inr rfl) fun X hX hq => ?_
  subst hX
  show Y G X mX7_keep σ 0 [some (.ref (zGa G 158)), some (.int k), none] []
  by_cases hi : inR k 2
  · obtain ⟨j, hj, rfl⟩ := inR_of hi (by decide)
    have ej : nN (nI j) = j := nN_nI (by omega)
    have e1 : cp σ (63600 + 0) (63600 + 55 * (j + 1)) 55 (400 * 169 + 0 + j) = σ (400 * 169 + 0 + j) := cp_out (by omega)
    refine z_iload_n 1 dX7_keep_0 rfl rfl ?_
    refine z_i2l 2 dX7_keep_1 rfl ?_
    refine z_lconst 3 dX7_keep_2 vl0 rfl ?_
    refine z_lconst 4 dX7_keep_3 vl1 rfl ?_
    refine y_cSs 7 (c_in) cs_X7_55 ⟨by decide, by decide, rfl, rfl⟩ (Nat.le_of_ble_eq_true rfl) dX7_keep_4 rfl rfl ?_
    rw [bw]
    refine z_if_ne_t 12 dX7_keep_7 rfl (by rw [bi_t hi]; decide) ?_
    refine z_aload_n 13 dX7_keep_12 rfl rfl ?_
    refine z_iconst 14 dX7_keep_13 vi0 rfl ?_
    refine z_bipush 16 dX7_keep_14 vb55 rfl ?_
    refine z_iload_n 17 dX7_keep_16 rfl rfl ?_
    refine z_iconst 18 dX7_keep_17 vi1 rfl ?_
    refine z_iaddN 19 rfl (show (1 : Int32) = nI 1 from rfl) dX7_keep_18 rfl ?_
    refine z_imulN 20 (show (55 : Int32) = nI 55 from rfl) rfl dX7_keep_19 rfl ?_
    refine y_cVv 23 _ (c_copies (f := 0) (t := 55 * (j + 1)) (by decide) (by omega) (by omega)) sh158 cv_X7_212 ⟨by decide, by decide, rfl, rfl⟩ (Nat.le_of_ble_eq_true rfl) dX7_keep_20 rfl rfl ?_
    refine z_aload_n 24 dX7_keep_23 rfl rfl ?_
    refine y_getr 27 _ sh158 rfl fl_X7_40 dX7_keep_24 rfl ?_
    refine z_iload_n 28 dX7_keep_27 rfl rfl ?_
    refine y_ldZ 29 _ j sh169 rfl hj (by omega) dX7_keep_28 rfl ?_
    rw [e1]
    refine z_if_eq 36 32 dX7_keep_29 rfl rfl (fun h29 => ?_) (fun h29 => ?_)
    · skip
      refine z_iconst 37 dX7_keep_36 vi0 rfl ?_
      refine z_istore_n 38 [_, _, _] dX7_keep_37 (by decide) rfl rfl rfl ?_
      refine z_aload_n 39 dX7_keep_38 rfl rfl ?_
      refine y_getr 42 _ sh158 rfl fl_X7_40 dX7_keep_39 rfl ?_
      refine z_iload_n 43 dX7_keep_42 rfl rfl ?_
      refine z_iconst 44 dX7_keep_43 vi1 rfl ?_
      refine y_stZ 45 _ j sh169 rfl hj (by decide) rfl dX7_keep_44 rfl ?_
      refine z_iload_n 46 dX7_keep_45 rfl rfl ?_
      refine z_iret hq rfl dX7_keep_46 rfl rfl ?_
      exact ⟨by rw [vKeep, if_pos hi, ej, if_pos h29], by rw [sKeepR, if_pos hi, ej]⟩
    · skip
      refine z_iconst 33 dX7_keep_32 vi1 rfl ?_
      refine z_goto 37 dX7_keep_33 rfl ?_
      refine z_istore_n 38 [_, _, _] dX7_keep_37 (by decide) rfl rfl rfl ?_
      refine z_aload_n 39 dX7_keep_38 rfl rfl ?_
      refine y_getr 42 _ sh158 rfl fl_X7_40 dX7_keep_39 rfl ?_
      refine z_iload_n 43 dX7_keep_42 rfl rfl ?_
      refine z_iconst 44 dX7_keep_43 vi1 rfl ?_
      refine y_stZ 45 _ j sh169 rfl hj (by decide) rfl dX7_keep_44 rfl ?_
      refine z_iload_n 46 dX7_keep_45 rfl rfl ?_
      refine z_iret hq rfl dX7_keep_46 rfl rfl ?_
      exact ⟨by rw [vKeep, if_pos hi, ej, if_neg h29], by rw [sKeepR, if_pos hi, ej]⟩
  · skip
    refine z_iload_n 1 dX7_keep_0 rfl rfl ?_
    refine z_i2l 2 dX7_keep_1 rfl ?_
    refine z_lconst 3 dX7_keep_2 vl0 rfl ?_
    refine z_lconst 4 dX7_keep_3 vl1 rfl ?_
    refine y_cSs 7 (c_in) cs_X7_55 ⟨by decide, by decide, rfl, rfl⟩ (Nat.le_of_ble_eq_true rfl) dX7_keep_4 rfl rfl ?_
    rw [bw]
    refine z_if_ne_f 10 12 dX7_keep_7 rfl (bi_f hi) rfl ?_
    refine z_iconst 11 dX7_keep_10 vim1 rfl ?_
    refine z_iret hq rfl dX7_keep_11 rfl rfl ?_
    exact ⟨by rw [vKeep, if_neg hi], by rw [sKeepR, if_neg hi]⟩
set_option maxRecDepth 100000 in
theorem x_back {l : Launch} {G : zG} {σ : Nat → Int32} {I : Nat → Pg} {k : Int32} (hI : ∀ j, j < 2 → σ (400 * 16 + 0 + j) ≠ 0 → hdc σ (108 + 7 * j) (I j)) : zMet l yX6_back mX6_back [.ref (zGa G 0), .int k] G (zW G σ) (zFn G (some (.int (vBack (fun j => σ (400 * 16 + 0 + j)) I k))) (sBackC σ I k)) := by
  have bw : bi ((0 : Int32) ≤ k ∧ k ≤ 1) = bi (inR k 2) := bi_cg (le_inR (n := 1) (by decide))
  refine zMet.of (by decide) rfl (Nat.le_of_ble_eq_true rfl) (Or.inr rfl) fun X hX hq => ?_
  subst hX
  show Y G X mX6_back σ 0 [some (.ref (zGa G 0)), some (.int k)] []
  by_cases hi : inR k 2
  · obtain ⟨j, hj, rfl⟩ := inR_of hi (by decide)
    have ej : nN (nI j) = j := nN_nI (by omega)
    by_cases hz : σ (400 * 16 + 0 + j) = 0
    · skip
      refine z_iload_n 1 dX6_back_0 rfl rfl ?_
      refine z_iconst 2 dX6_back_1 vi0 rfl ?_
      refine z_iconst 3 dX6_back_2 vi1 rfl ?_
      refine y_cSs 6 (c_within) cs_X6_73 ⟨by decide, by decide, rfl, rfl⟩ (Nat.le_of_ble_eq_true rfl) dX6_back_3 rfl rfl ?_
      rw [bw]
      refine z_if_ne_t 11 dX6_back_6 rfl (by rw [bi_t hi]; decide) ?_
      refine z_aload_n 12 dX6_back_11 rfl rfl ?_
      refine y_getr 15 _ sh0 rfl fl_X6_23 dX6_back_12 rfl ?_
      refine z_iload_n 16 dX6_back_15 rfl rfl ?_
      refine y_ldZ 17 _ j sh16 rfl hj (by omega) dX6_back_16 rfl ?_
      refine z_if_ne_f 20 23 dX6_back_17 rfl (hz) rfl ?_
      refine z_bipush 22 dX6_back_20 vbm2 rfl ?_
      refine z_iret hq rfl dX6_back_22 rfl rfl ?_
      exact ⟨by rw [vBack, if_pos hi, ej, if_pos hz], by rw [sBackC, ej, if_neg (fun q => q.2 hz)]⟩
    · have hc := hI j hj hz
      have e1 : sp σ 1 (nrm (I j)) (400 * 1 + 53) = nI (I j 53) := (sp_at (i := 53) rfl (by decide)).trans (by rw [nrm_c (by decide)])
      refine z_iload_n 1 dX6_back_0 rfl rfl ?_
      refine z_iconst 2 dX6_back_1 vi0 rfl ?_
      refine z_iconst 3 dX6_back_2 vi1 rfl ?_
      refine y_cSs 6 (c_within) cs_X6_73 ⟨by decide, by decide, rfl, rfl⟩ (Nat.le_of_ble_eq_true rfl) dX6_back_3 rfl rfl ?_
      rw [bw]
      refine z_if_ne_t 11 dX6_back_6 rfl (by rw [bi_t hi]; decide) ?_
      refine z_aload_n 12 dX6_back_11 rfl rfl ?_
      refine y_getr 15 _ sh0 rfl fl_X6_23 dX6_back_12 rfl ?_
      refine z_iload_n 16 dX6_back_15 rfl rfl ?_
      refine y_ldZ 17 _ j sh16 rfl hj (by omega) dX6_back_16 rfl ?_
      refine z_if_ne_t 23 dX6_back_17 rfl (hz) ?_
      refine z_aload_n 24 dX6_back_23 rfl rfl ?_
      refine y_getr 27 _ sh0 rfl fl_X6_10 dX6_back_24 rfl ?_
      refine z_aload_n 28 dX6_back_27 rfl rfl ?_
      refine y_getr 31 _ sh0 rfl fl_X6_19 dX6_back_28 rfl ?_
      refine z_iload_n 32 dX6_back_31 rfl rfl ?_
      refine y_aaB 33 _ j sh15 rfl hj (by decide) (aa15 hj) dX6_back_32 rfl ?_
      refine y_cVv 36 _ (n_takeFrom bkm1 (bka15 hj) (by omega) hc) (bk0 bkm1) cv_X6_96 ⟨by decide, by decide, rfl, rfl⟩ (Nat.le_of_ble_eq_true rfl) dX6_back_33 rfl rfl ?_
      refine z_aload_n 37 dX6_back_36 rfl rfl ?_
      refine y_getr 40 _ sh0 rfl fl_X6_10 dX6_back_37 rfl ?_
      refine y_get 43 _ (bk0 bkm1) rfl fl_X6_109 dX6_back_40 rfl ?_
      rw [e1]
      refine z_iret hq rfl dX6_back_43 rfl rfl ?_
      exact ⟨by rw [vBack, if_pos hi, ej, if_neg hz], by rw [sBackC, ej, if_pos ⟨hi, hz⟩]⟩
  · skip
    refine z_iload_n 1 dX6_back_0 rfl rfl ?_
    refine z_iconst 2 dX6_back_1 vi0 rfl ?_
    refine z_iconst 3 dX6_back_2 vi1 rfl ?_
    refine y_cSs 6 (c_within) cs_X6_73 ⟨by decide, by decide, rfl, rfl⟩ (Nat.le_of_ble_eq_true rfl) dX6_back_3 rfl rfl ?_
    rw [bw]
    refine z_if_ne_f 9 11 dX6_back_6 rfl (bi_f hi) rfl ?_
    refine z_iconst 10 dX6_back_9 vim1 rfl ?_
    refine z_iret hq rfl dX6_back_10 rfl rfl ?_
    exact ⟨by rw [vBack, if_neg hi], by rw [sBackC, if_neg (fun q => hi q.1)]⟩
set_option maxRecDepth 100000 in
theorem r_back {l : Launch} {G : zG} {σ : Nat → Int32} {I : Nat → Pg} {k : Int32} (hI : ∀ j, j < 2 → σ (400 * 169 + 0 + j) ≠ 0 → hdk σ (55 * (j + 1)) (I j)) : zMet l yX7_back mX7_back [.ref (zGa G 158), .int k] G (zW G σ) (zFn G (some (.int (vBack (fun j => σ (400 * 169 + 0 + j)) I k))) (sBackR σ k)) := by
  have bw : bi ((0 : Int64) ≤ k.toInt64 ∧ k.toInt64 ≤ 1) = bi (inR k 2) := bi_in7 (n := 1) (by decide)
  refine zMet.of (by decide) rfl (Nat.le_of_ble_eq_true rfl) (Or.inr rfl) fun X hX hq => ?_
  subst hX
  show Y G X mX7_back σ 0 [some (.ref (zGa G 158)), some (.int k)] []
  by_cases hi : inR k 2
  · obtain ⟨j, hj, rfl⟩ := inR_of hi (by decide)
    have ej : nN (nI j) = j := nN_nI (by omega)
    by_cases hz : σ (400 * 169 + 0 + j) = 0
    · skip
      refine z_iload_n 1 dX7_back_0 rfl rfl ?_
      refine z_i2l 2 dX7_back_1 rfl ?_
      refine z_lconst 3 dX7_back_2 vl0 rfl ?_
      refine z_lconst 4 dX7_back_3 vl1 rfl ?_
      refine y_cSs 7 (c_in) cs_X7_55 ⟨by decide, by decide, rfl, rfl⟩ (Nat.le_of_ble_eq_true rfl) dX7_back_4 rfl rfl ?_
      rw [bw]
      refine z_if_ne_t 12 dX7_back_7 rfl (by rw [bi_t hi]; decide) ?_
      refine z_aload_n 13 dX7_back_12 rfl rfl ?_
      refine y_getr 16 _ sh158 rfl fl_X7_40 dX7_back_13 rfl ?_
      refine z_iload_n 17 dX7_back_16 rfl rfl ?_
      refine y_ldZ 18 _ j sh169 rfl hj (by omega) dX7_back_17 rfl ?_
      refine z_if_ne_f 21 24 dX7_back_18 rfl (hz) rfl ?_
      refine z_bipush 23 dX7_back_21 vbm2 rfl ?_
      refine z_iret hq rfl dX7_back_23 rfl rfl ?_
      exact ⟨by rw [vBack, if_pos hi, ej, if_pos hz], by rw [sBackR, ej, if_neg (fun q => q.2 hz)]⟩
    · have hc := hI j hj hz 53 (by decide)
      have e1 : cp σ (63600 + 55 * (j + 1)) (63600 + 0) 55 (400 * 159 + 0 + 53) = nI (I j 53) := by
        rw [cp_in (by omega)]; refine Eq.trans ?_ hc; simp only [aR]; rw [if_pos (by decide)]
      refine z_iload_n 1 dX7_back_0 rfl rfl ?_
      refine z_i2l 2 dX7_back_1 rfl ?_
      refine z_lconst 3 dX7_back_2 vl0 rfl ?_
      refine z_lconst 4 dX7_back_3 vl1 rfl ?_
      refine y_cSs 7 (c_in) cs_X7_55 ⟨by decide, by decide, rfl, rfl⟩ (Nat.le_of_ble_eq_true rfl) dX7_back_4 rfl rfl ?_
      rw [bw]
      refine z_if_ne_t 12 dX7_back_7 rfl (by rw [bi_t hi]; decide) ?_
      refine z_aload_n 13 dX7_back_12 rfl rfl ?_
      refine y_getr 16 _ sh158 rfl fl_X7_40 dX7_back_13 rfl ?_
      refine z_iload_n 17 dX7_back_16 rfl rfl ?_
      refine y_ldZ 18 _ j sh169 rfl hj (by omega) dX7_back_17 rfl ?_
      refine z_if_ne_t 24 dX7_back_18 rfl (hz) ?_
      refine z_aload_n 25 dX7_back_24 rfl rfl ?_
      refine z_bipush 27 dX7_back_25 vb55 rfl ?_
      refine z_iload_n 28 dX7_back_27 rfl rfl ?_
      refine z_iconst 29 dX7_back_28 vi1 rfl ?_
      refine z_iaddN 30 rfl (show (1 : Int32) = nI 1 from rfl) dX7_back_29 rfl ?_
      refine z_imulN 31 (show (55 : Int32) = nI 55 from rfl) rfl dX7_back_30 rfl ?_
      refine z_iconst 32 dX7_back_31 vi0 rfl ?_
      refine y_cVv 35 _ (c_copies (f := 55 * (j + 1)) (t := 0) (by omega) (by decide) (by omega)) sh158 cv_X7_212 ⟨by decide, by decide, rfl, rfl⟩ (Nat.le_of_ble_eq_true rfl) dX7_back_32 rfl rfl ?_
      refine z_aload_n 36 dX7_back_35 rfl rfl ?_
      refine y_getr 39 _ sh158 rfl fl_X7_7 dX7_back_36 rfl ?_
      refine z_bipush 41 dX7_back_39 vb53 rfl ?_
      refine y_ld 42 _ 53 sh159 rfl (by decide) (by omega) dX7_back_41 rfl ?_
      rw [e1]
      refine z_iret hq rfl dX7_back_42 rfl rfl ?_
      exact ⟨by rw [vBack, if_pos hi, ej, if_neg hz], by rw [sBackR, ej, if_pos ⟨hi, hz⟩]⟩
  · skip
    refine z_iload_n 1 dX7_back_0 rfl rfl ?_
    refine z_i2l 2 dX7_back_1 rfl ?_
    refine z_lconst 3 dX7_back_2 vl0 rfl ?_
    refine z_lconst 4 dX7_back_3 vl1 rfl ?_
    refine y_cSs 7 (c_in) cs_X7_55 ⟨by decide, by decide, rfl, rfl⟩ (Nat.le_of_ble_eq_true rfl) dX7_back_4 rfl rfl ?_
    rw [bw]
    refine z_if_ne_f 10 12 dX7_back_7 rfl (bi_f hi) rfl ?_
    refine z_iconst 11 dX7_back_10 vim1 rfl ?_
    refine z_iret hq rfl dX7_back_11 rfl rfl ?_
    exact ⟨by rw [vBack, if_neg hi], by rw [sBackR, if_neg (fun q => hi q.1)]⟩

