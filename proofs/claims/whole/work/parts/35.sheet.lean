/-! ===== sheets: T tells a sheet's lane and length ===== -/
abbrev Sht : Type := Nat → Option (Nat × Nat)
def hTC (σ : Nat → Int32) (T : Sht) : Prop := ∀ j, j < 4 → match T j with
  | none => σ (400 * (150 + 2 * j) + 1) < 0
  | some (L, s) => σ (400 * (150 + 2 * j) + 0) = nI L ∧ σ (400 * (150 + 2 * j) + 1) = nI s ∧ L < 3 ∧ s ≤ 40
def hTR (σ : Nat → Int32) (T : Sht) : Prop := ∀ j, j < 4 → match T j with
  | none => σ (400 * 170 + 0 + j) = -4
  | some (L, s) => σ (400 * 170 + 0 + j) = nI L ∧ σ (400 * 171 + 0 + j) = nI s ∧ L < 3 ∧ s ≤ 40
def zr (σ : Nat → Int32) (a n : Nat) : Nat → Int32 := fun x => if a ≤ x ∧ x < a + n then 0 else σ x
theorem zr_0 {σ : Nat → Int32} {a : Nat} : zr σ a 0 = σ := by funext x; simp only [zr]; rw [if_neg (by omega)]
theorem zr_s {σ : Nat → Int32} {a n b : Nat} (h : b = a + n) : upd (zr σ a n) b 0 = zr σ a (n + 1) := by
  subst h; funext x; simp only [zr, upd]
  by_cases e : x = a + n
  · rw [if_pos e, if_pos (by omega)]
  · rw [if_neg e]
    by_cases e2 : a ≤ x ∧ x < a + n
    · rw [if_pos e2, if_pos (by omega)]
    · rw [if_neg e2, if_neg (by omega)]
abbrev okSheet (k w n : Int32) : Prop := inR k 4 ∧ inR w 3 ∧ n ≤ 40
def vSheet (k w n : Int32) : Int32 := if okSheet k w n then (if 0 ≤ n then 1 else -14) else -1
def sSheetC (σ : Nat → Int32) (k w n : Int32) : Nat → Int32 := if okSheet k w n ∧ 0 ≤ n then zr (upd (upd σ (400 * (150 + 2 * nN k) + 0) w) (400 * (150 + 2 * nN k) + 1) n) (400 * (150 + 2 * nN k + 1) + 0) 40 else σ
def sSheetR (σ : Nat → Int32) (k w n : Int32) : Nat → Int32 := if okSheet k w n ∧ 0 ≤ n then zr (upd (upd σ (400 * 170 + 0 + nN k) w) (400 * 171 + 0 + nN k) n) (400 * 172 + 0 + 40 * nN k) 40 else σ
set_option maxRecDepth 100000 in
theorem c_renew {l : Launch} {G : zG} {σ : Nat → Int32} {j : Nat} {w n : Int32} (hj : j < 4) : zMet l yX3_renew mX3_renew [.ref (zGa G (150 + 2 * j)), .int w, .int n] G (zW G σ) (zFn G none (zr (upd (upd σ (400 * (150 + 2 * j) + 0) w) (400 * (150 + 2 * j) + 1) n) (400 * (150 + 2 * j + 1) + 0) 40)) := by
  refine zMet.of (by decide) rfl (Nat.le_of_ble_eq_true rfl) (Or.inr rfl) fun X hX hq => ?_
  subst hX
  show Y G X mX3_renew σ 0 [some (.ref (zGa G (150 + 2 * j))), some (.int w), some (.int n), none] []
  refine z_aload_n 1 dX3_renew_0 rfl rfl ?_
  refine z_iload_n 2 dX3_renew_1 rfl rfl ?_
  refine y_putI 5 _ (sho hj) rfl fp_X3_19 dX3_renew_2 rfl ?_
  refine z_aload_n 6 dX3_renew_5 rfl rfl ?_
  refine z_iload_n 7 dX3_renew_6 rfl rfl ?_
  refine y_putI 10 _ (sho hj) rfl fp_X3_9 dX3_renew_7 rfl ?_
  refine z_iconst 11 dX3_renew_10 vi0 rfl ?_
  refine z_istore_n 12 [_, _, _, _] dX3_renew_11 (by decide) rfl rfl rfl ?_
  skip
  have e0 := zr_0 (σ := upd (upd σ (400 * (150 + 2 * j) + 0) w) (400 * (150 + 2 * j) + 1) n) (a := 400 * (150 + 2 * j + 1) + 0)
  rw [← e0]
  refine zup (P := fun i => Y G X mX3_renew (zr (upd (upd σ (400 * (150 + 2 * j) + 0) w) (400 * (150 + 2 * j) + 1) n) (400 * (150 + 2 * j + 1) + 0) i) 12 [some (.ref (zGa G (150 + 2 * j))), some (.int w), some (.int n), some (.int (nI i))] []) 40 ?_ (fun i hi ih => ?_) 0 (by decide)
  · skip
    refine z_iload_n 13 dX3_renew_12 rfl rfl ?_
    refine z_bipush 15 dX3_renew_13 vb40 rfl ?_
    refine z_icmp_ge_t 31 dX3_renew_15 rfl (by decide) ?_
    refine z_vret hq rfl dX3_renew_31 rfl rfl ?_
    exact ⟨rfl, rfl⟩
  · skip
    refine z_iload_n 13 dX3_renew_12 rfl rfl ?_
    refine z_bipush 15 dX3_renew_13 vb40 rfl ?_
    refine z_icmp_ge_f 18 31 dX3_renew_15 rfl (nI_ge (b := 40) hi (by decide)) rfl ?_
    refine z_aload_n 19 dX3_renew_18 rfl rfl ?_
    refine y_getr 22 _ (sho hj) rfl fl_X3_15 dX3_renew_19 rfl ?_
    refine z_iload_n 23 dX3_renew_22 rfl rfl ?_
    refine z_iconst 24 dX3_renew_23 vi0 rfl ?_
    refine y_st 25 _ i (shc hj) rfl hi (by omega) dX3_renew_24 rfl ?_
    rw [zr_s rfl]
    refine z_iinc 28 [_, _, _, _] dX3_renew_25 rfl (show _ + _ = nI (_ + 1) from nI_1 _) (by decide) rfl rfl rfl ?_
    refine z_goto 12 dX3_renew_28 rfl ?_
    exact ih
set_option maxRecDepth 100000 in
theorem x_sheet {l : Launch} {G : zG} {σ : Nat → Int32} {k w n : Int32} : zMet l yX6_sheet mX6_sheet [.ref (zGa G 0), .int k, .int w, .int n] G (zW G σ) (zFn G (some (.int (vSheet k w n))) (sSheetC σ k w n)) := by
  have b1 : bi ((0 : Int32) ≤ k ∧ k ≤ 3) = bi (inR k 4) := bi_cg (le_inR (n := 3) (by decide))
  have b2 : bi ((0 : Int32) ≤ w ∧ w ≤ 2) = bi (inR w 3) := bi_cg (le_inR (n := 2) (by decide))
  have no : ¬ okSheet k w n → zFn G (some (.int (vSheet k w n))) (sSheetC σ k w n) (some (.int (-1))) (zW G σ) := fun q => ⟨by rw [vSheet, if_neg q], by rw [sSheetC, if_neg (fun z => q z.1)]⟩
  refine zMet.of (by decide) rfl (Nat.le_of_ble_eq_true rfl) (Or.inr rfl) fun X hX hq => ?_
  subst hX
  show Y G X mX6_sheet σ 0 [some (.ref (zGa G 0)), some (.int k), some (.int w), some (.int n)] []
  by_cases h1 : inR k 4
  · by_cases h2 : inR w 3
    · by_cases h3 : n ≤ 40
      · by_cases h4 : 0 ≤ n
        · obtain ⟨j, hj, rfl⟩ := inR_of h1 (by decide)
          have ej : nN (nI j) = j := nN_nI (by omega)
          refine z_iload_n 1 dX6_sheet_0 rfl rfl ?_
          refine z_iconst 2 dX6_sheet_1 vi0 rfl ?_
          refine z_iconst 3 dX6_sheet_2 vi3 rfl ?_
          refine y_cSs 6 (c_within) cs_X6_73 ⟨by decide, by decide, rfl, rfl⟩ (Nat.le_of_ble_eq_true rfl) dX6_sheet_3 rfl rfl ?_
          rw [b1]
          refine z_if_eq_f 9 24 dX6_sheet_6 rfl (by rw [bi_t h1]; decide) rfl ?_
          refine z_iload_n 10 dX6_sheet_9 rfl rfl ?_
          refine z_iconst 11 dX6_sheet_10 vi0 rfl ?_
          refine z_iconst 12 dX6_sheet_11 vi2 rfl ?_
          refine y_cSs 15 (c_within) cs_X6_73 ⟨by decide, by decide, rfl, rfl⟩ (Nat.le_of_ble_eq_true rfl) dX6_sheet_12 rfl rfl ?_
          rw [b2]
          refine z_if_eq_f 18 24 dX6_sheet_15 rfl (by rw [bi_t h2]; decide) rfl ?_
          refine z_iload_n 19 dX6_sheet_18 rfl rfl ?_
          refine z_bipush 21 dX6_sheet_19 vb40 rfl ?_
          refine z_icmp_le_t 26 dX6_sheet_21 rfl (h3) ?_
          refine z_iload_n 27 dX6_sheet_26 rfl rfl ?_
          refine z_if_ge_t 33 dX6_sheet_27 rfl (h4) ?_
          refine z_aload_n 34 dX6_sheet_33 rfl rfl ?_
          refine y_getr 37 _ sh0 rfl fl_X6_64 dX6_sheet_34 rfl ?_
          refine z_iload_n 38 dX6_sheet_37 rfl rfl ?_
          refine y_aaS 39 _ j sh107 rfl hj (by decide) (aa107 hj) dX6_sheet_38 rfl ?_
          refine z_iload_n 40 dX6_sheet_39 rfl rfl ?_
          refine z_iload_n 41 dX6_sheet_40 rfl rfl ?_
          refine y_cVv 44 _ (c_renew hj) (sho hj) cv_X6_266 ⟨by decide, by decide, rfl, rfl⟩ (Nat.le_of_ble_eq_true rfl) dX6_sheet_41 rfl rfl ?_
          refine z_iconst 45 dX6_sheet_44 vi1 rfl ?_
          refine z_iret hq rfl dX6_sheet_45 rfl rfl ?_
          exact ⟨by rw [vSheet, if_pos ⟨h1, h2, h3⟩, if_pos h4], by rw [sSheetC, if_pos ⟨⟨h1, h2, h3⟩, h4⟩, ej]⟩
        · skip
          refine z_iload_n 1 dX6_sheet_0 rfl rfl ?_
          refine z_iconst 2 dX6_sheet_1 vi0 rfl ?_
          refine z_iconst 3 dX6_sheet_2 vi3 rfl ?_
          refine y_cSs 6 (c_within) cs_X6_73 ⟨by decide, by decide, rfl, rfl⟩ (Nat.le_of_ble_eq_true rfl) dX6_sheet_3 rfl rfl ?_
          rw [b1]
          refine z_if_eq_f 9 24 dX6_sheet_6 rfl (by rw [bi_t h1]; decide) rfl ?_
          refine z_iload_n 10 dX6_sheet_9 rfl rfl ?_
          refine z_iconst 11 dX6_sheet_10 vi0 rfl ?_
          refine z_iconst 12 dX6_sheet_11 vi2 rfl ?_
          refine y_cSs 15 (c_within) cs_X6_73 ⟨by decide, by decide, rfl, rfl⟩ (Nat.le_of_ble_eq_true rfl) dX6_sheet_12 rfl rfl ?_
          rw [b2]
          refine z_if_eq_f 18 24 dX6_sheet_15 rfl (by rw [bi_t h2]; decide) rfl ?_
          refine z_iload_n 19 dX6_sheet_18 rfl rfl ?_
          refine z_bipush 21 dX6_sheet_19 vb40 rfl ?_
          refine z_icmp_le_t 26 dX6_sheet_21 rfl (h3) ?_
          refine z_iload_n 27 dX6_sheet_26 rfl rfl ?_
          refine z_if_ge_f 30 33 dX6_sheet_27 rfl (h4) rfl ?_
          refine z_bipush 32 dX6_sheet_30 vbm14 rfl ?_
          refine z_iret hq rfl dX6_sheet_32 rfl rfl ?_
          exact ⟨by rw [vSheet, if_pos ⟨h1, h2, h3⟩, if_neg h4], by rw [sSheetC, if_neg (fun z => h4 z.2)]⟩
      · have no := no (fun q => h3 q.2.2)
        refine z_iload_n 1 dX6_sheet_0 rfl rfl ?_
        refine z_iconst 2 dX6_sheet_1 vi0 rfl ?_
        refine z_iconst 3 dX6_sheet_2 vi3 rfl ?_
        refine y_cSs 6 (c_within) cs_X6_73 ⟨by decide, by decide, rfl, rfl⟩ (Nat.le_of_ble_eq_true rfl) dX6_sheet_3 rfl rfl ?_
        rw [b1]
        refine z_if_eq_f 9 24 dX6_sheet_6 rfl (by rw [bi_t h1]; decide) rfl ?_
        refine z_iload_n 10 dX6_sheet_9 rfl rfl ?_
        refine z_iconst 11 dX6_sheet_10 vi0 rfl ?_
        refine z_iconst 12 dX6_sheet_11 vi2 rfl ?_
        refine y_cSs 15 (c_within) cs_X6_73 ⟨by decide, by decide, rfl, rfl⟩ (Nat.le_of_ble_eq_true rfl) dX6_sheet_12 rfl rfl ?_
        rw [b2]
        refine z_if_eq_f 18 24 dX6_sheet_15 rfl (by rw [bi_t h2]; decide) rfl ?_
        refine z_iload_n 19 dX6_sheet_18 rfl rfl ?_
        refine z_bipush 21 dX6_sheet_19 vb40 rfl ?_
        refine z_icmp_le_f 24 26 dX6_sheet_21 rfl (h3) rfl ?_
        refine z_iconst 25 dX6_sheet_24 vim1 rfl ?_
        refine z_iret hq rfl dX6_sheet_25 rfl rfl ?_
        exact no
    · have no := no (fun q => h2 q.2.1)
      refine z_iload_n 1 dX6_sheet_0 rfl rfl ?_
      refine z_iconst 2 dX6_sheet_1 vi0 rfl ?_
      refine z_iconst 3 dX6_sheet_2 vi3 rfl ?_
      refine y_cSs 6 (c_within) cs_X6_73 ⟨by decide, by decide, rfl, rfl⟩ (Nat.le_of_ble_eq_true rfl) dX6_sheet_3 rfl rfl ?_
      rw [b1]
      refine z_if_eq_f 9 24 dX6_sheet_6 rfl (by rw [bi_t h1]; decide) rfl ?_
      refine z_iload_n 10 dX6_sheet_9 rfl rfl ?_
      refine z_iconst 11 dX6_sheet_10 vi0 rfl ?_
      refine z_iconst 12 dX6_sheet_11 vi2 rfl ?_
      refine y_cSs 15 (c_within) cs_X6_73 ⟨by decide, by decide, rfl, rfl⟩ (Nat.le_of_ble_eq_true rfl) dX6_sheet_12 rfl rfl ?_
      rw [b2]
      refine z_if_eq_t 24 dX6_sheet_15 rfl (bi_f h2) ?_
      refine z_iconst 25 dX6_sheet_24 vim1 rfl ?_
      refine z_iret hq rfl dX6_sheet_25 rfl rfl ?_
      exact no
  · have no := no (fun q => h1 q.1)
    refine z_iload_n 1 dX6_sheet_0 rfl rfl ?_
    refine z_iconst 2 dX6_sheet_1 vi0 rfl ?_
    refine z_iconst 3 dX6_sheet_2 vi3 rfl ?_
    refine y_cSs 6 (c_within) cs_X6_73 ⟨by decide, by decide, rfl, rfl⟩ (Nat.le_of_ble_eq_true rfl) dX6_sheet_3 rfl rfl ?_
    rw [b1]
    refine z_if_eq_t 24 dX6_sheet_6 rfl (bi_f h1) ?_
    refine z_iconst 25 dX6_sheet_24 vim1 rfl ?_
    refine z_iret hq rfl dX6_sheet_25 rfl rfl ?_
    exact no
set_option maxRecDepth 100000 in
theorem r_sheet {l : Launch} {G : zG} {σ : Nat → Int32} {k w n : Int32} : zMet l yX7_sheet mX7_sheet [.ref (zGa G 158), .int k, .int w, .int n] G (zW G σ) (zFn G (some (.int (vSheet k w n))) (sSheetR σ k w n)) := by
  have b1 : bi ((0 : Int64) ≤ k.toInt64 ∧ k.toInt64 ≤ 3) = bi (inR k 4) := bi_in7 (n := 3) (by decide)
  have b2 : bi ((0 : Int64) ≤ w.toInt64 ∧ w.toInt64 ≤ 2) = bi (inR w 3) := bi_in7 (n := 2) (by decide)
  have no : ¬ okSheet k w n → zFn G (some (.int (vSheet k w n))) (sSheetR σ k w n) (some (.int (-1))) (zW G σ) := fun q => ⟨by rw [vSheet, if_neg q], by rw [sSheetR, if_neg (fun z => q z.1)]⟩
  refine zMet.of (by decide) rfl (Nat.le_of_ble_eq_true rfl) (Or.inr rfl) fun X hX hq => ?_
  subst hX
  show Y G X mX7_sheet σ 0 [some (.ref (zGa G 158)), some (.int k), some (.int w), some (.int n), none] []
  by_cases h1 : inR k 4
  · by_cases h2 : inR w 3
    · by_cases h3 : n ≤ 40
      · by_cases h4 : 0 ≤ n
        · obtain ⟨j, hj, rfl⟩ := inR_of h1 (by decide)
          have ej : nN (nI j) = j := nN_nI (by omega)
          refine z_iload_n 1 dX7_sheet_0 rfl rfl ?_
          refine z_i2l 2 dX7_sheet_1 rfl ?_
          refine z_lconst 3 dX7_sheet_2 vl0 rfl ?_
          refine z_ldc2 6 kc_X7_220 dX7_sheet_3 rfl ?_
          refine y_cSs 9 (c_in) cs_X7_55 ⟨by decide, by decide, rfl, rfl⟩ (Nat.le_of_ble_eq_true rfl) dX7_sheet_6 rfl rfl ?_
          rw [b1]
          refine z_if_eq_f 12 30 dX7_sheet_9 rfl (by rw [bi_t h1]; decide) rfl ?_
          refine z_iload_n 13 dX7_sheet_12 rfl rfl ?_
          refine z_i2l 14 dX7_sheet_13 rfl ?_
          refine z_lconst 15 dX7_sheet_14 vl0 rfl ?_
          refine z_ldc2 18 kc_X7_225 dX7_sheet_15 rfl ?_
          refine y_cSs 21 (c_in) cs_X7_55 ⟨by decide, by decide, rfl, rfl⟩ (Nat.le_of_ble_eq_true rfl) dX7_sheet_18 rfl rfl ?_
          rw [b2]
          refine z_if_eq_f 24 30 dX7_sheet_21 rfl (by rw [bi_t h2]; decide) rfl ?_
          refine z_iload_n 25 dX7_sheet_24 rfl rfl ?_
          refine z_bipush 27 dX7_sheet_25 vb40 rfl ?_
          refine z_icmp_le_t 32 dX7_sheet_27 rfl (h3) ?_
          refine z_iload_n 33 dX7_sheet_32 rfl rfl ?_
          refine z_if_ge_t 39 dX7_sheet_33 rfl (h4) ?_
          refine z_aload_n 40 dX7_sheet_39 rfl rfl ?_
          refine y_getr 43 _ sh158 rfl fl_X7_44 dX7_sheet_40 rfl ?_
          refine z_iload_n 44 dX7_sheet_43 rfl rfl ?_
          refine z_iload_n 45 dX7_sheet_44 rfl rfl ?_
          refine y_st 46 _ j sh170 rfl hj (by omega) dX7_sheet_45 rfl ?_
          refine z_aload_n 47 dX7_sheet_46 rfl rfl ?_
          refine y_getr 50 _ sh158 rfl fl_X7_47 dX7_sheet_47 rfl ?_
          refine z_iload_n 51 dX7_sheet_50 rfl rfl ?_
          refine z_iload_n 52 dX7_sheet_51 rfl rfl ?_
          refine y_st 53 _ j sh171 rfl hj (by omega) dX7_sheet_52 rfl ?_
          refine z_iconst 54 dX7_sheet_53 vi0 rfl ?_
          refine z_istore 56 [_, _, _, _, _] dX7_sheet_54 (by decide) rfl rfl rfl ?_
          skip
          have e0 := zr_0 (σ := upd (upd σ (400 * 170 + 0 + j) w) (400 * 171 + 0 + j) n) (a := 400 * 172 + 0 + 40 * j)
          rw [← e0]
          refine zup (P := fun i => Y G X mX7_sheet (zr (upd (upd σ (400 * 170 + 0 + j) w) (400 * 171 + 0 + j) n) (400 * 172 + 0 + 40 * j) i) 56 [some (.ref (zGa G 158)), some (.int (nI j)), some (.int w), some (.int n), some (.int (nI i))] []) 40 ?_ (fun i hi ih => ?_) 0 (by decide)
          · skip
            refine z_iload 58 dX7_sheet_56 rfl rfl ?_
            refine z_bipush 60 dX7_sheet_58 vb40 rfl ?_
            refine z_icmp_ge_t 82 dX7_sheet_60 rfl (by decide) ?_
            refine z_iconst 83 dX7_sheet_82 vi1 rfl ?_
            refine z_iret hq rfl dX7_sheet_83 rfl rfl ?_
            exact ⟨by rw [vSheet, if_pos ⟨h1, h2, h3⟩, if_pos h4], by rw [sSheetR, if_pos ⟨⟨h1, h2, h3⟩, h4⟩, ej]⟩
          · skip
            refine z_iload 58 dX7_sheet_56 rfl rfl ?_
            refine z_bipush 60 dX7_sheet_58 vb40 rfl ?_
            refine z_icmp_ge_f 63 82 dX7_sheet_60 rfl (nI_ge (b := 40) hi (by decide)) rfl ?_
            refine z_aload_n 64 dX7_sheet_63 rfl rfl ?_
            refine y_getr 67 _ sh158 rfl fl_X7_50 dX7_sheet_64 rfl ?_
            refine z_bipush 69 dX7_sheet_67 vb40 rfl ?_
            refine z_iload_n 70 dX7_sheet_69 rfl rfl ?_
            refine z_imulN 71 (show (40 : Int32) = nI 40 from rfl) rfl dX7_sheet_70 rfl ?_
            refine z_iload 73 dX7_sheet_71 rfl rfl ?_
            refine z_iaddN 74 rfl rfl dX7_sheet_73 rfl ?_
            refine z_iconst 75 dX7_sheet_74 vi0 rfl ?_
            refine y_st 76 _ _ sh172 rfl (by omega) (by omega) dX7_sheet_75 rfl ?_
            rw [zr_s (by omega)]
            refine z_iinc 79 [_, _, _, _, _] dX7_sheet_76 rfl (show _ + _ = nI (_ + 1) from nI_1 _) (by decide) rfl rfl rfl ?_
            refine z_goto 56 dX7_sheet_79 rfl ?_
            exact ih
        · skip
          refine z_iload_n 1 dX7_sheet_0 rfl rfl ?_
          refine z_i2l 2 dX7_sheet_1 rfl ?_
          refine z_lconst 3 dX7_sheet_2 vl0 rfl ?_
          refine z_ldc2 6 kc_X7_220 dX7_sheet_3 rfl ?_
          refine y_cSs 9 (c_in) cs_X7_55 ⟨by decide, by decide, rfl, rfl⟩ (Nat.le_of_ble_eq_true rfl) dX7_sheet_6 rfl rfl ?_
          rw [b1]
          refine z_if_eq_f 12 30 dX7_sheet_9 rfl (by rw [bi_t h1]; decide) rfl ?_
          refine z_iload_n 13 dX7_sheet_12 rfl rfl ?_
          refine z_i2l 14 dX7_sheet_13 rfl ?_
          refine z_lconst 15 dX7_sheet_14 vl0 rfl ?_
          refine z_ldc2 18 kc_X7_225 dX7_sheet_15 rfl ?_
          refine y_cSs 21 (c_in) cs_X7_55 ⟨by decide, by decide, rfl, rfl⟩ (Nat.le_of_ble_eq_true rfl) dX7_sheet_18 rfl rfl ?_
          rw [b2]
          refine z_if_eq_f 24 30 dX7_sheet_21 rfl (by rw [bi_t h2]; decide) rfl ?_
          refine z_iload_n 25 dX7_sheet_24 rfl rfl ?_
          refine z_bipush 27 dX7_sheet_25 vb40 rfl ?_
          refine z_icmp_le_t 32 dX7_sheet_27 rfl (h3) ?_
          refine z_iload_n 33 dX7_sheet_32 rfl rfl ?_
          refine z_if_ge_f 36 39 dX7_sheet_33 rfl (h4) rfl ?_
          refine z_bipush 38 dX7_sheet_36 vbm14 rfl ?_
          refine z_iret hq rfl dX7_sheet_38 rfl rfl ?_
          exact ⟨by rw [vSheet, if_pos ⟨h1, h2, h3⟩, if_neg h4], by rw [sSheetR, if_neg (fun z => h4 z.2)]⟩
      · have no := no (fun q => h3 q.2.2)
        refine z_iload_n 1 dX7_sheet_0 rfl rfl ?_
        refine z_i2l 2 dX7_sheet_1 rfl ?_
        refine z_lconst 3 dX7_sheet_2 vl0 rfl ?_
        refine z_ldc2 6 kc_X7_220 dX7_sheet_3 rfl ?_
        refine y_cSs 9 (c_in) cs_X7_55 ⟨by decide, by decide, rfl, rfl⟩ (Nat.le_of_ble_eq_true rfl) dX7_sheet_6 rfl rfl ?_
        rw [b1]
        refine z_if_eq_f 12 30 dX7_sheet_9 rfl (by rw [bi_t h1]; decide) rfl ?_
        refine z_iload_n 13 dX7_sheet_12 rfl rfl ?_
        refine z_i2l 14 dX7_sheet_13 rfl ?_
        refine z_lconst 15 dX7_sheet_14 vl0 rfl ?_
        refine z_ldc2 18 kc_X7_225 dX7_sheet_15 rfl ?_
        refine y_cSs 21 (c_in) cs_X7_55 ⟨by decide, by decide, rfl, rfl⟩ (Nat.le_of_ble_eq_true rfl) dX7_sheet_18 rfl rfl ?_
        rw [b2]
        refine z_if_eq_f 24 30 dX7_sheet_21 rfl (by rw [bi_t h2]; decide) rfl ?_
        refine z_iload_n 25 dX7_sheet_24 rfl rfl ?_
        refine z_bipush 27 dX7_sheet_25 vb40 rfl ?_
        refine z_icmp_le_f 30 32 dX7_sheet_27 rfl (h3) rfl ?_
        refine z_iconst 31 dX7_sheet_30 vim1 rfl ?_
        refine z_iret hq rfl dX7_sheet_31 rfl rfl ?_
        exact no
    · have no := no (fun q => h2 q.2.1)
      refine z_iload_n 1 dX7_sheet_0 rfl rfl ?_
      refine z_i2l 2 dX7_sheet_1 rfl ?_
      refine z_lconst 3 dX7_sheet_2 vl0 rfl ?_
      refine z_ldc2 6 kc_X7_220 dX7_sheet_3 rfl ?_
      refine y_cSs 9 (c_in) cs_X7_55 ⟨by decide, by decide, rfl, rfl⟩ (Nat.le_of_ble_eq_true rfl) dX7_sheet_6 rfl rfl ?_
      rw [b1]
      refine z_if_eq_f 12 30 dX7_sheet_9 rfl (by rw [bi_t h1]; decide) rfl ?_
      refine z_iload_n 13 dX7_sheet_12 rfl rfl ?_
      refine z_i2l 14 dX7_sheet_13 rfl ?_
      refine z_lconst 15 dX7_sheet_14 vl0 rfl ?_
      refine z_ldc2 18 kc_X7_225 dX7_sheet_15 rfl ?_
      refine y_cSs 21 (c_in) cs_X7_55 ⟨by decide, by decide, rfl, rfl⟩ (Nat.le_of_ble_eq_true rfl) dX7_sheet_18 rfl rfl ?_
      rw [b2]
      refine z_if_eq_t 30 dX7_sheet_21 rfl (bi_f h2) ?_
      refine z_iconst 31 dX7_sheet_30 vim1 rfl ?_
      refine z_iret hq rfl dX7_sheet_31 rfl rfl ?_
      exact no
  · have no := no (fun q => h1 q.1)
    refine z_iload_n 1 dX7_sheet_0 rfl rfl ?_
    refine z_i2l 2 dX7_sheet_1 rfl ?_
    refine z_lconst 3 dX7_sheet_2 vl0 rfl ?_
    refine z_ldc2 6 kc_X7_220 dX7_sheet_3 rfl ?_
    refine y_cSs 9 (c_in) cs_X7_55 ⟨by decide, by decide, rfl, rfl⟩ (Nat.le_of_ble_eq_true rfl) dX7_sheet_6 rfl rfl ?_
    rw [b1]
    refine z_if_eq_t 30 dX7_sheet_9 rfl (bi_f h1) ?_
    refine z_iconst 31 dX7_sheet_30 vim1 rfl ?_
    refine z_iret hq rfl dX7_sheet_31 rfl rfl ?_
    exact no

