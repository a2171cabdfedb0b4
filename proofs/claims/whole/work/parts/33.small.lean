/-! ===== feed, end, fault, torn, forget, see ===== -/
def vFeed (tn : Nat) (c : Int32) : Int32 := if inR c 128 then (if tn < 160 then nI (tn + 1) else -3) else -1
def sFeed (σ : Nat → Int32) (tn : Nat) (c : Int32) (at_ len : Nat) : Nat → Int32 := if inR c 128 ∧ tn < 160 then upd (upd σ (at_ + tn) c) len (nI (tn + 1)) else σ
set_option maxRecDepth 100000 in
theorem x_feed {l : Launch} {G : zG} {σ : Nat → Int32} {tn : Nat} {c : Int32} (hT : σ (400 * 19 + 1) = nI tn) (ht : tn ≤ 160) : zMet l yX6_feed mX6_feed [.ref (zGa G 0), .int c] G (zW G σ) (zFn G (some (.int (vFeed tn c))) (sFeed σ tn c (400 * 20 + 0) (400 * 19 + 1))) := by
  have bw : bi ((0 : Int32) ≤ c ∧ c ≤ 127) = bi (inR c 128) := bi_cg (le_inR (n := 127) (by decide))
  refine zMet.of (by decide) rfl (Nat.le_of_ble_eq_true rfl) (Or.inr rfl) fun X hX hq => ?_
  subst hX
  show Y G X mX6_feed σ 0 [some (.ref (zGa G 0)), some (.int c)] []
  by_cases hi : inR c 128
  · by_cases h : tn < 160
    · have e1 : upd σ (400 * 20 + 0 + tn) c (400 * 19 + 1) = nI tn := (pk_un (by omega)).trans hT
      refine z_iload_n 1 dX6_feed_0 rfl rfl ?_
      refine z_iconst 2 dX6_feed_1 vi0 rfl ?_
      refine z_bipush 4 dX6_feed_2 vb127 rfl ?_
      refine y_cSs 7 (c_within) cs_X6_73 ⟨by decide, by decide, rfl, rfl⟩ (Nat.le_of_ble_eq_true rfl) dX6_feed_4 rfl rfl ?_
      rw [bw]
      refine z_if_ne_t 12 dX6_feed_7 rfl (by rw [bi_t hi]; decide) ?_
      refine z_aload_n 13 dX6_feed_12 rfl rfl ?_
      refine y_getr 16 _ sh0 rfl fl_X6_37 dX6_feed_13 rfl ?_
      refine y_get 19 _ sh19 rfl fl_X6_77 dX6_feed_16 rfl ?_
      rw [hT]
      refine z_sipush 22 dX6_feed_19 vs160 rfl ?_
      refine z_icmp_lt_t 28 dX6_feed_22 rfl (nI_lt (b := 160) h (by decide)) ?_
      refine z_aload_n 29 dX6_feed_28 rfl rfl ?_
      refine y_getr 32 _ sh0 rfl fl_X6_37 dX6_feed_29 rfl ?_
      refine y_getr 35 _ sh19 rfl fl_X6_80 dX6_feed_32 rfl ?_
      refine z_aload_n 36 dX6_feed_35 rfl rfl ?_
      refine y_getr 39 _ sh0 rfl fl_X6_37 dX6_feed_36 rfl ?_
      refine y_get 42 _ sh19 rfl fl_X6_77 dX6_feed_39 rfl ?_
      rw [hT]
      refine z_iload_n 43 dX6_feed_42 rfl rfl ?_
      refine y_st 44 _ tn sh20 rfl h (by omega) dX6_feed_43 rfl ?_
      refine z_aload_n 45 dX6_feed_44 rfl rfl ?_
      refine y_getr 48 _ sh0 rfl fl_X6_37 dX6_feed_45 rfl ?_
      refine z_dup 49 dX6_feed_48 rfl rfl ?_
      refine y_get 52 _ sh19 rfl fl_X6_77 dX6_feed_49 rfl ?_
      rw [e1]
      refine z_iconst 53 dX6_feed_52 vi1 rfl ?_
      refine z_iaddN 54 rfl (show (1 : Int32) = nI 1 from rfl) dX6_feed_53 rfl ?_
      refine y_putI 57 _ sh19 rfl fp_X6_77 dX6_feed_54 rfl ?_
      refine z_aload_n 58 dX6_feed_57 rfl rfl ?_
      refine y_getr 61 _ sh0 rfl fl_X6_37 dX6_feed_58 rfl ?_
      refine y_get 64 _ sh19 rfl fl_X6_77 dX6_feed_61 rfl ?_
      rw [pk_us]
      refine z_iret hq rfl dX6_feed_64 rfl rfl ?_
      exact ⟨by rw [vFeed, if_pos hi, if_pos h], by rw [sFeed, if_pos ⟨hi, h⟩]⟩
    · skip
      refine z_iload_n 1 dX6_feed_0 rfl rfl ?_
      refine z_iconst 2 dX6_feed_1 vi0 rfl ?_
      refine z_bipush 4 dX6_feed_2 vb127 rfl ?_
      refine y_cSs 7 (c_within) cs_X6_73 ⟨by decide, by decide, rfl, rfl⟩ (Nat.le_of_ble_eq_true rfl) dX6_feed_4 rfl rfl ?_
      rw [bw]
      refine z_if_ne_t 12 dX6_feed_7 rfl (by rw [bi_t hi]; decide) ?_
      refine z_aload_n 13 dX6_feed_12 rfl rfl ?_
      refine y_getr 16 _ sh0 rfl fl_X6_37 dX6_feed_13 rfl ?_
      refine y_get 19 _ sh19 rfl fl_X6_77 dX6_feed_16 rfl ?_
      rw [hT]
      refine z_sipush 22 dX6_feed_19 vs160 rfl ?_
      refine z_icmp_lt_f 25 28 dX6_feed_22 rfl (nI_nlt (b := 160) (by omega) (by omega)) rfl ?_
      refine z_bipush 27 dX6_feed_25 vbm3 rfl ?_
      refine z_iret hq rfl dX6_feed_27 rfl rfl ?_
      exact ⟨by rw [vFeed, if_pos hi, if_neg h], by rw [sFeed, if_neg (fun q => h q.2)]⟩
  · skip
    refine z_iload_n 1 dX6_feed_0 rfl rfl ?_
    refine z_iconst 2 dX6_feed_1 vi0 rfl ?_
    refine z_bipush 4 dX6_feed_2 vb127 rfl ?_
    refine y_cSs 7 (c_within) cs_X6_73 ⟨by decide, by decide, rfl, rfl⟩ (Nat.le_of_ble_eq_true rfl) dX6_feed_4 rfl rfl ?_
    rw [bw]
    refine z_if_ne_f 10 12 dX6_feed_7 rfl (bi_f hi) rfl ?_
    refine z_iconst 11 dX6_feed_10 vim1 rfl ?_
    refine z_iret hq rfl dX6_feed_11 rfl rfl ?_
    exact ⟨by rw [vFeed, if_neg hi], by rw [sFeed, if_neg (fun q => hi q.1)]⟩
set_option maxRecDepth 100000 in
theorem r_feed {l : Launch} {G : zG} {σ : Nat → Int32} {tn : Nat} {c : Int32} (hT : σ (400 * 158 + 10) = nI tn) (ht : tn ≤ 160) : zMet l yX7_feed mX7_feed [.ref (zGa G 158), .int c] G (zW G σ) (zFn G (some (.int (vFeed tn c))) (sFeed σ tn c (400 * 161 + 0) (400 * 158 + 10))) := by
  have bw : bi ((0 : Int64) ≤ c.toInt64 ∧ c.toInt64 ≤ 127) = bi (inR c 128) := bi_in7 (n := 127) (by decide)
  refine zMet.of (by decide) rfl (Nat.le_of_ble_eq_true rfl) (Or.inr rfl) fun X hX hq => ?_
  subst hX
  show Y G X mX7_feed σ 0 [some (.ref (zGa G 158)), some (.int c)] []
  by_cases hi : inR c 128
  · by_cases h : tn < 160
    · have e1 : upd σ (400 * 161 + 0 + tn) c (400 * 158 + 10) = nI tn := (pk_un (by omega)).trans hT
      refine z_iload_n 1 dX7_feed_0 rfl rfl ?_
      refine z_i2l 2 dX7_feed_1 rfl ?_
      refine z_lconst 3 dX7_feed_2 vl0 rfl ?_
      refine z_ldc2 6 kc_X7_53 dX7_feed_3 rfl ?_
      refine y_cSs 9 (c_in) cs_X7_55 ⟨by decide, by decide, rfl, rfl⟩ (Nat.le_of_ble_eq_true rfl) dX7_feed_6 rfl rfl ?_
      rw [bw]
      refine z_if_ne_t 14 dX7_feed_9 rfl (by rw [bi_t hi]; decide) ?_
      refine z_aload_n 15 dX7_feed_14 rfl rfl ?_
      refine y_get 18 _ sh158 rfl fl_X7_59 dX7_feed_15 rfl ?_
      rw [hT]
      refine z_sipush 21 dX7_feed_18 vs160 rfl ?_
      refine z_icmp_ne_t 27 dX7_feed_21 rfl (fun q => absurd (nI_eqL (b := 160) (by omega) (by decide) q) (by omega)) ?_
      refine z_aload_n 28 dX7_feed_27 rfl rfl ?_
      refine y_getr 31 _ sh158 rfl fl_X7_16 dX7_feed_28 rfl ?_
      refine z_aload_n 32 dX7_feed_31 rfl rfl ?_
      refine y_get 35 _ sh158 rfl fl_X7_59 dX7_feed_32 rfl ?_
      rw [hT]
      refine z_iload_n 36 dX7_feed_35 rfl rfl ?_
      refine y_st 37 _ tn sh161 rfl h (by omega) dX7_feed_36 rfl ?_
      refine z_aload_n 38 dX7_feed_37 rfl rfl ?_
      refine z_dup 39 dX7_feed_38 rfl rfl ?_
      refine y_get 42 _ sh158 rfl fl_X7_59 dX7_feed_39 rfl ?_
      rw [e1]
      refine z_iconst 43 dX7_feed_42 vi1 rfl ?_
      refine z_iaddN 44 rfl (show (1 : Int32) = nI 1 from rfl) dX7_feed_43 rfl ?_
      refine y_putI 47 _ sh158 rfl fp_X7_59 dX7_feed_44 rfl ?_
      refine z_aload_n 48 dX7_feed_47 rfl rfl ?_
      refine y_get 51 _ sh158 rfl fl_X7_59 dX7_feed_48 rfl ?_
      rw [pk_us]
      refine z_iret hq rfl dX7_feed_51 rfl rfl ?_
      exact ⟨by rw [vFeed, if_pos hi, if_pos h], by rw [sFeed, if_pos ⟨hi, h⟩]⟩
    · skip
      refine z_iload_n 1 dX7_feed_0 rfl rfl ?_
      refine z_i2l 2 dX7_feed_1 rfl ?_
      refine z_lconst 3 dX7_feed_2 vl0 rfl ?_
      refine z_ldc2 6 kc_X7_53 dX7_feed_3 rfl ?_
      refine y_cSs 9 (c_in) cs_X7_55 ⟨by decide, by decide, rfl, rfl⟩ (Nat.le_of_ble_eq_true rfl) dX7_feed_6 rfl rfl ?_
      rw [bw]
      refine z_if_ne_t 14 dX7_feed_9 rfl (by rw [bi_t hi]; decide) ?_
      refine z_aload_n 15 dX7_feed_14 rfl rfl ?_
      refine y_get 18 _ sh158 rfl fl_X7_59 dX7_feed_15 rfl ?_
      rw [hT]
      refine z_sipush 21 dX7_feed_18 vs160 rfl ?_
      refine z_icmp_ne_f 24 27 dX7_feed_21 rfl (by rw [show tn = 160 by omega]; rfl) rfl ?_
      refine z_bipush 26 dX7_feed_24 vbm3 rfl ?_
      refine z_iret hq rfl dX7_feed_26 rfl rfl ?_
      exact ⟨by rw [vFeed, if_pos hi, if_neg h], by rw [sFeed, if_neg (fun q => h q.2)]⟩
  · skip
    refine z_iload_n 1 dX7_feed_0 rfl rfl ?_
    refine z_i2l 2 dX7_feed_1 rfl ?_
    refine z_lconst 3 dX7_feed_2 vl0 rfl ?_
    refine z_ldc2 6 kc_X7_53 dX7_feed_3 rfl ?_
    refine y_cSs 9 (c_in) cs_X7_55 ⟨by decide, by decide, rfl, rfl⟩ (Nat.le_of_ble_eq_true rfl) dX7_feed_6 rfl rfl ?_
    rw [bw]
    refine z_if_ne_f 12 14 dX7_feed_9 rfl (bi_f hi) rfl ?_
    refine z_iconst 13 dX7_feed_12 vim1 rfl ?_
    refine z_iret hq rfl dX7_feed_13 rfl rfl ?_
    exact ⟨by rw [vFeed, if_neg hi], by rw [sFeed, if_neg (fun q => hi q.1)]⟩
def vCut (tn : Nat) (n : Int32) : Int32 := if inR n (tn + 1) then nI tn else -1
def sCut (σ : Nat → Int32) (tn : Nat) (n : Int32) (len : Nat) : Nat → Int32 := if inR n (tn + 1) then upd σ len n else σ
set_option maxRecDepth 100000 in
theorem x_end {l : Launch} {G : zG} {σ : Nat → Int32} {tn : Nat} {n : Int32} (hT : σ (400 * 19 + 1) = nI tn) (ht : tn ≤ 160) : zMet l yX6_end mX6_end [.ref (zGa G 0), .int n] G (zW G σ) (zFn G (some (.int (vCut tn n))) (sCut σ tn n (400 * 19 + 1))) := by
  have bw : bi ((0 : Int32) ≤ n ∧ n ≤ nI tn) = bi (inR n (tn + 1)) := bi_cg (le_inR (by omega))
  refine zMet.of (by decide) rfl (Nat.le_of_ble_eq_true rfl) (Or.inr rfl) fun X hX hq => ?_
  subst hX
  show Y G X mX6_end σ 0 [some (.ref (zGa G 0)), some (.int n), none] []
  by_cases hi : inR n (tn + 1)
  · skip
    refine z_aload_n 1 dX6_end_0 rfl rfl ?_
    refine y_getr 4 _ sh0 rfl fl_X6_37 dX6_end_1 rfl ?_
    refine y_get 7 _ sh19 rfl fl_X6_77 dX6_end_4 rfl ?_
    rw [hT]
    refine z_istore_n 8 [_, _, _] dX6_end_7 (by decide) rfl rfl rfl ?_
    refine z_iload_n 9 dX6_end_8 rfl rfl ?_
    refine z_iconst 10 dX6_end_9 vi0 rfl ?_
    refine z_iload_n 11 dX6_end_10 rfl rfl ?_
    refine y_cSs 14 (c_within) cs_X6_73 ⟨by decide, by decide, rfl, rfl⟩ (Nat.le_of_ble_eq_true rfl) dX6_end_11 rfl rfl ?_
    rw [bw]
    refine z_if_ne_t 19 dX6_end_14 rfl (by rw [bi_t hi]; decide) ?_
    refine z_aload_n 20 dX6_end_19 rfl rfl ?_
    refine y_getr 23 _ sh0 rfl fl_X6_37 dX6_end_20 rfl ?_
    refine z_iload_n 24 dX6_end_23 rfl rfl ?_
    refine y_putI 27 _ sh19 rfl fp_X6_77 dX6_end_24 rfl ?_
    refine z_iload_n 28 dX6_end_27 rfl rfl ?_
    refine z_iret hq rfl dX6_end_28 rfl rfl ?_
    exact ⟨by rw [vCut, if_pos hi], by rw [sCut, if_pos hi]⟩
  · skip
    refine z_aload_n 1 dX6_end_0 rfl rfl ?_
    refine y_getr 4 _ sh0 rfl fl_X6_37 dX6_end_1 rfl ?_
    refine y_get 7 _ sh19 rfl fl_X6_77 dX6_end_4 rfl ?_
    rw [hT]
    refine z_istore_n 8 [_, _, _] dX6_end_7 (by decide) rfl rfl rfl ?_
    refine z_iload_n 9 dX6_end_8 rfl rfl ?_
    refine z_iconst 10 dX6_end_9 vi0 rfl ?_
    refine z_iload_n 11 dX6_end_10 rfl rfl ?_
    refine y_cSs 14 (c_within) cs_X6_73 ⟨by decide, by decide, rfl, rfl⟩ (Nat.le_of_ble_eq_true rfl) dX6_end_11 rfl rfl ?_
    rw [bw]
    refine z_if_ne_f 17 19 dX6_end_14 rfl (bi_f hi) rfl ?_
    refine z_iconst 18 dX6_end_17 vim1 rfl ?_
    refine z_iret hq rfl dX6_end_18 rfl rfl ?_
    exact ⟨by rw [vCut, if_neg hi], by rw [sCut, if_neg hi]⟩
set_option maxRecDepth 100000 in
theorem x_forget {l : Launch} {G : zG} {σ : Nat → Int32} {tn : Nat} {n : Int32} (hT : σ (400 * 35 + 0) = nI tn) (ht : tn ≤ 6) : zMet l yX6_forget mX6_forget [.ref (zGa G 0), .int n] G (zW G σ) (zFn G (some (.int (vCut tn n))) (sCut σ tn n (400 * 35 + 0))) := by
  have bw : bi ((0 : Int32) ≤ n ∧ n ≤ nI tn) = bi (inR n (tn + 1)) := bi_cg (le_inR (by omega))
  refine zMet.of (by decide) rfl (Nat.le_of_ble_eq_true rfl) (Or.inr rfl) fun X hX hq => ?_
  subst hX
  show Y G X mX6_forget σ 0 [some (.ref (zGa G 0)), some (.int n), none] []
  by_cases hi : inR n (tn + 1)
  · skip
    refine z_aload_n 1 dX6_forget_0 rfl rfl ?_
    refine y_getr 4 _ sh0 rfl fl_X6_44 dX6_forget_1 rfl ?_
    refine y_get 7 _ sh35 rfl fl_X6_100 dX6_forget_4 rfl ?_
    rw [hT]
    refine z_istore_n 8 [_, _, _] dX6_forget_7 (by decide) rfl rfl rfl ?_
    refine z_iload_n 9 dX6_forget_8 rfl rfl ?_
    refine z_iconst 10 dX6_forget_9 vi0 rfl ?_
    refine z_iload_n 11 dX6_forget_10 rfl rfl ?_
    refine y_cSs 14 (c_within) cs_X6_73 ⟨by decide, by decide, rfl, rfl⟩ (Nat.le_of_ble_eq_true rfl) dX6_forget_11 rfl rfl ?_
    rw [bw]
    refine z_if_ne_t 19 dX6_forget_14 rfl (by rw [bi_t hi]; decide) ?_
    refine z_aload_n 20 dX6_forget_19 rfl rfl ?_
    refine y_getr 23 _ sh0 rfl fl_X6_44 dX6_forget_20 rfl ?_
    refine z_iload_n 24 dX6_forget_23 rfl rfl ?_
    refine y_putI 27 _ sh35 rfl fp_X6_100 dX6_forget_24 rfl ?_
    refine z_iload_n 28 dX6_forget_27 rfl rfl ?_
    refine z_iret hq rfl dX6_forget_28 rfl rfl ?_
    exact ⟨by rw [vCut, if_pos hi], by rw [sCut, if_pos hi]⟩
  · skip
    refine z_aload_n 1 dX6_forget_0 rfl rfl ?_
    refine y_getr 4 _ sh0 rfl fl_X6_44 dX6_forget_1 rfl ?_
    refine y_get 7 _ sh35 rfl fl_X6_100 dX6_forget_4 rfl ?_
    rw [hT]
    refine z_istore_n 8 [_, _, _] dX6_forget_7 (by decide) rfl rfl rfl ?_
    refine z_iload_n 9 dX6_forget_8 rfl rfl ?_
    refine z_iconst 10 dX6_forget_9 vi0 rfl ?_
    refine z_iload_n 11 dX6_forget_10 rfl rfl ?_
    refine y_cSs 14 (c_within) cs_X6_73 ⟨by decide, by decide, rfl, rfl⟩ (Nat.le_of_ble_eq_true rfl) dX6_forget_11 rfl rfl ?_
    rw [bw]
    refine z_if_ne_f 17 19 dX6_forget_14 rfl (bi_f hi) rfl ?_
    refine z_iconst 18 dX6_forget_17 vim1 rfl ?_
    refine z_iret hq rfl dX6_forget_18 rfl rfl ?_
    exact ⟨by rw [vCut, if_neg hi], by rw [sCut, if_neg hi]⟩
set_option maxRecDepth 100000 in
theorem r_end {l : Launch} {G : zG} {σ : Nat → Int32} {tn : Nat} {n : Int32} (hT : σ (400 * 158 + 10) = nI tn) (ht : tn ≤ 160) : zMet l yX7_end mX7_end [.ref (zGa G 158), .int n] G (zW G σ) (zFn G (some (.int (vCut tn n))) (sCut σ tn n (400 * 158 + 10))) := by
  have bw : bi ((0 : Int64) ≤ n.toInt64 ∧ n.toInt64 ≤ (nI tn).toInt64) = bi (inR n (tn + 1)) := bi_in7 (by rw [Int32.toInt_toInt64]; exact nI_toInt (by omega))
  refine zMet.of (by decide) rfl (Nat.le_of_ble_eq_true rfl) (Or.inr rfl) fun X hX hq => ?_
  subst hX
  show Y G X mX7_end σ 0 [some (.ref (zGa G 158)), some (.int n), none] []
  by_cases hi : inR n (tn + 1)
  · skip
    refine z_iload_n 1 dX7_end_0 rfl rfl ?_
    refine z_i2l 2 dX7_end_1 rfl ?_
    refine z_lconst 3 dX7_end_2 vl0 rfl ?_
    refine z_aload_n 4 dX7_end_3 rfl rfl ?_
    refine y_get 7 _ sh158 rfl fl_X7_59 dX7_end_4 rfl ?_
    rw [hT]
    refine z_i2l 8 dX7_end_7 rfl ?_
    refine y_cSs 11 (c_in) cs_X7_55 ⟨by decide, by decide, rfl, rfl⟩ (Nat.le_of_ble_eq_true rfl) dX7_end_8 rfl rfl ?_
    rw [bw]
    refine z_if_ne_t 16 dX7_end_11 rfl (by rw [bi_t hi]; decide) ?_
    refine z_aload_n 17 dX7_end_16 rfl rfl ?_
    refine y_get 20 _ sh158 rfl fl_X7_59 dX7_end_17 rfl ?_
    rw [hT]
    refine z_istore_n 21 [_, _, _] dX7_end_20 (by decide) rfl rfl rfl ?_
    refine z_aload_n 22 dX7_end_21 rfl rfl ?_
    refine z_iload_n 23 dX7_end_22 rfl rfl ?_
    refine y_putI 26 _ sh158 rfl fp_X7_59 dX7_end_23 rfl ?_
    refine z_iload_n 27 dX7_end_26 rfl rfl ?_
    refine z_iret hq rfl dX7_end_27 rfl rfl ?_
    exact ⟨by rw [vCut, if_pos hi], by rw [sCut, if_pos hi]⟩
  · skip
    refine z_iload_n 1 dX7_end_0 rfl rfl ?_
    refine z_i2l 2 dX7_end_1 rfl ?_
    refine z_lconst 3 dX7_end_2 vl0 rfl ?_
    refine z_aload_n 4 dX7_end_3 rfl rfl ?_
    refine y_get 7 _ sh158 rfl fl_X7_59 dX7_end_4 rfl ?_
    rw [hT]
    refine z_i2l 8 dX7_end_7 rfl ?_
    refine y_cSs 11 (c_in) cs_X7_55 ⟨by decide, by decide, rfl, rfl⟩ (Nat.le_of_ble_eq_true rfl) dX7_end_8 rfl rfl ?_
    rw [bw]
    refine z_if_ne_f 14 16 dX7_end_11 rfl (bi_f hi) rfl ?_
    refine z_iconst 15 dX7_end_14 vim1 rfl ?_
    refine z_iret hq rfl dX7_end_15 rfl rfl ?_
    exact ⟨by rw [vCut, if_neg hi], by rw [sCut, if_neg hi]⟩
set_option maxRecDepth 100000 in
theorem r_forget {l : Launch} {G : zG} {σ : Nat → Int32} {tn : Nat} {n : Int32} (hT : σ (400 * 158 + 26) = nI tn) (ht : tn ≤ 6) : zMet l yX7_forget mX7_forget [.ref (zGa G 158), .int n] G (zW G σ) (zFn G (some (.int (vCut tn n))) (sCut σ tn n (400 * 158 + 26))) := by
  have bw : bi ((0 : Int64) ≤ n.toInt64 ∧ n.toInt64 ≤ (nI tn).toInt64) = bi (inR n (tn + 1)) := bi_in7 (by rw [Int32.toInt_toInt64]; exact nI_toInt (by omega))
  refine zMet.of (by decide) rfl (Nat.le_of_ble_eq_true rfl) (Or.inr rfl) fun X hX hq => ?_
  subst hX
  show Y G X mX7_forget σ 0 [some (.ref (zGa G 158)), some (.int n), none] []
  by_cases hi : inR n (tn + 1)
  · skip
    refine z_iload_n 1 dX7_forget_0 rfl rfl ?_
    refine z_i2l 2 dX7_forget_1 rfl ?_
    refine z_lconst 3 dX7_forget_2 vl0 rfl ?_
    refine z_aload_n 4 dX7_forget_3 rfl rfl ?_
    refine y_get 7 _ sh158 rfl fl_X7_148 dX7_forget_4 rfl ?_
    rw [hT]
    refine z_i2l 8 dX7_forget_7 rfl ?_
    refine y_cSs 11 (c_in) cs_X7_55 ⟨by decide, by decide, rfl, rfl⟩ (Nat.le_of_ble_eq_true rfl) dX7_forget_8 rfl rfl ?_
    rw [bw]
    refine z_if_ne_t 16 dX7_forget_11 rfl (by rw [bi_t hi]; decide) ?_
    refine z_aload_n 17 dX7_forget_16 rfl rfl ?_
    refine y_get 20 _ sh158 rfl fl_X7_148 dX7_forget_17 rfl ?_
    rw [hT]
    refine z_istore_n 21 [_, _, _] dX7_forget_20 (by decide) rfl rfl rfl ?_
    refine z_aload_n 22 dX7_forget_21 rfl rfl ?_
    refine z_iload_n 23 dX7_forget_22 rfl rfl ?_
    refine y_putI 26 _ sh158 rfl fp_X7_148 dX7_forget_23 rfl ?_
    refine z_iload_n 27 dX7_forget_26 rfl rfl ?_
    refine z_iret hq rfl dX7_forget_27 rfl rfl ?_
    exact ⟨by rw [vCut, if_pos hi], by rw [sCut, if_pos hi]⟩
  · skip
    refine z_iload_n 1 dX7_forget_0 rfl rfl ?_
    refine z_i2l 2 dX7_forget_1 rfl ?_
    refine z_lconst 3 dX7_forget_2 vl0 rfl ?_
    refine z_aload_n 4 dX7_forget_3 rfl rfl ?_
    refine y_get 7 _ sh158 rfl fl_X7_148 dX7_forget_4 rfl ?_
    rw [hT]
    refine z_i2l 8 dX7_forget_7 rfl ?_
    refine y_cSs 11 (c_in) cs_X7_55 ⟨by decide, by decide, rfl, rfl⟩ (Nat.le_of_ble_eq_true rfl) dX7_forget_8 rfl rfl ?_
    rw [bw]
    refine z_if_ne_f 14 16 dX7_forget_11 rfl (bi_f hi) rfl ?_
    refine z_iconst 15 dX7_forget_14 vim1 rfl ?_
    refine z_iret hq rfl dX7_forget_15 rfl rfl ?_
    exact ⟨by rw [vCut, if_neg hi], by rw [sCut, if_neg hi]⟩
set_option maxRecDepth 100000 in
theorem x_fault {l : Launch} {G : zG} {σ : Nat → Int32} : zMet l yX6_fault mX6_fault [.ref (zGa G 0)] G (zW G σ) (zFn G (some (.int (σ (400 * 19 + 2)))) σ) := by
  refine zMet.of (by decide) rfl (Nat.le_of_ble_eq_true rfl) (Or.inr rfl) fun X hX hq => ?_
  subst hX
  show Y G X mX6_fault σ 0 [some (.ref (zGa G 0))] []
  refine z_aload_n 1 dX6_fault_0 rfl rfl ?_
  refine y_getr 4 _ sh0 rfl fl_X6_37 dX6_fault_1 rfl ?_
  refine y_get 7 _ sh19 rfl fl_X6_87 dX6_fault_4 rfl ?_
  refine z_iret hq rfl dX6_fault_7 rfl rfl ?_
  exact ⟨rfl, rfl⟩
set_option maxRecDepth 100000 in
theorem r_fault {l : Launch} {G : zG} {σ : Nat → Int32} : zMet l yX7_fault mX7_fault [.ref (zGa G 158)] G (zW G σ) (zFn G (some (.int (σ (400 * 158 + 11)))) σ) := by
  refine zMet.of (by decide) rfl (Nat.le_of_ble_eq_true rfl) (Or.inr rfl) fun X hX hq => ?_
  subst hX
  show Y G X mX7_fault σ 0 [some (.ref (zGa G 158))] []
  refine z_aload_n 1 dX7_fault_0 rfl rfl ?_
  refine y_get 4 _ sh158 rfl fl_X7_139 dX7_fault_1 rfl ?_
  refine z_iret hq rfl dX7_fault_4 rfl rfl ?_
  exact ⟨rfl, rfl⟩
set_option maxRecDepth 100000 in
theorem x_torn {l : Launch} {G : zG} {σ : Nat → Int32} : zMet l yX6_torn mX6_torn [.ref (zGa G 0)] G (zW G σ) (zFn G (some (.int (σ (400 * 0 + 11)))) σ) := by
  refine zMet.of (by decide) rfl (Nat.le_of_ble_eq_true rfl) (Or.inr rfl) fun X hX hq => ?_
  subst hX
  show Y G X mX6_torn σ 0 [some (.ref (zGa G 0))] []
  refine z_aload_n 1 dX6_torn_0 rfl rfl ?_
  refine y_get 4 _ sh0 rfl fl_X6_68 dX6_torn_1 rfl ?_
  refine z_iret hq rfl dX6_torn_4 rfl rfl ?_
  exact ⟨rfl, rfl⟩
set_option maxRecDepth 100000 in
theorem r_torn {l : Launch} {G : zG} {σ : Nat → Int32} : zMet l yX7_torn mX7_torn [.ref (zGa G 158)] G (zW G σ) (zFn G (some (.int (σ (400 * 158 + 32)))) σ) := by
  refine zMet.of (by decide) rfl (Nat.le_of_ble_eq_true rfl) (Or.inr rfl) fun X hX hq => ?_
  subst hX
  show Y G X mX7_torn σ 0 [some (.ref (zGa G 158))] []
  refine z_aload_n 1 dX7_torn_0 rfl rfl ?_
  refine y_get 4 _ sh158 rfl fl_X7_264 dX7_torn_1 rfl ?_
  refine z_iret hq rfl dX7_torn_4 rfl rfl ?_
  exact ⟨rfl, rfl⟩
abbrev okSee (N : Pg) (n p h : Int32) : Prop := inR n 21 ∧ inR p (N 57) ∧ inR h 1000
def vSee (N : Pg) (sn : Nat) (n p h : Int32) : Int32 := if okSee N n p h then (if sn < 6 then nI (sn + 1) else -3) else -1
def sSeeC (σ : Nat → Int32) (N : Pg) (sn : Nat) (n p h : Int32) : Nat → Int32 := if okSee N n p h ∧ sn < 6 then upd (upd (upd (upd σ (400 * 36 + 0 + sn) n) (400 * 37 + 0 + sn) p) (400 * 38 + 0 + sn) h) (400 * 35 + 0) (nI (sn + 1)) else σ
def sSeeR (σ : Nat → Int32) (N : Pg) (sn : Nat) (n p h : Int32) : Nat → Int32 := if okSee N n p h ∧ sn < 6 then upd (upd (upd (upd σ (400 * 167 + 0 + 3 * sn) n) (400 * 167 + 0 + (3 * sn + 1)) p) (400 * 167 + 0 + (3 * sn + 2)) h) (400 * 158 + 26) (nI (sn + 1)) else σ
set_option maxRecDepth 100000 in
theorem x_see {l : Launch} {G : zG} {σ : Nat → Int32} {N : Pg} {sn : Nat} {n p h : Int32} (hc : hdc σ 1 N) (ok : okQ N) (hT : σ (400 * 35 + 0) = nI sn) (ht : sn ≤ 6) : zMet l yX6_see mX6_see [.ref (zGa G 0), .int n, .int p, .int h] G (zW G σ) (zFn G (some (.int (vSee N sn n p h))) (sSeeC σ N sn n p h)) := by
  have bn : bi ((0 : Int32) ≤ n ∧ n ≤ 20) = bi (inR n 21) := bi_cg (le_inR (n := 20) (by decide))
  have no : ¬ okSee N n p h → zFn G (some (.int (vSee N sn n p h))) (sSeeC σ N sn n p h) (some (.int (-1))) (zW G σ) := fun q => ⟨by rw [vSee, if_neg q], by rw [sSeeC, if_neg (fun z => q z.1)]⟩
  refine zMet.of (by decide) rfl (Nat.le_of_ble_eq_true rfl) (Or.inr rfl) fun X hX hq => ?_
  subst hX
  show Y G X mX6_see σ 0 [some (.ref (zGa G 0)), some (.int n), some (.int p), some (.int h)] []
  by_cases h1 : inR n 21
  · by_cases h2 : inR p (N 57)
    · by_cases h3 : inR h 1000
      · by_cases hs : sn < 6
        · have e1 : ∀ x, upd σ (400 * 36 + 0 + sn) x (400 * 35 + 0) = nI sn := fun x => (pk_un (by omega)).trans hT
          have e2 : ∀ x y, upd (upd σ (400 * 36 + 0 + sn) x) (400 * 37 + 0 + sn) y (400 * 35 + 0) = nI sn := fun x y => (pk_un (by omega)).trans (e1 x)
          have e3 : ∀ x y z, upd (upd (upd σ (400 * 36 + 0 + sn) x) (400 * 37 + 0 + sn) y) (400 * 38 + 0 + sn) z (400 * 35 + 0) = nI sn := fun x y z => (pk_un (by omega)).trans (e2 x y)
          refine z_iload_n 1 dX6_see_0 rfl rfl ?_
          refine z_iconst 2 dX6_see_1 vi0 rfl ?_
          refine z_bipush 4 dX6_see_2 vb20 rfl ?_
          refine y_cSs 7 (c_within) cs_X6_73 ⟨by decide, by decide, rfl, rfl⟩ (Nat.le_of_ble_eq_true rfl) dX6_see_4 rfl rfl ?_
          rw [bn]
          refine z_if_eq_f 10 28 dX6_see_7 rfl (by rw [bi_t h1]; decide) rfl ?_
          refine z_aload_n 11 dX6_see_10 rfl rfl ?_
          refine y_getr 14 _ sh0 rfl fl_X6_10 dX6_see_11 rfl ?_
          refine z_iload_n 15 dX6_see_14 rfl rfl ?_
          refine y_cVs 18 _ (n_hasOne bkm1 hc ok) (bk0 bkm1) cv_X6_141 ⟨by decide, by decide, rfl, rfl⟩ (Nat.le_of_ble_eq_true rfl) dX6_see_15 rfl rfl ?_
          refine z_if_eq_f 21 28 dX6_see_18 rfl (by rw [bi_t h2]; decide) rfl ?_
          refine z_iload_n 22 dX6_see_21 rfl rfl ?_
          refine y_cSs 25 (c_isHue) cs_X6_163 ⟨by decide, by decide, rfl, rfl⟩ (Nat.le_of_ble_eq_true rfl) dX6_see_22 rfl rfl ?_
          refine z_if_ne_t 30 dX6_see_25 rfl (by rw [bi_t h3]; decide) ?_
          refine z_aload_n 31 dX6_see_30 rfl rfl ?_
          refine y_getr 34 _ sh0 rfl fl_X6_44 dX6_see_31 rfl ?_
          refine y_get 37 _ sh35 rfl fl_X6_100 dX6_see_34 rfl ?_
          rw [hT]
          refine z_bipush 39 dX6_see_37 vb6 rfl ?_
          refine z_icmp_lt_t 45 dX6_see_39 rfl (nI_lt (b := 6) hs (by decide)) ?_
          refine z_aload_n 46 dX6_see_45 rfl rfl ?_
          refine y_getr 49 _ sh0 rfl fl_X6_44 dX6_see_46 rfl ?_
          refine y_getr 52 _ sh35 rfl fl_X6_243 dX6_see_49 rfl ?_
          refine z_aload_n 53 dX6_see_52 rfl rfl ?_
          refine y_getr 56 _ sh0 rfl fl_X6_44 dX6_see_53 rfl ?_
          refine y_get 59 _ sh35 rfl fl_X6_100 dX6_see_56 rfl ?_
          rw [hT]
          refine z_iload_n 60 dX6_see_59 rfl rfl ?_
          refine y_st 61 _ sn sh36 rfl hs (by omega) dX6_see_60 rfl ?_
          refine z_aload_n 62 dX6_see_61 rfl rfl ?_
          refine y_getr 65 _ sh0 rfl fl_X6_44 dX6_see_62 rfl ?_
          refine y_getr 68 _ sh35 rfl fl_X6_246 dX6_see_65 rfl ?_
          refine z_aload_n 69 dX6_see_68 rfl rfl ?_
          refine y_getr 72 _ sh0 rfl fl_X6_44 dX6_see_69 rfl ?_
          refine y_get 75 _ sh35 rfl fl_X6_100 dX6_see_72 rfl ?_
          rw [e1]
          refine z_iload_n 76 dX6_see_75 rfl rfl ?_
          refine y_st 77 _ sn sh37 rfl hs (by omega) dX6_see_76 rfl ?_
          refine z_aload_n 78 dX6_see_77 rfl rfl ?_
          refine y_getr 81 _ sh0 rfl fl_X6_44 dX6_see_78 rfl ?_
          refine y_getr 84 _ sh35 rfl fl_X6_248 dX6_see_81 rfl ?_
          refine z_aload_n 85 dX6_see_84 rfl rfl ?_
          refine y_getr 88 _ sh0 rfl fl_X6_44 dX6_see_85 rfl ?_
          refine y_get 91 _ sh35 rfl fl_X6_100 dX6_see_88 rfl ?_
          rw [e2]
          refine z_iload_n 92 dX6_see_91 rfl rfl ?_
          refine y_st 93 _ sn sh38 rfl hs (by omega) dX6_see_92 rfl ?_
          refine z_aload_n 94 dX6_see_93 rfl rfl ?_
          refine y_getr 97 _ sh0 rfl fl_X6_44 dX6_see_94 rfl ?_
          refine z_dup 98 dX6_see_97 rfl rfl ?_
          refine y_get 101 _ sh35 rfl fl_X6_100 dX6_see_98 rfl ?_
          rw [e3]
          refine z_iconst 102 dX6_see_101 vi1 rfl ?_
          refine z_iaddN 103 rfl (show (1 : Int32) = nI 1 from rfl) dX6_see_102 rfl ?_
          refine y_putI 106 _ sh35 rfl fp_X6_100 dX6_see_103 rfl ?_
          refine z_aload_n 107 dX6_see_106 rfl rfl ?_
          refine y_getr 110 _ sh0 rfl fl_X6_44 dX6_see_107 rfl ?_
          refine y_get 113 _ sh35 rfl fl_X6_100 dX6_see_110 rfl ?_
          rw [pk_us]
          refine z_iret hq rfl dX6_see_113 rfl rfl ?_
          exact ⟨by rw [vSee, if_pos ⟨h1, h2, h3⟩, if_pos hs], by rw [sSeeC, if_pos ⟨⟨h1, h2, h3⟩, hs⟩]⟩
        · skip
          refine z_iload_n 1 dX6_see_0 rfl rfl ?_
          refine z_iconst 2 dX6_see_1 vi0 rfl ?_
          refine z_bipush 4 dX6_see_2 vb20 rfl ?_
          refine y_cSs 7 (c_within) cs_X6_73 ⟨by decide, by decide, rfl, rfl⟩ (Nat.le_of_ble_eq_true rfl) dX6_see_4 rfl rfl ?_
          rw [bn]
          refine z_if_eq_f 10 28 dX6_see_7 rfl (by rw [bi_t h1]; decide) rfl ?_
          refine z_aload_n 11 dX6_see_10 rfl rfl ?_
          refine y_getr 14 _ sh0 rfl fl_X6_10 dX6_see_11 rfl ?_
          refine z_iload_n 15 dX6_see_14 rfl rfl ?_
          refine y_cVs 18 _ (n_hasOne bkm1 hc ok) (bk0 bkm1) cv_X6_141 ⟨by decide, by decide, rfl, rfl⟩ (Nat.le_of_ble_eq_true rfl) dX6_see_15 rfl rfl ?_
          refine z_if_eq_f 21 28 dX6_see_18 rfl (by rw [bi_t h2]; decide) rfl ?_
          refine z_iload_n 22 dX6_see_21 rfl rfl ?_
          refine y_cSs 25 (c_isHue) cs_X6_163 ⟨by decide, by decide, rfl, rfl⟩ (Nat.le_of_ble_eq_true rfl) dX6_see_22 rfl rfl ?_
          refine z_if_ne_t 30 dX6_see_25 rfl (by rw [bi_t h3]; decide) ?_
          refine z_aload_n 31 dX6_see_30 rfl rfl ?_
          refine y_getr 34 _ sh0 rfl fl_X6_44 dX6_see_31 rfl ?_
          refine y_get 37 _ sh35 rfl fl_X6_100 dX6_see_34 rfl ?_
          rw [hT]
          refine z_bipush 39 dX6_see_37 vb6 rfl ?_
          refine z_icmp_lt_f 42 45 dX6_see_39 rfl (nI_nlt (b := 6) (by omega) (by omega)) rfl ?_
          refine z_bipush 44 dX6_see_42 vbm3 rfl ?_
          refine z_iret hq rfl dX6_see_44 rfl rfl ?_
          exact ⟨by rw [vSee, if_pos ⟨h1, h2, h3⟩, if_neg hs], by rw [sSeeC, if_neg (fun z => hs z.2)]⟩
      · have no := no (fun q => h3 q.2.2)
        refine z_iload_n 1 dX6_see_0 rfl rfl ?_
        refine z_iconst 2 dX6_see_1 vi0 rfl ?_
        refine z_bipush 4 dX6_see_2 vb20 rfl ?_
        refine y_cSs 7 (c_within) cs_X6_73 ⟨by decide, by decide, rfl, rfl⟩ (Nat.le_of_ble_eq_true rfl) dX6_see_4 rfl rfl ?_
        rw [bn]
        refine z_if_eq_f 10 28 dX6_see_7 rfl (by rw [bi_t h1]; decide) rfl ?_
        refine z_aload_n 11 dX6_see_10 rfl rfl ?_
        refine y_getr 14 _ sh0 rfl fl_X6_10 dX6_see_11 rfl ?_
        refine z_iload_n 15 dX6_see_14 rfl rfl ?_
        refine y_cVs 18 _ (n_hasOne bkm1 hc ok) (bk0 bkm1) cv_X6_141 ⟨by decide, by decide, rfl, rfl⟩ (Nat.le_of_ble_eq_true rfl) dX6_see_15 rfl rfl ?_
        refine z_if_eq_f 21 28 dX6_see_18 rfl (by rw [bi_t h2]; decide) rfl ?_
        refine z_iload_n 22 dX6_see_21 rfl rfl ?_
        refine y_cSs 25 (c_isHue) cs_X6_163 ⟨by decide, by decide, rfl, rfl⟩ (Nat.le_of_ble_eq_true rfl) dX6_see_22 rfl rfl ?_
        refine z_if_ne_f 28 30 dX6_see_25 rfl (bi_f h3) rfl ?_
        refine z_iconst 29 dX6_see_28 vim1 rfl ?_
        refine z_iret hq rfl dX6_see_29 rfl rfl ?_
        exact no
    · have no := no (fun q => h2 q.2.1)
      refine z_iload_n 1 dX6_see_0 rfl rfl ?_
      refine z_iconst 2 dX6_see_1 vi0 rfl ?_
      refine z_bipush 4 dX6_see_2 vb20 rfl ?_
      refine y_cSs 7 (c_within) cs_X6_73 ⟨by decide, by decide, rfl, rfl⟩ (Nat.le_of_ble_eq_true rfl) dX6_see_4 rfl rfl ?_
      rw [bn]
      refine z_if_eq_f 10 28 dX6_see_7 rfl (by rw [bi_t h1]; decide) rfl ?_
      refine z_aload_n 11 dX6_see_10 rfl rfl ?_
      refine y_getr 14 _ sh0 rfl fl_X6_10 dX6_see_11 rfl ?_
      refine z_iload_n 15 dX6_see_14 rfl rfl ?_
      refine y_cVs 18 _ (n_hasOne bkm1 hc ok) (bk0 bkm1) cv_X6_141 ⟨by decide, by decide, rfl, rfl⟩ (Nat.le_of_ble_eq_true rfl) dX6_see_15 rfl rfl ?_
      refine z_if_eq_t 28 dX6_see_18 rfl (bi_f h2) ?_
      refine z_iconst 29 dX6_see_28 vim1 rfl ?_
      refine z_iret hq rfl dX6_see_29 rfl rfl ?_
      exact no
  · have no := no (fun q => h1 q.1)
    refine z_iload_n 1 dX6_see_0 rfl rfl ?_
    refine z_iconst 2 dX6_see_1 vi0 rfl ?_
    refine z_bipush 4 dX6_see_2 vb20 rfl ?_
    refine y_cSs 7 (c_within) cs_X6_73 ⟨by decide, by decide, rfl, rfl⟩ (Nat.le_of_ble_eq_true rfl) dX6_see_4 rfl rfl ?_
    rw [bn]
    refine z_if_eq_t 28 dX6_see_7 rfl (bi_f h1) ?_
    refine z_iconst 29 dX6_see_28 vim1 rfl ?_
    refine z_iret hq rfl dX6_see_29 rfl rfl ?_
    exact no
set_option maxRecDepth 100000 in
theorem r_see {l : Launch} {G : zG} {σ : Nat → Int32} {N : Pg} {sn : Nat} {n p h : Int32} (hc : hdk σ 0 N) (ok : okQ N) (hT : σ (400 * 158 + 26) = nI sn) (ht : sn ≤ 6) : zMet l yX7_see mX7_see [.ref (zGa G 158), .int n, .int p, .int h] G (zW G σ) (zFn G (some (.int (vSee N sn n p h))) (sSeeR σ N sn n p h)) := by
  have bn : bi ((0 : Int64) ≤ n.toInt64 ∧ n.toInt64 ≤ 20) = bi (inR n 21) := bi_in7 (n := 20) (by decide)
  have bh : bi ((0 : Int64) ≤ h.toInt64 ∧ h.toInt64 ≤ 999) = bi (inR h 1000) := bi_in7 (n := 999) (by decide)
  have no : ¬ okSee N n p h → zFn G (some (.int (vSee N sn n p h))) (sSeeR σ N sn n p h) (some (.int (-1))) (zW G σ) := fun q => ⟨by rw [vSee, if_neg q], by rw [sSeeR, if_neg (fun z => q z.1)]⟩
  refine zMet.of (by decide) rfl (Nat.le_of_ble_eq_true rfl) (Or.inr rfl) fun X hX hq => ?_
  subst hX
  show Y G X mX7_see σ 0 [some (.ref (zGa G 158)), some (.int n), some (.int p), some (.int h)] []
  by_cases h1 : inR n 21
  · by_cases h2 : inR p (N 57)
    · by_cases h3 : inR h 1000
      · by_cases hs : sn < 6
        · have e1 : ∀ x, upd σ (400 * 167 + 0 + 3 * sn) x (400 * 158 + 26) = nI sn := fun x => (pk_un (by omega)).trans hT
          have e2 : ∀ x y, upd (upd σ (400 * 167 + 0 + 3 * sn) x) (400 * 167 + 0 + (3 * sn + 1)) y (400 * 158 + 26) = nI sn := fun x y => (pk_un (by omega)).trans (e1 x)
          have e3 : ∀ x y z, upd (upd (upd σ (400 * 167 + 0 + 3 * sn) x) (400 * 167 + 0 + (3 * sn + 1)) y) (400 * 167 + 0 + (3 * sn + 2)) z (400 * 158 + 26) = nI sn := fun x y z => (pk_un (by omega)).trans (e2 x y)
          refine z_iload_n 1 dX7_see_0 rfl rfl ?_
          refine z_i2l 2 dX7_see_1 rfl ?_
          refine z_lconst 3 dX7_see_2 vl0 rfl ?_
          refine z_ldc2 6 kc_X7_253 dX7_see_3 rfl ?_
          refine y_cSs 9 (c_in) cs_X7_55 ⟨by decide, by decide, rfl, rfl⟩ (Nat.le_of_ble_eq_true rfl) dX7_see_6 rfl rfl ?_
          rw [bn]
          refine z_if_eq_f 12 32 dX7_see_9 rfl (by rw [bi_t h1]; decide) rfl ?_
          refine z_aload_n 13 dX7_see_12 rfl rfl ?_
          refine z_iload_n 14 dX7_see_13 rfl rfl ?_
          refine y_cVs 17 _ (q_isOne (o := 0) hc ok) sh158 cv_X7_182 ⟨by decide, by decide, rfl, rfl⟩ (Nat.le_of_ble_eq_true rfl) dX7_see_14 rfl rfl ?_
          refine z_if_eq_f 20 32 dX7_see_17 rfl (by rw [bi_t h2]; decide) rfl ?_
          refine z_iload_n 21 dX7_see_20 rfl rfl ?_
          refine z_i2l 22 dX7_see_21 rfl ?_
          refine z_lconst 23 dX7_see_22 vl0 rfl ?_
          refine z_ldc2 26 kc_X7_188 dX7_see_23 rfl ?_
          refine y_cSs 29 (c_in) cs_X7_55 ⟨by decide, by decide, rfl, rfl⟩ (Nat.le_of_ble_eq_true rfl) dX7_see_26 rfl rfl ?_
          rw [bh]
          refine z_if_ne_t 34 dX7_see_29 rfl (by rw [bi_t h3]; decide) ?_
          refine z_aload_n 35 dX7_see_34 rfl rfl ?_
          refine y_get 38 _ sh158 rfl fl_X7_148 dX7_see_35 rfl ?_
          rw [hT]
          refine z_bipush 40 dX7_see_38 vb6 rfl ?_
          refine z_icmp_ne_t 46 dX7_see_40 rfl (fun q => absurd (nI_eqL (b := 6) (by omega) (by decide) q) (by omega)) ?_
          refine z_aload_n 47 dX7_see_46 rfl rfl ?_
          refine y_getr 50 _ sh158 rfl fl_X7_34 dX7_see_47 rfl ?_
          refine z_iconst 51 dX7_see_50 vi3 rfl ?_
          refine z_aload_n 52 dX7_see_51 rfl rfl ?_
          refine y_get 55 _ sh158 rfl fl_X7_148 dX7_see_52 rfl ?_
          rw [hT]
          refine z_imulN 56 (show (3 : Int32) = nI 3 from rfl) rfl dX7_see_55 rfl ?_
          refine z_iload_n 57 dX7_see_56 rfl rfl ?_
          refine y_st 58 _ _ sh167 rfl (by omega) (by omega) dX7_see_57 rfl ?_
          refine z_aload_n 59 dX7_see_58 rfl rfl ?_
          refine y_getr 62 _ sh158 rfl fl_X7_34 dX7_see_59 rfl ?_
          refine z_iconst 63 dX7_see_62 vi3 rfl ?_
          refine z_aload_n 64 dX7_see_63 rfl rfl ?_
          refine y_get 67 _ sh158 rfl fl_X7_148 dX7_see_64 rfl ?_
          rw [e1]
          refine z_imulN 68 (show (3 : Int32) = nI 3 from rfl) rfl dX7_see_67 rfl ?_
          refine z_iconst 69 dX7_see_68 vi1 rfl ?_
          refine z_iaddN 70 rfl (show (1 : Int32) = nI 1 from rfl) dX7_see_69 rfl ?_
          refine z_iload_n 71 dX7_see_70 rfl rfl ?_
          refine y_st 72 _ _ sh167 rfl (by omega) (by omega) dX7_see_71 rfl ?_
          refine z_aload_n 73 dX7_see_72 rfl rfl ?_
          refine y_getr 76 _ sh158 rfl fl_X7_34 dX7_see_73 rfl ?_
          refine z_iconst 77 dX7_see_76 vi3 rfl ?_
          refine z_aload_n 78 dX7_see_77 rfl rfl ?_
          refine y_get 81 _ sh158 rfl fl_X7_148 dX7_see_78 rfl ?_
          rw [e2]
          refine z_imulN 82 (show (3 : Int32) = nI 3 from rfl) rfl dX7_see_81 rfl ?_
          refine z_iconst 83 dX7_see_82 vi2 rfl ?_
          refine z_iaddN 84 rfl (show (2 : Int32) = nI 2 from rfl) dX7_see_83 rfl ?_
          refine z_iload_n 85 dX7_see_84 rfl rfl ?_
          refine y_st 86 _ _ sh167 rfl (by omega) (by omega) dX7_see_85 rfl ?_
          refine z_aload_n 87 dX7_see_86 rfl rfl ?_
          refine z_dup 88 dX7_see_87 rfl rfl ?_
          refine y_get 91 _ sh158 rfl fl_X7_148 dX7_see_88 rfl ?_
          rw [e3]
          refine z_iconst 92 dX7_see_91 vi1 rfl ?_
          refine z_iaddN 93 rfl (show (1 : Int32) = nI 1 from rfl) dX7_see_92 rfl ?_
          refine y_putI 96 _ sh158 rfl fp_X7_148 dX7_see_93 rfl ?_
          refine z_aload_n 97 dX7_see_96 rfl rfl ?_
          refine y_get 100 _ sh158 rfl fl_X7_148 dX7_see_97 rfl ?_
          rw [pk_us]
          refine z_iret hq rfl dX7_see_100 rfl rfl ?_
          exact ⟨by rw [vSee, if_pos ⟨h1, h2, h3⟩, if_pos hs], by rw [sSeeR, if_pos ⟨⟨h1, h2, h3⟩, hs⟩]⟩
        · skip
          refine z_iload_n 1 dX7_see_0 rfl rfl ?_
          refine z_i2l 2 dX7_see_1 rfl ?_
          refine z_lconst 3 dX7_see_2 vl0 rfl ?_
          refine z_ldc2 6 kc_X7_253 dX7_see_3 rfl ?_
          refine y_cSs 9 (c_in) cs_X7_55 ⟨by decide, by decide, rfl, rfl⟩ (Nat.le_of_ble_eq_true rfl) dX7_see_6 rfl rfl ?_
          rw [bn]
          refine z_if_eq_f 12 32 dX7_see_9 rfl (by rw [bi_t h1]; decide) rfl ?_
          refine z_aload_n 13 dX7_see_12 rfl rfl ?_
          refine z_iload_n 14 dX7_see_13 rfl rfl ?_
          refine y_cVs 17 _ (q_isOne (o := 0) hc ok) sh158 cv_X7_182 ⟨by decide, by decide, rfl, rfl⟩ (Nat.le_of_ble_eq_true rfl) dX7_see_14 rfl rfl ?_
          refine z_if_eq_f 20 32 dX7_see_17 rfl (by rw [bi_t h2]; decide) rfl ?_
          refine z_iload_n 21 dX7_see_20 rfl rfl ?_
          refine z_i2l 22 dX7_see_21 rfl ?_
          refine z_lconst 23 dX7_see_22 vl0 rfl ?_
          refine z_ldc2 26 kc_X7_188 dX7_see_23 rfl ?_
          refine y_cSs 29 (c_in) cs_X7_55 ⟨by decide, by decide, rfl, rfl⟩ (Nat.le_of_ble_eq_true rfl) dX7_see_26 rfl rfl ?_
          rw [bh]
          refine z_if_ne_t 34 dX7_see_29 rfl (by rw [bi_t h3]; decide) ?_
          refine z_aload_n 35 dX7_see_34 rfl rfl ?_
          refine y_get 38 _ sh158 rfl fl_X7_148 dX7_see_35 rfl ?_
          rw [hT]
          refine z_bipush 40 dX7_see_38 vb6 rfl ?_
          refine z_icmp_ne_f 43 46 dX7_see_40 rfl (by rw [show sn = 6 by omega]; rfl) rfl ?_
          refine z_bipush 45 dX7_see_43 vbm3 rfl ?_
          refine z_iret hq rfl dX7_see_45 rfl rfl ?_
          exact ⟨by rw [vSee, if_pos ⟨h1, h2, h3⟩, if_neg hs], by rw [sSeeR, if_neg (fun z => hs z.2)]⟩
      · have no := no (fun q => h3 q.2.2)
        refine z_iload_n 1 dX7_see_0 rfl rfl ?_
        refine z_i2l 2 dX7_see_1 rfl ?_
        refine z_lconst 3 dX7_see_2 vl0 rfl ?_
        refine z_ldc2 6 kc_X7_253 dX7_see_3 rfl ?_
        refine y_cSs 9 (c_in) cs_X7_55 ⟨by decide, by decide, rfl, rfl⟩ (Nat.le_of_ble_eq_true rfl) dX7_see_6 rfl rfl ?_
        rw [bn]
        refine z_if_eq_f 12 32 dX7_see_9 rfl (by rw [bi_t h1]; decide) rfl ?_
        refine z_aload_n 13 dX7_see_12 rfl rfl ?_
        refine z_iload_n 14 dX7_see_13 rfl rfl ?_
        refine y_cVs 17 _ (q_isOne (o := 0) hc ok) sh158 cv_X7_182 ⟨by decide, by decide, rfl, rfl⟩ (Nat.le_of_ble_eq_true rfl) dX7_see_14 rfl rfl ?_
        refine z_if_eq_f 20 32 dX7_see_17 rfl (by rw [bi_t h2]; decide) rfl ?_
        refine z_iload_n 21 dX7_see_20 rfl rfl ?_
        refine z_i2l 22 dX7_see_21 rfl ?_
        refine z_lconst 23 dX7_see_22 vl0 rfl ?_
        refine z_ldc2 26 kc_X7_188 dX7_see_23 rfl ?_
        refine y_cSs 29 (c_in) cs_X7_55 ⟨by decide, by decide, rfl, rfl⟩ (Nat.le_of_ble_eq_true rfl) dX7_see_26 rfl rfl ?_
        rw [bh]
        refine z_if_ne_f 32 34 dX7_see_29 rfl (bi_f h3) rfl ?_
        refine z_iconst 33 dX7_see_32 vim1 rfl ?_
        refine z_iret hq rfl dX7_see_33 rfl rfl ?_
        exact no
    · have no := no (fun q => h2 q.2.1)
      refine z_iload_n 1 dX7_see_0 rfl rfl ?_
      refine z_i2l 2 dX7_see_1 rfl ?_
      refine z_lconst 3 dX7_see_2 vl0 rfl ?_
      refine z_ldc2 6 kc_X7_253 dX7_see_3 rfl ?_
      refine y_cSs 9 (c_in) cs_X7_55 ⟨by decide, by decide, rfl, rfl⟩ (Nat.le_of_ble_eq_true rfl) dX7_see_6 rfl rfl ?_
      rw [bn]
      refine z_if_eq_f 12 32 dX7_see_9 rfl (by rw [bi_t h1]; decide) rfl ?_
      refine z_aload_n 13 dX7_see_12 rfl rfl ?_
      refine z_iload_n 14 dX7_see_13 rfl rfl ?_
      refine y_cVs 17 _ (q_isOne (o := 0) hc ok) sh158 cv_X7_182 ⟨by decide, by decide, rfl, rfl⟩ (Nat.le_of_ble_eq_true rfl) dX7_see_14 rfl rfl ?_
      refine z_if_eq_t 32 dX7_see_17 rfl (bi_f h2) ?_
      refine z_iconst 33 dX7_see_32 vim1 rfl ?_
      refine z_iret hq rfl dX7_see_33 rfl rfl ?_
      exact no
  · have no := no (fun q => h1 q.1)
    refine z_iload_n 1 dX7_see_0 rfl rfl ?_
    refine z_i2l 2 dX7_see_1 rfl ?_
    refine z_lconst 3 dX7_see_2 vl0 rfl ?_
    refine z_ldc2 6 kc_X7_253 dX7_see_3 rfl ?_
    refine y_cSs 9 (c_in) cs_X7_55 ⟨by decide, by decide, rfl, rfl⟩ (Nat.le_of_ble_eq_true rfl) dX7_see_6 rfl rfl ?_
    rw [bn]
    refine z_if_eq_t 32 dX7_see_9 rfl (bi_f h1) ?_
    refine z_iconst 33 dX7_see_32 vim1 rfl ?_
    refine z_iret hq rfl dX7_see_33 rfl rfl ?_
    exact no

