/-! ===== rule, colour, one, holds, off ===== -/
section YQ
variable {G : zG} {X : zX} {μ : zM} {σ : Nat → Int32} {pc : Nat} {L : List (Option Value)} {S : List Value} {N : Pg}
theorem q_get (n : Nat) {o idx j i : Nat} (hQ : hdk σ o N) (hj : ([0, 56, 57] : List Nat)[j]? = some i) (h0 : i ≠ 0) (hf : zFld (zMo μ) idx 7 j) (hd : decode (zMc μ) pc = .ok (.getfield idx, 3)) (hn : pc + 3 = n) (k : Y G X μ σ n L (.int (nI (N i)) :: S)) : Y G X μ σ pc L (.ref (zGa G 158) :: S) := by
  match j, hj with
  | 0, h => cases h; exact absurd rfl h0
  | 1, h => cases h; exact y_get n 158 sh158 rfl hf hd hn (by rw [show 400 * 158 + 1 = aR o 56 from rfl, hQ 56 (by decide)]; exact k)
  | 2, h => cases h; exact y_get n 158 sh158 rfl hf hd hn (by rw [show 400 * 158 + 2 = aR o 57 from rfl, hQ 57 (by decide)]; exact k)
theorem q_ld (n k : Nat) {o j : Nat} {i : Int32} (hQ : hdk σ o N) (hi : i = nI j) (hj : j = o + k) (hk : k < 55) (ho : o ≤ 275) (hd : decode (zMc μ) pc = .ok (.iaload, 1)) (hn : pc + 1 = n) (kk : Y G X μ σ n L (.int (nI (N k)) :: S)) : Y G X μ σ pc L (.int i :: .ref (zGa G 159) :: S) := by
  refine y_ld n 159 j sh159 hi (by omega) (by decide) hd hn ?_
  have e : 400 * 159 + 0 + j = aR o k := by simp only [aR]; rw [if_pos hk]; omega
  rw [e, hQ k (by omega)]
  exact kk
end YQ
section NR
variable {l : Launch} {G : zG} {σ : Nat → Int32} {o : Nat} {N : Pg}
theorem q_isColour {c : Int32} (hQ : hdk σ o N) (ok : okQ N) : zMet l yX7_isColour mX7_isColour [.ref (zGa G 158), .int c] G (zW G σ) (zFn G (some (.int (bi (inR c (N 56))))) σ) := by
  obtain ⟨Q, h, e⟩ := hdk_full hQ
  rw [← e 56 (by omega)]; exact c_isColour7 h (ok.eqc e).nc
theorem q_isOne {c : Int32} (hQ : hdk σ o N) (ok : okQ N) : zMet l yX7_isOne mX7_isOne [.ref (zGa G 158), .int c] G (zW G σ) (zFn G (some (.int (bi (inR c (N 57))))) σ) := by
  obtain ⟨Q, h, e⟩ := hdk_full hQ
  rw [← e 57 (by omega)]; exact c_isOne7 h (ok.eqc e).np
theorem q_rentOn {c : Nat} (hQ : hdk σ o N) (ho : o ≤ 275) (ok : okQ N) (hc : c < 5) : zMet l yX7_rentOn mX7_rentOn [.ref (zGa G 158), .int (nI o), .int (nI c)] G (zW G σ) (zFn G (some (.int (nI (rentK (N c))))) σ) := by
  obtain ⟨Q, h, e⟩ := hdk_full hQ
  rw [← e c (by omega)]; exact c_rentOn h ho hc ((ok.eqc e).kd hc)
theorem q_heldOn {p : Nat} (hQ : hdk σ o N) (ho : o ≤ 275) (ok : okQ N) (hp : p < 4) : zMet l yX7_heldOn mX7_heldOn [.ref (zGa G 158), .int (nI o), .int (nI p)] G (zW G σ) (zFn G (some (.int (nI (heldQ N p)))) σ) := by
  obtain ⟨Q, h, e⟩ := hdk_full hQ
  rw [← heldQ_c e ok.nc hp]; exact c_heldOn h ho (ok.eqc e).nc hp
theorem q_heldByAll (hQ : hdk σ o N) (ho : o ≤ 275) (ok : okQ N) : zMet l yX7_heldByAll mX7_heldByAll [.ref (zGa G 158), .int (nI o)] G (zW G σ) (zFn G (some (.int (nI (heldA N)))) σ) := by
  obtain ⟨Q, h, e⟩ := hdk_full hQ
  rw [← heldA_c e ok.nc ok.np]; exact c_heldByAll7 h ho (ok.eqc e).nc (ok.eqc e).np
theorem q_vatsOn (hQ : hdk σ o N) (ho : o ≤ 275) (ok : okQ N) : zMet l yX7_vatsOn mX7_vatsOn [.ref (zGa G 158), .int (nI o)] G (zW G σ) (zFn G (some (.int (nI (vatsQ N)))) σ) := by
  obtain ⟨Q, h, e⟩ := hdk_full hQ
  rw [← vatsQ_c e ok.nc]; exact c_vatsOn h ho (ok.eqc e).nc
theorem q_hueOn {p : Nat} (hQ : hdk σ o N) (ho : o ≤ 275) (ok : okQ N) (hp : p < 4) : zMet l yX7_hueOn mX7_hueOn [.ref (zGa G 158), .int (nI o), .int (nI p)] G (zW G σ) (zFn G (some (.int (nI (hueQ N p)))) σ) := by
  obtain ⟨Q, h, e⟩ := hdk_full hQ
  rw [← hueQ_c e ok.nc hp]; exact c_hueOn h ho (ok.eqc e) hp
end NR
theorem nN_nI {j : Nat} (h : j < 2 ^ 31) : nN (nI j) = j := nI_nat h
def ruleV (N : Pg) (w : Nat) : Nat := if w = 0 then N 56 else if w = 1 then N 57 else if w = 2 then N 53 else if w = 3 then N 54 else if w = 4 then vatsQ N else heldA N
def vRule (N : Pg) (w : Int32) : Int32 := if inR w 6 then nI (ruleV N (nN w)) else -1
theorem rule_v {N : Pg} {w : Nat} (h : w < 6) : vRule N (nI w) = nI (ruleV N w) := by
  rw [vRule, if_pos ((inR_nI (by omega)).mpr h), nN_nI (by omega)]
theorem tsout {x : Int32} {n : Nat} (h : ¬ inR x (n + 1)) : x.toInt < 0 ∨ (n : Int) < x.toInt := by simp only [inR] at h; omega
set_option maxRecDepth 100000 in
theorem x_rule {l : Launch} {G : zG} {σ : Nat → Int32} {N : Pg} {w : Int32} (hc : hdc σ 1 N) (ok : okQ N) (oz : okZ N) : zMet l yX6_rule mX6_rule [.ref (zGa G 0), .int w] G (zW G σ) (zFn G (some (.int (vRule N w))) σ) := by
  refine zMet.of (by decide) rfl (Nat.le_of_ble_eq_true rfl) (Or.inr rfl) fun X hX hq => ?_
  subst hX
  show Y G X mX6_rule σ 0 [some (.ref (zGa G 0)), some (.int w)] []
  by_cases hw : inR w 6
  · obtain ⟨k, hk, rfl⟩ := inR_of hw (by decide)
    rcases (show k = 0 ∨ k = 1 ∨ k = 2 ∨ k = 3 ∨ k = 4 ∨ k = 5 by omega) with e | e | e | e | e | e
    all_goals subst e
    · skip
      refine z_iload_n 1 dX6_rule_0 rfl rfl ?_
      refine z_tsIn 40 dX6_rule_1 (by decide) (by decide) (by rfl) rfl ?_
      refine z_aload_n 41 dX6_rule_40 rfl rfl ?_
      refine y_getr 44 _ sh0 rfl fl_X6_10 dX6_rule_41 rfl ?_
      refine k_get 47 bkm1 hc rfl (by decide) fl_X6_103 dX6_rule_44 rfl ?_
      refine z_iret hq rfl dX6_rule_47 rfl rfl ?_
      exact ⟨by rw [rule_v (by decide)]; rfl, rfl⟩
    · skip
      refine z_iload_n 1 dX6_rule_0 rfl rfl ?_
      refine z_tsIn 48 dX6_rule_1 (by decide) (by decide) (by rfl) rfl ?_
      refine z_aload_n 49 dX6_rule_48 rfl rfl ?_
      refine y_getr 52 _ sh0 rfl fl_X6_10 dX6_rule_49 rfl ?_
      refine k_get 55 bkm1 hc rfl (by decide) fl_X6_106 dX6_rule_52 rfl ?_
      refine z_iret hq rfl dX6_rule_55 rfl rfl ?_
      exact ⟨by rw [rule_v (by decide)]; rfl, rfl⟩
    · skip
      refine z_iload_n 1 dX6_rule_0 rfl rfl ?_
      refine z_tsIn 56 dX6_rule_1 (by decide) (by decide) (by rfl) rfl ?_
      refine z_aload_n 57 dX6_rule_56 rfl rfl ?_
      refine y_getr 60 _ sh0 rfl fl_X6_10 dX6_rule_57 rfl ?_
      refine k_get 63 bkm1 hc rfl (by decide) fl_X6_109 dX6_rule_60 rfl ?_
      refine z_iret hq rfl dX6_rule_63 rfl rfl ?_
      exact ⟨by rw [rule_v (by decide)]; rfl, rfl⟩
    · skip
      refine z_iload_n 1 dX6_rule_0 rfl rfl ?_
      refine z_tsIn 64 dX6_rule_1 (by decide) (by decide) (by rfl) rfl ?_
      refine z_aload_n 65 dX6_rule_64 rfl rfl ?_
      refine y_getr 68 _ sh0 rfl fl_X6_10 dX6_rule_65 rfl ?_
      refine k_get 71 bkm1 hc rfl (by decide) fl_X6_112 dX6_rule_68 rfl ?_
      refine z_iret hq rfl dX6_rule_71 rfl rfl ?_
      exact ⟨by rw [rule_v (by decide)]; rfl, rfl⟩
    · skip
      refine z_iload_n 1 dX6_rule_0 rfl rfl ?_
      refine z_tsIn 72 dX6_rule_1 (by decide) (by decide) (by rfl) rfl ?_
      refine z_aload_n 73 dX6_rule_72 rfl rfl ?_
      refine y_getr 76 _ sh0 rfl fl_X6_10 dX6_rule_73 rfl ?_
      refine y_cVs 79 _ (n_inVats bkm1 hc ok) (bk0 bkm1) cv_X6_115 ⟨by decide, by decide, rfl, rfl⟩ (Nat.le_of_ble_eq_true rfl) dX6_rule_76 rfl rfl ?_
      refine z_iret hq rfl dX6_rule_79 rfl rfl ?_
      exact ⟨by rw [rule_v (by decide)]; rfl, rfl⟩
    · skip
      refine z_iload_n 1 dX6_rule_0 rfl rfl ?_
      refine z_tsIn 80 dX6_rule_1 (by decide) (by decide) (by rfl) rfl ?_
      refine z_aload_n 81 dX6_rule_80 rfl rfl ?_
      refine y_getr 84 _ sh0 rfl fl_X6_10 dX6_rule_81 rfl ?_
      refine y_cVs 87 _ (n_heldByAll bkm1 hc ok oz) (bk0 bkm1) cv_X6_118 ⟨by decide, by decide, rfl, rfl⟩ (Nat.le_of_ble_eq_true rfl) dX6_rule_84 rfl rfl ?_
      refine z_iret hq rfl dX6_rule_87 rfl rfl ?_
      exact ⟨by rw [rule_v (by decide)]; rfl, rfl⟩
  · skip
    refine z_iload_n 1 dX6_rule_0 rfl rfl ?_
    refine z_tsOut 88 dX6_rule_1 (tsout hw) rfl ?_
    refine z_iconst 89 dX6_rule_88 vim1 rfl ?_
    refine z_iret hq rfl dX6_rule_89 rfl rfl ?_
    exact ⟨by rw [vRule, if_neg hw], rfl⟩
set_option maxRecDepth 100000 in
theorem r_rule {l : Launch} {G : zG} {σ : Nat → Int32} {N : Pg} {w : Int32} (hc : hdk σ 0 N) (ok : okQ N) : zMet l yX7_rule mX7_rule [.ref (zGa G 158), .int w] G (zW G σ) (zFn G (some (.int (vRule N w))) σ) := by
  refine zMet.of (by decide) rfl (Nat.le_of_ble_eq_true rfl) (Or.inr rfl) fun X hX hq => ?_
  subst hX
  show Y G X mX7_rule σ 0 [some (.ref (zGa G 158)), some (.int w)] []
  by_cases hw : inR w 6
  · obtain ⟨k, hk, rfl⟩ := inR_of hw (by decide)
    rcases (show k = 0 ∨ k = 1 ∨ k = 2 ∨ k = 3 ∨ k = 4 ∨ k = 5 by omega) with e | e | e | e | e | e
    all_goals subst e
    · skip
      refine z_iload_n 1 dX7_rule_0 rfl rfl ?_
      refine z_tsIn 40 dX7_rule_1 (by decide) (by decide) (by rfl) rfl ?_
      refine z_aload_n 41 dX7_rule_40 rfl rfl ?_
      refine q_get 44 hc rfl (by decide) fl_X7_142 dX7_rule_41 rfl ?_
      refine z_iret hq rfl dX7_rule_44 rfl rfl ?_
      exact ⟨by rw [rule_v (by decide)]; rfl, rfl⟩
    · skip
      refine z_iload_n 1 dX7_rule_0 rfl rfl ?_
      refine z_tsIn 45 dX7_rule_1 (by decide) (by decide) (by rfl) rfl ?_
      refine z_aload_n 46 dX7_rule_45 rfl rfl ?_
      refine q_get 49 hc rfl (by decide) fl_X7_145 dX7_rule_46 rfl ?_
      refine z_iret hq rfl dX7_rule_49 rfl rfl ?_
      exact ⟨by rw [rule_v (by decide)]; rfl, rfl⟩
    · skip
      refine z_iload_n 1 dX7_rule_0 rfl rfl ?_
      refine z_tsIn 50 dX7_rule_1 (by decide) (by decide) (by rfl) rfl ?_
      refine z_aload_n 51 dX7_rule_50 rfl rfl ?_
      refine y_getr 54 _ sh158 rfl fl_X7_7 dX7_rule_51 rfl ?_
      refine z_bipush 56 dX7_rule_54 vb53 rfl ?_
      refine q_ld 57 (53) hc (show (53 : Int32) = nI 53 from rfl) (by omega) (by omega) (by omega) dX7_rule_56 rfl ?_
      refine z_iret hq rfl dX7_rule_57 rfl rfl ?_
      exact ⟨by rw [rule_v (by decide)]; rfl, rfl⟩
    · skip
      refine z_iload_n 1 dX7_rule_0 rfl rfl ?_
      refine z_tsIn 58 dX7_rule_1 (by decide) (by decide) (by rfl) rfl ?_
      refine z_aload_n 59 dX7_rule_58 rfl rfl ?_
      refine y_getr 62 _ sh158 rfl fl_X7_7 dX7_rule_59 rfl ?_
      refine z_bipush 64 dX7_rule_62 vb54 rfl ?_
      refine q_ld 65 (54) hc (show (54 : Int32) = nI 54 from rfl) (by omega) (by omega) (by omega) dX7_rule_64 rfl ?_
      refine z_iret hq rfl dX7_rule_65 rfl rfl ?_
      exact ⟨by rw [rule_v (by decide)]; rfl, rfl⟩
    · skip
      refine z_iload_n 1 dX7_rule_0 rfl rfl ?_
      refine z_tsIn 66 dX7_rule_1 (by decide) (by decide) (by rfl) rfl ?_
      refine z_aload_n 67 dX7_rule_66 rfl rfl ?_
      refine z_iconst 68 dX7_rule_67 vi0 rfl ?_
      refine y_cVs 71 _ (q_vatsOn (o := 0) hc (by decide) ok) sh158 cv_X7_170 ⟨by decide, by decide, rfl, rfl⟩ (Nat.le_of_ble_eq_true rfl) dX7_rule_68 rfl rfl ?_
      refine z_iret hq rfl dX7_rule_71 rfl rfl ?_
      exact ⟨by rw [rule_v (by decide)]; rfl, rfl⟩
    · skip
      refine z_iload_n 1 dX7_rule_0 rfl rfl ?_
      refine z_tsIn 72 dX7_rule_1 (by decide) (by decide) (by rfl) rfl ?_
      refine z_aload_n 73 dX7_rule_72 rfl rfl ?_
      refine z_iconst 74 dX7_rule_73 vi0 rfl ?_
      refine y_cVs 77 _ (q_heldByAll (o := 0) hc (by decide) ok) sh158 cv_X7_173 ⟨by decide, by decide, rfl, rfl⟩ (Nat.le_of_ble_eq_true rfl) dX7_rule_74 rfl rfl ?_
      refine z_iret hq rfl dX7_rule_77 rfl rfl ?_
      exact ⟨by rw [rule_v (by decide)]; rfl, rfl⟩
  · skip
    refine z_iload_n 1 dX7_rule_0 rfl rfl ?_
    refine z_tsOut 78 dX7_rule_1 (tsout hw) rfl ?_
    refine z_iconst 79 dX7_rule_78 vim1 rfl ?_
    refine z_iret hq rfl dX7_rule_79 rfl rfl ?_
    exact ⟨by rw [vRule, if_neg hw], rfl⟩
def colV (N : Pg) (c w : Nat) : Nat := if w < 5 then N (5 * w + c) else if w = 5 then rentK (N c) else heldC N c
def vColour (N : Pg) (c w : Int32) : Int32 := if inR c (N 56) ∧ inR w 7 then nI (colV N (nN c) (nN w)) else -1
theorem colour_v {N : Pg} {c w : Nat} (hn : N 56 ≤ 5) (hc : c < N 56) (h : w < 7) : vColour N (nI c) (nI w) = nI (colV N c w) := by
  rw [vColour, if_pos ⟨(inR_nI (by omega)).mpr hc, (inR_nI (by omega)).mpr h⟩, nN_nI (by omega), nN_nI (by omega)]
set_option maxRecDepth 100000 in
theorem x_colour {l : Launch} {G : zG} {σ : Nat → Int32} {N : Pg} {c w : Int32} (hc : hdc σ 1 N) (ok : okQ N) : zMet l yX6_colour mX6_colour [.ref (zGa G 0), .int c, .int w] G (zW G σ) (zFn G (some (.int (vColour N c w))) σ) := by
  have b5 := ok.nc
  refine zMet.of (by decide) rfl (Nat.le_of_ble_eq_true rfl) (Or.inr rfl) fun X hX hq => ?_
  subst hX
  show Y G X mX6_colour σ 0 [some (.ref (zGa G 0)), some (.int c), some (.int w)] []
  by_cases hi : inR c (N 56)
  · by_cases hw : inR w 7
    · obtain ⟨k, hk, rfl⟩ := inR_of hw (by decide)
      obtain ⟨c', hc', rfl⟩ := inR_of hi (by omega)
      have c5 : c' < 5 := by omega
      rcases (show k = 0 ∨ k = 1 ∨ k = 2 ∨ k = 3 ∨ k = 4 ∨ k = 5 ∨ k = 6 by omega) with e | e | e | e | e | e | e
      all_goals subst e
      · skip
        refine z_aload_n 1 dX6_colour_0 rfl rfl ?_
        refine y_getr 4 _ sh0 rfl fl_X6_10 dX6_colour_1 rfl ?_
        refine z_iload_n 5 dX6_colour_4 rfl rfl ?_
        refine y_cVs 8 _ (n_hasColour bkm1 hc ok) (bk0 bkm1) cv_X6_121 ⟨by decide, by decide, rfl, rfl⟩ (Nat.le_of_ble_eq_true rfl) dX6_colour_5 rfl rfl ?_
        refine z_if_ne_t 13 dX6_colour_8 rfl (by rw [bi_t hi]; decide) ?_
        refine z_iload_n 14 dX6_colour_13 rfl rfl ?_
        refine z_tsIn 56 dX6_colour_14 (by decide) (by decide) (by rfl) rfl ?_
        refine z_aload_n 57 dX6_colour_56 rfl rfl ?_
        refine y_getr 60 _ sh0 rfl fl_X6_10 dX6_colour_57 rfl ?_
        refine y_getr 63 _ (bk0 bkm1) rfl fl_X6_125 dX6_colour_60 rfl ?_
        refine z_iload_n 64 dX6_colour_63 rfl rfl ?_
        refine k_ld 65 _ hc (bk1 bkm1) rfl (by omega) (by decide) dX6_colour_64 rfl ?_
        refine z_iret hq rfl dX6_colour_65 rfl rfl ?_
        exact ⟨by rw [colour_v b5 hc' (by decide)]; simp only [colV]; first | rfl | (rw [if_pos (by decide)]; congr 4; omega), rfl⟩
      · skip
        refine z_aload_n 1 dX6_colour_0 rfl rfl ?_
        refine y_getr 4 _ sh0 rfl fl_X6_10 dX6_colour_1 rfl ?_
        refine z_iload_n 5 dX6_colour_4 rfl rfl ?_
        refine y_cVs 8 _ (n_hasColour bkm1 hc ok) (bk0 bkm1) cv_X6_121 ⟨by decide, by decide, rfl, rfl⟩ (Nat.le_of_ble_eq_true rfl) dX6_colour_5 rfl rfl ?_
        refine z_if_ne_t 13 dX6_colour_8 rfl (by rw [bi_t hi]; decide) ?_
        refine z_iload_n 14 dX6_colour_13 rfl rfl ?_
        refine z_tsIn 66 dX6_colour_14 (by decide) (by decide) (by rfl) rfl ?_
        refine z_aload_n 67 dX6_colour_66 rfl rfl ?_
        refine y_getr 70 _ sh0 rfl fl_X6_10 dX6_colour_67 rfl ?_
        refine y_getr 73 _ (bk0 bkm1) rfl fl_X6_128 dX6_colour_70 rfl ?_
        refine z_iconst 74 dX6_colour_73 vi3 rfl ?_
        refine z_iload_n 75 dX6_colour_74 rfl rfl ?_
        refine z_imulN 76 (show (3 : Int32) = nI 3 from rfl) rfl dX6_colour_75 rfl ?_
        refine k_ldL 77 _ hc (bk2 bkm1) rfl (by omega) dX6_colour_76 rfl ?_
        refine z_iret hq rfl dX6_colour_77 rfl rfl ?_
        exact ⟨by rw [colour_v b5 hc' (by decide)]; simp only [colV]; first | rfl | (rw [if_pos (by decide)]; congr 4; omega), rfl⟩
      · skip
        refine z_aload_n 1 dX6_colour_0 rfl rfl ?_
        refine y_getr 4 _ sh0 rfl fl_X6_10 dX6_colour_1 rfl ?_
        refine z_iload_n 5 dX6_colour_4 rfl rfl ?_
        refine y_cVs 8 _ (n_hasColour bkm1 hc ok) (bk0 bkm1) cv_X6_121 ⟨by decide, by decide, rfl, rfl⟩ (Nat.le_of_ble_eq_true rfl) dX6_colour_5 rfl rfl ?_
        refine z_if_ne_t 13 dX6_colour_8 rfl (by rw [bi_t hi]; decide) ?_
        refine z_iload_n 14 dX6_colour_13 rfl rfl ?_
        refine z_tsIn 78 dX6_colour_14 (by decide) (by decide) (by rfl) rfl ?_
        refine z_aload_n 79 dX6_colour_78 rfl rfl ?_
        refine y_getr 82 _ sh0 rfl fl_X6_10 dX6_colour_79 rfl ?_
        refine y_getr 85 _ (bk0 bkm1) rfl fl_X6_128 dX6_colour_82 rfl ?_
        refine z_iconst 86 dX6_colour_85 vi3 rfl ?_
        refine z_iload_n 87 dX6_colour_86 rfl rfl ?_
        refine z_imulN 88 (show (3 : Int32) = nI 3 from rfl) rfl dX6_colour_87 rfl ?_
        refine z_iconst 89 dX6_colour_88 vi1 rfl ?_
        refine z_iaddN 90 rfl (show (1 : Int32) = nI 1 from rfl) dX6_colour_89 rfl ?_
        refine k_ldL 91 _ hc (bk2 bkm1) rfl (by omega) dX6_colour_90 rfl ?_
        refine z_iret hq rfl dX6_colour_91 rfl rfl ?_
        exact ⟨by rw [colour_v b5 hc' (by decide)]; simp only [colV]; first | rfl | (rw [if_pos (by decide)]; congr 4; omega), rfl⟩
      · skip
        refine z_aload_n 1 dX6_colour_0 rfl rfl ?_
        refine y_getr 4 _ sh0 rfl fl_X6_10 dX6_colour_1 rfl ?_
        refine z_iload_n 5 dX6_colour_4 rfl rfl ?_
        refine y_cVs 8 _ (n_hasColour bkm1 hc ok) (bk0 bkm1) cv_X6_121 ⟨by decide, by decide, rfl, rfl⟩ (Nat.le_of_ble_eq_true rfl) dX6_colour_5 rfl rfl ?_
        refine z_if_ne_t 13 dX6_colour_8 rfl (by rw [bi_t hi]; decide) ?_
        refine z_iload_n 14 dX6_colour_13 rfl rfl ?_
        refine z_tsIn 92 dX6_colour_14 (by decide) (by decide) (by rfl) rfl ?_
        refine z_aload_n 93 dX6_colour_92 rfl rfl ?_
        refine y_getr 96 _ sh0 rfl fl_X6_10 dX6_colour_93 rfl ?_
        refine y_getr 99 _ (bk0 bkm1) rfl fl_X6_128 dX6_colour_96 rfl ?_
        refine z_iconst 100 dX6_colour_99 vi3 rfl ?_
        refine z_iload_n 101 dX6_colour_100 rfl rfl ?_
        refine z_imulN 102 (show (3 : Int32) = nI 3 from rfl) rfl dX6_colour_101 rfl ?_
        refine z_iconst 103 dX6_colour_102 vi2 rfl ?_
        refine z_iaddN 104 rfl (show (2 : Int32) = nI 2 from rfl) dX6_colour_103 rfl ?_
        refine k_ldL 105 _ hc (bk2 bkm1) rfl (by omega) dX6_colour_104 rfl ?_
        refine z_iret hq rfl dX6_colour_105 rfl rfl ?_
        exact ⟨by rw [colour_v b5 hc' (by decide)]; simp only [colV]; first | rfl | (rw [if_pos (by decide)]; congr 4; omega), rfl⟩
      · skip
        refine z_aload_n 1 dX6_colour_0 rfl rfl ?_
        refine y_getr 4 _ sh0 rfl fl_X6_10 dX6_colour_1 rfl ?_
        refine z_iload_n 5 dX6_colour_4 rfl rfl ?_
        refine y_cVs 8 _ (n_hasColour bkm1 hc ok) (bk0 bkm1) cv_X6_121 ⟨by decide, by decide, rfl, rfl⟩ (Nat.le_of_ble_eq_true rfl) dX6_colour_5 rfl rfl ?_
        refine z_if_ne_t 13 dX6_colour_8 rfl (by rw [bi_t hi]; decide) ?_
        refine z_iload_n 14 dX6_colour_13 rfl rfl ?_
        refine z_tsIn 106 dX6_colour_14 (by decide) (by decide) (by rfl) rfl ?_
        refine z_aload_n 107 dX6_colour_106 rfl rfl ?_
        refine y_getr 110 _ sh0 rfl fl_X6_10 dX6_colour_107 rfl ?_
        refine y_getr 113 _ (bk0 bkm1) rfl fl_X6_131 dX6_colour_110 rfl ?_
        refine z_iload_n 114 dX6_colour_113 rfl rfl ?_
        refine k_ld 115 _ hc (bk3 bkm1) rfl (by omega) (by decide) dX6_colour_114 rfl ?_
        refine z_iret hq rfl dX6_colour_115 rfl rfl ?_
        exact ⟨by rw [colour_v b5 hc' (by decide)]; simp only [colV]; first | rfl | (rw [if_pos (by decide)]; congr 4; omega), rfl⟩
      · skip
        refine z_aload_n 1 dX6_colour_0 rfl rfl ?_
        refine y_getr 4 _ sh0 rfl fl_X6_10 dX6_colour_1 rfl ?_
        refine z_iload_n 5 dX6_colour_4 rfl rfl ?_
        refine y_cVs 8 _ (n_hasColour bkm1 hc ok) (bk0 bkm1) cv_X6_121 ⟨by decide, by decide, rfl, rfl⟩ (Nat.le_of_ble_eq_true rfl) dX6_colour_5 rfl rfl ?_
        refine z_if_ne_t 13 dX6_colour_8 rfl (by rw [bi_t hi]; decide) ?_
        refine z_iload_n 14 dX6_colour_13 rfl rfl ?_
        refine z_tsIn 116 dX6_colour_14 (by decide) (by decide) (by rfl) rfl ?_
        refine z_aload_n 117 dX6_colour_116 rfl rfl ?_
        refine y_getr 120 _ sh0 rfl fl_X6_10 dX6_colour_117 rfl ?_
        refine z_iload_n 121 dX6_colour_120 rfl rfl ?_
        refine y_cVs 124 _ (n_rentOf bkm1 hc ok c5) (bk0 bkm1) cv_X6_134 ⟨by decide, by decide, rfl, rfl⟩ (Nat.le_of_ble_eq_true rfl) dX6_colour_121 rfl rfl ?_
        refine z_iret hq rfl dX6_colour_124 rfl rfl ?_
        exact ⟨by rw [colour_v b5 hc' (by decide)]; simp only [colV]; first | rfl | (rw [if_pos (by decide)]; congr 4; omega), rfl⟩
      · skip
        refine z_aload_n 1 dX6_colour_0 rfl rfl ?_
        refine y_getr 4 _ sh0 rfl fl_X6_10 dX6_colour_1 rfl ?_
        refine z_iload_n 5 dX6_colour_4 rfl rfl ?_
        refine y_cVs 8 _ (n_hasColour bkm1 hc ok) (bk0 bkm1) cv_X6_121 ⟨by decide, by decide, rfl, rfl⟩ (Nat.le_of_ble_eq_true rfl) dX6_colour_5 rfl rfl ?_
        refine z_if_ne_t 13 dX6_colour_8 rfl (by rw [bi_t hi]; decide) ?_
        refine z_iload_n 14 dX6_colour_13 rfl rfl ?_
        refine z_tsIn 125 dX6_colour_14 (by decide) (by decide) (by rfl) rfl ?_
        refine z_aload_n 126 dX6_colour_125 rfl rfl ?_
        refine y_getr 129 _ sh0 rfl fl_X6_10 dX6_colour_126 rfl ?_
        refine z_iload_n 130 dX6_colour_129 rfl rfl ?_
        refine y_cVs 133 _ (n_heldOf bkm1 hc ok c5) (bk0 bkm1) cv_X6_138 ⟨by decide, by decide, rfl, rfl⟩ (Nat.le_of_ble_eq_true rfl) dX6_colour_130 rfl rfl ?_
        refine z_iret hq rfl dX6_colour_133 rfl rfl ?_
        exact ⟨by rw [colour_v b5 hc' (by decide)]; simp only [colV]; first | rfl | (rw [if_pos (by decide)]; congr 4; omega), rfl⟩
    · skip
      refine z_aload_n 1 dX6_colour_0 rfl rfl ?_
      refine y_getr 4 _ sh0 rfl fl_X6_10 dX6_colour_1 rfl ?_
      refine z_iload_n 5 dX6_colour_4 rfl rfl ?_
      refine y_cVs 8 _ (n_hasColour bkm1 hc ok) (bk0 bkm1) cv_X6_121 ⟨by decide, by decide, rfl, rfl⟩ (Nat.le_of_ble_eq_true rfl) dX6_colour_5 rfl rfl ?_
      refine z_if_ne_t 13 dX6_colour_8 rfl (by rw [bi_t hi]; decide) ?_
      refine z_iload_n 14 dX6_colour_13 rfl rfl ?_
      refine z_tsOut 134 dX6_colour_14 (tsout hw) rfl ?_
      refine z_iconst 135 dX6_colour_134 vim1 rfl ?_
      refine z_iret hq rfl dX6_colour_135 rfl rfl ?_
      exact ⟨by rw [vColour, if_neg (fun h => hw h.2)], rfl⟩
  · skip
    refine z_aload_n 1 dX6_colour_0 rfl rfl ?_
    refine y_getr 4 _ sh0 rfl fl_X6_10 dX6_colour_1 rfl ?_
    refine z_iload_n 5 dX6_colour_4 rfl rfl ?_
    refine y_cVs 8 _ (n_hasColour bkm1 hc ok) (bk0 bkm1) cv_X6_121 ⟨by decide, by decide, rfl, rfl⟩ (Nat.le_of_ble_eq_true rfl) dX6_colour_5 rfl rfl ?_
    refine z_if_ne_f 11 13 dX6_colour_8 rfl (by rw [bi_f hi]) rfl ?_
    refine z_iconst 12 dX6_colour_11 vim1 rfl ?_
    refine z_iret hq rfl dX6_colour_12 rfl rfl ?_
    exact ⟨by rw [vColour, if_neg (fun h => hi h.1)], rfl⟩
theorem bi_in7 {x : Int32} {n : Nat} {c : Int64} (hc : c.toInt = n) : bi ((0 : Int64) ≤ x.toInt64 ∧ x.toInt64 ≤ c) = bi (inR x (n + 1)) := bi_cg (in_inR hc)
set_option maxRecDepth 100000 in
theorem r_colour {l : Launch} {G : zG} {σ : Nat → Int32} {N : Pg} {c w : Int32} (hc : hdk σ 0 N) (ok : okQ N) : zMet l yX7_colour mX7_colour [.ref (zGa G 158), .int c, .int w] G (zW G σ) (zFn G (some (.int (vColour N c w))) σ) := by
  have b5 := ok.nc
  have b4 := ok.np
  have ew : bi ((0 : Int64) ≤ w.toInt64 ∧ w.toInt64 ≤ 6) = bi (inR w 7) := bi_in7 (n := 6) (by decide)
  refine zMet.of (by decide) rfl (Nat.le_of_ble_eq_true rfl) (Or.inr rfl) fun X hX hq => ?_
  subst hX
  show Y G X mX7_colour σ 0 [some (.ref (zGa G 158)), some (.int c), some (.int w), none, none] []
  by_cases hi : inR c (N 56)
  · by_cases hw : inR w 7
    · obtain ⟨k, hk, rfl⟩ := inR_of hw (by decide)
      obtain ⟨c', hc', rfl⟩ := inR_of hi (by omega)
      have c5 : c' < 5 := by omega
      refine z_aload_n 1 dX7_colour_0 rfl rfl ?_
      refine z_iload_n 2 dX7_colour_1 rfl rfl ?_
      refine y_cVs 5 _ (q_isColour (o := 0) hc ok) sh158 cv_X7_176 ⟨by decide, by decide, rfl, rfl⟩ (Nat.le_of_ble_eq_true rfl) dX7_colour_2 rfl rfl ?_
      refine z_if_eq_f 8 20 dX7_colour_5 rfl (by rw [bi_t hi]; decide) rfl ?_
      refine z_iload_n 9 dX7_colour_8 rfl rfl ?_
      refine z_i2l 10 dX7_colour_9 rfl ?_
      refine z_lconst 11 dX7_colour_10 vl0 rfl ?_
      refine z_ldc2 14 kc_X7_180 dX7_colour_11 rfl ?_
      refine y_cSs 17 (c_in) cs_X7_55 ⟨by decide, by decide, rfl, rfl⟩ (Nat.le_of_ble_eq_true rfl) dX7_colour_14 rfl rfl ?_
      rw [ew]
      refine z_if_ne_t 22 dX7_colour_17 rfl (by rw [bi_t hw]; decide) ?_
      refine z_iconst 23 dX7_colour_22 vi0 rfl ?_
      refine z_istore_n 24 [_, _, _, _, _] dX7_colour_23 (by decide) rfl rfl rfl ?_
      refine z_iconst 25 dX7_colour_24 vi0 rfl ?_
      refine z_istore 27 [_, _, _, _, _] dX7_colour_25 (by decide) rfl rfl rfl ?_
      refine zup (P := fun i => Y G X mX7_colour σ 27 [some (.ref (zGa G 158)), some (.int (nI c')), some (.int (nI k)), some (.int (nI (sumN (fun p => N (33 + 5 * p + c')) i))), some (.int (nI i))] []) (N 57) ?_ (fun i hi ih => ?_) 0 (Nat.zero_le _)
      · skip
        refine z_iload 29 dX7_colour_27 rfl rfl ?_
        refine z_aload_n 30 dX7_colour_29 rfl rfl ?_
        refine q_get 33 hc rfl (by decide) fl_X7_145 dX7_colour_30 rfl ?_
        refine z_icmp_ge_t 59 dX7_colour_33 rfl (Int32.le_refl _) ?_
        refine z_iload_n 60 dX7_colour_59 rfl rfl ?_
        refine z_iconst 61 dX7_colour_60 vi5 rfl ?_
        refine z_icmp_ge 77 64 dX7_colour_61 rfl rfl (fun h61 => ?_) (fun h61 => ?_)
        · skip
          have h5 : 5 ≤ k := (nI_leI (a := 5) (by decide) (by omega)).mp h61
          refine z_iload_n 78 dX7_colour_77 rfl rfl ?_
          refine z_iconst 79 dX7_colour_78 vi5 rfl ?_
          refine z_icmp_ne 91 82 dX7_colour_79 rfl rfl (fun h79 => ?_) (fun h79 => ?_)
          · skip
            have h6 : k = 6 := by
                have : k ≠ 5 := fun e => h79 (by rw [e]; rfl)
                omega
            refine z_iload_n 92 dX7_colour_91 rfl rfl ?_
            refine z_iret hq rfl dX7_colour_92 rfl rfl ?_
            exact ⟨by rw [colour_v b5 hc' hk, h6]; rfl, rfl⟩
          · skip
            have h6 : k = 5 := nI_eqL (b := 5) (by omega) (by decide) h79
            refine z_aload_n 83 dX7_colour_82 rfl rfl ?_
            refine z_iconst 84 dX7_colour_83 vi0 rfl ?_
            refine z_iload_n 85 dX7_colour_84 rfl rfl ?_
            refine y_cVs 88 _ (q_rentOn (o := 0) hc (by decide) ok c5) sh158 cv_X7_157 ⟨by decide, by decide, rfl, rfl⟩ (Nat.le_of_ble_eq_true rfl) dX7_colour_85 rfl rfl ?_
            refine z_goto 92 dX7_colour_88 rfl ?_
            refine z_iret hq rfl dX7_colour_92 rfl rfl ?_
            exact ⟨by rw [colour_v b5 hc' hk, h6]; rfl, rfl⟩
        · skip
          have h5 : k < 5 := by
              rcases Nat.lt_or_ge k 5 with q | q
              · exact q
              · exact absurd (nI_le q (by omega)) h61
          refine z_aload_n 65 dX7_colour_64 rfl rfl ?_
          refine y_getr 68 _ sh158 rfl fl_X7_7 dX7_colour_65 rfl ?_
          refine z_iconst 69 dX7_colour_68 vi5 rfl ?_
          refine z_iload_n 70 dX7_colour_69 rfl rfl ?_
          refine z_imulN 71 (show (5 : Int32) = nI 5 from rfl) rfl dX7_colour_70 rfl ?_
          refine z_iload_n 72 dX7_colour_71 rfl rfl ?_
          refine z_iaddN 73 rfl rfl dX7_colour_72 rfl ?_
          refine q_ld 74 (5 * k + c') hc rfl (by omega) (by omega) (by omega) dX7_colour_73 rfl ?_
          refine z_goto 92 dX7_colour_74 rfl ?_
          refine z_iret hq rfl dX7_colour_92 rfl rfl ?_
          exact ⟨by rw [colour_v b5 hc' hk, colV, if_pos h5], rfl⟩
      · skip
        refine z_iload 29 dX7_colour_27 rfl rfl ?_
        refine z_aload_n 30 dX7_colour_29 rfl rfl ?_
        refine q_get 33 hc rfl (by decide) fl_X7_145 dX7_colour_30 rfl ?_
        refine z_icmp_ge_f 36 59 dX7_colour_33 rfl (nI_ge hi (by omega)) rfl ?_
        refine z_iload_n 37 dX7_colour_36 rfl rfl ?_
        refine z_aload_n 38 dX7_colour_37 rfl rfl ?_
        refine y_getr 41 _ sh158 rfl fl_X7_7 dX7_colour_38 rfl ?_
        refine z_bipush 43 dX7_colour_41 vb33 rfl ?_
        refine z_iconst 44 dX7_colour_43 vi5 rfl ?_
        refine z_iload 46 dX7_colour_44 rfl rfl ?_
        refine z_imulN 47 (show (5 : Int32) = nI 5 from rfl) rfl dX7_colour_46 rfl ?_
        refine z_iaddN 48 (show (33 : Int32) = nI 33 from rfl) rfl dX7_colour_47 rfl ?_
        refine z_iload_n 49 dX7_colour_48 rfl rfl ?_
        refine z_iaddN 50 rfl rfl dX7_colour_49 rfl ?_
        refine q_ld 51 (33 + 5 * i + c') hc rfl (by omega) (by omega) (by omega) dX7_colour_50 rfl ?_
        refine z_iaddN 52 rfl rfl dX7_colour_51 rfl ?_
        refine z_istore_n 53 [_, _, _, _, _] dX7_colour_52 (by decide) rfl rfl rfl ?_
        refine z_iinc 56 [_, _, _, _, _] dX7_colour_53 rfl (show _ + _ = nI (_ + 1) from nI_1 _) (by decide) rfl rfl rfl ?_
        refine z_goto 27 dX7_colour_56 rfl ?_
        exact ih
    · skip
      refine z_aload_n 1 dX7_colour_0 rfl rfl ?_
      refine z_iload_n 2 dX7_colour_1 rfl rfl ?_
      refine y_cVs 5 _ (q_isColour (o := 0) hc ok) sh158 cv_X7_176 ⟨by decide, by decide, rfl, rfl⟩ (Nat.le_of_ble_eq_true rfl) dX7_colour_2 rfl rfl ?_
      refine z_if_eq_f 8 20 dX7_colour_5 rfl (by rw [bi_t hi]; decide) rfl ?_
      refine z_iload_n 9 dX7_colour_8 rfl rfl ?_
      refine z_i2l 10 dX7_colour_9 rfl ?_
      refine z_lconst 11 dX7_colour_10 vl0 rfl ?_
      refine z_ldc2 14 kc_X7_180 dX7_colour_11 rfl ?_
      refine y_cSs 17 (c_in) cs_X7_55 ⟨by decide, by decide, rfl, rfl⟩ (Nat.le_of_ble_eq_true rfl) dX7_colour_14 rfl rfl ?_
      rw [ew]
      refine z_if_ne_f 20 22 dX7_colour_17 rfl (bi_f hw) rfl ?_
      refine z_iconst 21 dX7_colour_20 vim1 rfl ?_
      refine z_iret hq rfl dX7_colour_21 rfl rfl ?_
      exact ⟨by rw [vColour, if_neg (fun h => hw h.2)], rfl⟩
  · skip
    refine z_aload_n 1 dX7_colour_0 rfl rfl ?_
    refine z_iload_n 2 dX7_colour_1 rfl rfl ?_
    refine y_cVs 5 _ (q_isColour (o := 0) hc ok) sh158 cv_X7_176 ⟨by decide, by decide, rfl, rfl⟩ (Nat.le_of_ble_eq_true rfl) dX7_colour_2 rfl rfl ?_
    refine z_if_eq_t 20 dX7_colour_5 rfl (bi_f hi) ?_
    refine z_iconst 21 dX7_colour_20 vim1 rfl ?_
    refine z_iret hq rfl dX7_colour_21 rfl rfl ?_
    exact ⟨by rw [vColour, if_neg (fun h => hi h.1)], rfl⟩
def oneV (N : Pg) (p w : Nat) : Nat := if w < 2 then N (25 + 4 * w + p) else if w = 2 then hueQ N p else if w = 3 then heldQ N p else rentQ N p
def vOne (N : Pg) (p w : Int32) : Int32 := if inR p (N 57) ∧ inR w 5 then nI (oneV N (nN p) (nN w)) else -1
theorem one_v {N : Pg} {p w : Nat} (hn : N 57 ≤ 4) (hp : p < N 57) (h : w < 5) : vOne N (nI p) (nI w) = nI (oneV N p w) := by
  rw [vOne, if_pos ⟨(inR_nI (by omega)).mpr hp, (inR_nI (by omega)).mpr h⟩, nN_nI (by omega), nN_nI (by omega)]
set_option maxRecDepth 100000 in
theorem x_one {l : Launch} {G : zG} {σ : Nat → Int32} {N : Pg} {p w : Int32} (hc : hdc σ 1 N) (ok : okQ N) : zMet l yX6_one mX6_one [.ref (zGa G 0), .int p, .int w] G (zW G σ) (zFn G (some (.int (vOne N p w))) σ) := by
  have b5 := ok.nc
  have b4 := ok.np
  refine zMet.of (by decide) rfl (Nat.le_of_ble_eq_true rfl) (Or.inr rfl) fun X hX hq => ?_
  subst hX
  show Y G X mX6_one σ 0 [some (.ref (zGa G 0)), some (.int p), some (.int w)] []
  by_cases hi : inR p (N 57)
  · by_cases hw : inR w 5
    · obtain ⟨k, hk, rfl⟩ := inR_of hw (by decide)
      obtain ⟨p', hp', rfl⟩ := inR_of hi (by omega)
      have p4 : p' < 4 := by omega
      rcases (show k = 0 ∨ k = 1 ∨ k = 2 ∨ k = 3 ∨ k = 4 by omega) with e | e | e | e | e
      all_goals subst e
      · skip
        refine z_aload_n 1 dX6_one_0 rfl rfl ?_
        refine y_getr 4 _ sh0 rfl fl_X6_10 dX6_one_1 rfl ?_
        refine z_iload_n 5 dX6_one_4 rfl rfl ?_
        refine y_cVs 8 _ (n_hasOne bkm1 hc ok) (bk0 bkm1) cv_X6_141 ⟨by decide, by decide, rfl, rfl⟩ (Nat.le_of_ble_eq_true rfl) dX6_one_5 rfl rfl ?_
        refine z_if_ne_t 13 dX6_one_8 rfl (by rw [bi_t hi]; decide) ?_
        refine z_iload_n 14 dX6_one_13 rfl rfl ?_
        refine z_tsIn 48 dX6_one_14 (by decide) (by decide) (by rfl) rfl ?_
        refine z_aload_n 49 dX6_one_48 rfl rfl ?_
        refine y_getr 52 _ sh0 rfl fl_X6_10 dX6_one_49 rfl ?_
        refine y_getr 55 _ (bk0 bkm1) rfl fl_X6_144 dX6_one_52 rfl ?_
        refine z_iload_n 56 dX6_one_55 rfl rfl ?_
        refine k_ld 57 _ hc (bk4 bkm1) rfl (by omega) (by decide) dX6_one_56 rfl ?_
        refine z_iret hq rfl dX6_one_57 rfl rfl ?_
        exact ⟨by rw [one_v b4 hp' (by decide)]; rfl, rfl⟩
      · skip
        refine z_aload_n 1 dX6_one_0 rfl rfl ?_
        refine y_getr 4 _ sh0 rfl fl_X6_10 dX6_one_1 rfl ?_
        refine z_iload_n 5 dX6_one_4 rfl rfl ?_
        refine y_cVs 8 _ (n_hasOne bkm1 hc ok) (bk0 bkm1) cv_X6_141 ⟨by decide, by decide, rfl, rfl⟩ (Nat.le_of_ble_eq_true rfl) dX6_one_5 rfl rfl ?_
        refine z_if_ne_t 13 dX6_one_8 rfl (by rw [bi_t hi]; decide) ?_
        refine z_iload_n 14 dX6_one_13 rfl rfl ?_
        refine z_tsIn 58 dX6_one_14 (by decide) (by decide) (by rfl) rfl ?_
        refine z_aload_n 59 dX6_one_58 rfl rfl ?_
        refine y_getr 62 _ sh0 rfl fl_X6_10 dX6_one_59 rfl ?_
        refine y_getr 65 _ (bk0 bkm1) rfl fl_X6_147 dX6_one_62 rfl ?_
        refine z_iload_n 66 dX6_one_65 rfl rfl ?_
        refine k_ld 67 _ hc (bk5 bkm1) rfl (by omega) (by decide) dX6_one_66 rfl ?_
        refine z_iret hq rfl dX6_one_67 rfl rfl ?_
        exact ⟨by rw [one_v b4 hp' (by decide)]; rfl, rfl⟩
      · skip
        refine z_aload_n 1 dX6_one_0 rfl rfl ?_
        refine y_getr 4 _ sh0 rfl fl_X6_10 dX6_one_1 rfl ?_
        refine z_iload_n 5 dX6_one_4 rfl rfl ?_
        refine y_cVs 8 _ (n_hasOne bkm1 hc ok) (bk0 bkm1) cv_X6_141 ⟨by decide, by decide, rfl, rfl⟩ (Nat.le_of_ble_eq_true rfl) dX6_one_5 rfl rfl ?_
        refine z_if_ne_t 13 dX6_one_8 rfl (by rw [bi_t hi]; decide) ?_
        refine z_iload_n 14 dX6_one_13 rfl rfl ?_
        refine z_tsIn 68 dX6_one_14 (by decide) (by decide) (by rfl) rfl ?_
        refine z_aload_n 69 dX6_one_68 rfl rfl ?_
        refine y_getr 72 _ sh0 rfl fl_X6_10 dX6_one_69 rfl ?_
        refine z_iload_n 73 dX6_one_72 rfl rfl ?_
        refine y_cVs 76 _ (n_hueOfOne bkm1 hc ok p4) (bk0 bkm1) cv_X6_150 ⟨by decide, by decide, rfl, rfl⟩ (Nat.le_of_ble_eq_true rfl) dX6_one_73 rfl rfl ?_
        refine z_iret hq rfl dX6_one_76 rfl rfl ?_
        exact ⟨by rw [one_v b4 hp' (by decide)]; rfl, rfl⟩
      · skip
        refine z_aload_n 1 dX6_one_0 rfl rfl ?_
        refine y_getr 4 _ sh0 rfl fl_X6_10 dX6_one_1 rfl ?_
        refine z_iload_n 5 dX6_one_4 rfl rfl ?_
        refine y_cVs 8 _ (n_hasOne bkm1 hc ok) (bk0 bkm1) cv_X6_141 ⟨by decide, by decide, rfl, rfl⟩ (Nat.le_of_ble_eq_true rfl) dX6_one_5 rfl rfl ?_
        refine z_if_ne_t 13 dX6_one_8 rfl (by rw [bi_t hi]; decide) ?_
        refine z_iload_n 14 dX6_one_13 rfl rfl ?_
        refine z_tsIn 77 dX6_one_14 (by decide) (by decide) (by rfl) rfl ?_
        refine z_aload_n 78 dX6_one_77 rfl rfl ?_
        refine y_getr 81 _ sh0 rfl fl_X6_10 dX6_one_78 rfl ?_
        refine z_iload_n 82 dX6_one_81 rfl rfl ?_
        refine y_cVs 85 _ (n_heldBy bkm1 hc ok p4) (bk0 bkm1) cv_X6_153 ⟨by decide, by decide, rfl, rfl⟩ (Nat.le_of_ble_eq_true rfl) dX6_one_82 rfl rfl ?_
        refine z_iret hq rfl dX6_one_85 rfl rfl ?_
        exact ⟨by rw [one_v b4 hp' (by decide)]; rfl, rfl⟩
      · skip
        refine z_aload_n 1 dX6_one_0 rfl rfl ?_
        refine y_getr 4 _ sh0 rfl fl_X6_10 dX6_one_1 rfl ?_
        refine z_iload_n 5 dX6_one_4 rfl rfl ?_
        refine y_cVs 8 _ (n_hasOne bkm1 hc ok) (bk0 bkm1) cv_X6_141 ⟨by decide, by decide, rfl, rfl⟩ (Nat.le_of_ble_eq_true rfl) dX6_one_5 rfl rfl ?_
        refine z_if_ne_t 13 dX6_one_8 rfl (by rw [bi_t hi]; decide) ?_
        refine z_iload_n 14 dX6_one_13 rfl rfl ?_
        refine z_tsIn 86 dX6_one_14 (by decide) (by decide) (by rfl) rfl ?_
        refine z_aload_n 87 dX6_one_86 rfl rfl ?_
        refine y_getr 90 _ sh0 rfl fl_X6_10 dX6_one_87 rfl ?_
        refine z_aload_n 91 dX6_one_90 rfl rfl ?_
        refine y_getr 94 _ sh0 rfl fl_X6_10 dX6_one_91 rfl ?_
        refine y_getr 97 _ (bk0 bkm1) rfl fl_X6_156 dX6_one_94 rfl ?_
        refine z_iload_n 98 dX6_one_97 rfl rfl ?_
        refine z_iconst 99 dX6_one_98 vi5 rfl ?_
        refine z_imulN 100 rfl (show (5 : Int32) = nI 5 from rfl) dX6_one_99 rfl ?_
        refine y_cVs 103 _ (n_rentOfDrops (fun c => N (33 + 5 * p' + c)) bkm1 hc ok (bk6 bkm1) (by omega) (by omega) (fun i hi => by rw [show 400 * 1 + 33 + (p' * 5 + i) = 400 * 1 + (33 + 5 * p' + i) by omega]; exact hc _ (by omega))) (bk0 bkm1) cv_X6_159 ⟨by decide, by decide, rfl, rfl⟩ (Nat.le_of_ble_eq_true rfl) dX6_one_100 rfl rfl ?_
        refine z_iret hq rfl dX6_one_103 rfl rfl ?_
        exact ⟨by rw [one_v b4 hp' (by decide)]; rfl, rfl⟩
    · skip
      refine z_aload_n 1 dX6_one_0 rfl rfl ?_
      refine y_getr 4 _ sh0 rfl fl_X6_10 dX6_one_1 rfl ?_
      refine z_iload_n 5 dX6_one_4 rfl rfl ?_
      refine y_cVs 8 _ (n_hasOne bkm1 hc ok) (bk0 bkm1) cv_X6_141 ⟨by decide, by decide, rfl, rfl⟩ (Nat.le_of_ble_eq_true rfl) dX6_one_5 rfl rfl ?_
      refine z_if_ne_t 13 dX6_one_8 rfl (by rw [bi_t hi]; decide) ?_
      refine z_iload_n 14 dX6_one_13 rfl rfl ?_
      refine z_tsOut 104 dX6_one_14 (tsout hw) rfl ?_
      refine z_iconst 105 dX6_one_104 vim1 rfl ?_
      refine z_iret hq rfl dX6_one_105 rfl rfl ?_
      exact ⟨by rw [vOne, if_neg (fun h => hw h.2)], rfl⟩
  · skip
    refine z_aload_n 1 dX6_one_0 rfl rfl ?_
    refine y_getr 4 _ sh0 rfl fl_X6_10 dX6_one_1 rfl ?_
    refine z_iload_n 5 dX6_one_4 rfl rfl ?_
    refine y_cVs 8 _ (n_hasOne bkm1 hc ok) (bk0 bkm1) cv_X6_141 ⟨by decide, by decide, rfl, rfl⟩ (Nat.le_of_ble_eq_true rfl) dX6_one_5 rfl rfl ?_
    refine z_if_ne_f 11 13 dX6_one_8 rfl (by rw [bi_f hi]) rfl ?_
    refine z_iconst 12 dX6_one_11 vim1 rfl ?_
    refine z_iret hq rfl dX6_one_12 rfl rfl ?_
    exact ⟨by rw [vOne, if_neg (fun h => hi h.1)], rfl⟩
set_option maxRecDepth 100000 in
theorem r_one {l : Launch} {G : zG} {σ : Nat → Int32} {N : Pg} {p w : Int32} (hc : hdk σ 0 N) (ok : okQ N) : zMet l yX7_one mX7_one [.ref (zGa G 158), .int p, .int w] G (zW G σ) (zFn G (some (.int (vOne N p w))) σ) := by
  have b5 := ok.nc
  have b4 := ok.np
  have ew : bi ((0 : Int64) ≤ w.toInt64 ∧ w.toInt64 ≤ 4) = bi (inR w 5) := bi_in7 (n := 4) (by decide)
  refine zMet.of (by decide) rfl (Nat.le_of_ble_eq_true rfl) (Or.inr rfl) fun X hX hq => ?_
  subst hX
  show Y G X mX7_one σ 0 [some (.ref (zGa G 158)), some (.int p), some (.int w), none, none] []
  by_cases hi : inR p (N 57)
  · by_cases hw : inR w 5
    · obtain ⟨k, hk, rfl⟩ := inR_of hw (by decide)
      obtain ⟨p', hp', rfl⟩ := inR_of hi (by omega)
      have p4 : p' < 4 := by omega
      refine z_aload_n 1 dX7_one_0 rfl rfl ?_
      refine z_iload_n 2 dX7_one_1 rfl rfl ?_
      refine y_cVs 5 _ (q_isOne (o := 0) hc ok) sh158 cv_X7_182 ⟨by decide, by decide, rfl, rfl⟩ (Nat.le_of_ble_eq_true rfl) dX7_one_2 rfl rfl ?_
      refine z_if_eq_f 8 20 dX7_one_5 rfl (by rw [bi_t hi]; decide) rfl ?_
      refine z_iload_n 9 dX7_one_8 rfl rfl ?_
      refine z_i2l 10 dX7_one_9 rfl ?_
      refine z_lconst 11 dX7_one_10 vl0 rfl ?_
      refine z_ldc2 14 kc_X7_110 dX7_one_11 rfl ?_
      refine y_cSs 17 (c_in) cs_X7_55 ⟨by decide, by decide, rfl, rfl⟩ (Nat.le_of_ble_eq_true rfl) dX7_one_14 rfl rfl ?_
      rw [ew]
      refine z_if_ne_t 22 dX7_one_17 rfl (by rw [bi_t hw]; decide) ?_
      refine z_iconst 23 dX7_one_22 vi0 rfl ?_
      refine z_istore_n 24 [_, _, _, _, _] dX7_one_23 (by decide) rfl rfl rfl ?_
      refine z_iconst 25 dX7_one_24 vi0 rfl ?_
      refine z_istore 27 [_, _, _, _, _] dX7_one_25 (by decide) rfl rfl rfl ?_
      refine zup (P := fun i => Y G X mX7_one σ 27 [some (.ref (zGa G 158)), some (.int (nI p')), some (.int (nI k)), some (.int (nI (sumN (fun c => N (33 + 5 * p' + c) * rentK (N c)) i))), some (.int (nI i))] []) (N 56) ?_ (fun i hi ih => ?_) 0 (Nat.zero_le _)
      · skip
        refine z_iload 29 dX7_one_27 rfl rfl ?_
        refine z_aload_n 30 dX7_one_29 rfl rfl ?_
        refine q_get 33 hc rfl (by decide) fl_X7_142 dX7_one_30 rfl ?_
        refine z_icmp_ge_t 67 dX7_one_33 rfl (Int32.le_refl _) ?_
        refine z_iload_n 68 dX7_one_67 rfl rfl ?_
        refine z_iconst 69 dX7_one_68 vi2 rfl ?_
        refine z_icmp_ge 88 72 dX7_one_69 rfl rfl (fun h69 => ?_) (fun h69 => ?_)
        · skip
          have h5 : 2 ≤ k := (nI_leI (a := 2) (by decide) (by omega)).mp h69
          refine z_iload_n 89 dX7_one_88 rfl rfl ?_
          refine z_iconst 90 dX7_one_89 vi2 rfl ?_
          refine z_icmp_ne 102 93 dX7_one_90 rfl rfl (fun h90 => ?_) (fun h90 => ?_)
          · skip
            have h6 : k ≠ 2 := fun e => h90 (by rw [e]; rfl)
            refine z_iload_n 103 dX7_one_102 rfl rfl ?_
            refine z_iconst 104 dX7_one_103 vi3 rfl ?_
            refine z_icmp_ne 116 107 dX7_one_104 rfl rfl (fun h104 => ?_) (fun h104 => ?_)
            · skip
              have h7 : k = 4 := by
                  have : k ≠ 3 := fun e => h104 (by rw [e]; rfl)
                  omega
              refine z_iload_n 117 dX7_one_116 rfl rfl ?_
              refine z_iret hq rfl dX7_one_117 rfl rfl ?_
              exact ⟨by rw [one_v b4 hp' hk, h7]; rfl, rfl⟩
            · skip
              have h7 : k = 3 := nI_eqL (b := 3) (by omega) (by decide) h104
              refine z_aload_n 108 dX7_one_107 rfl rfl ?_
              refine z_iconst 109 dX7_one_108 vi0 rfl ?_
              refine z_iload_n 110 dX7_one_109 rfl rfl ?_
              refine y_cVs 113 _ (q_heldOn (o := 0) hc (by decide) ok p4) sh158 cv_X7_151 ⟨by decide, by decide, rfl, rfl⟩ (Nat.le_of_ble_eq_true rfl) dX7_one_110 rfl rfl ?_
              refine z_goto 117 dX7_one_113 rfl ?_
              refine z_iret hq rfl dX7_one_117 rfl rfl ?_
              exact ⟨by rw [one_v b4 hp' hk, h7]; rfl, rfl⟩
          · skip
            have h6 : k = 2 := nI_eqL (b := 2) (by omega) (by decide) h90
            refine z_aload_n 94 dX7_one_93 rfl rfl ?_
            refine z_iconst 95 dX7_one_94 vi0 rfl ?_
            refine z_iload_n 96 dX7_one_95 rfl rfl ?_
            refine y_cVs 99 _ (q_hueOn (o := 0) hc (by decide) ok p4) sh158 cv_X7_185 ⟨by decide, by decide, rfl, rfl⟩ (Nat.le_of_ble_eq_true rfl) dX7_one_96 rfl rfl ?_
            refine z_goto 117 dX7_one_99 rfl ?_
            refine z_iret hq rfl dX7_one_117 rfl rfl ?_
            exact ⟨by rw [one_v b4 hp' hk, h6]; rfl, rfl⟩
        · skip
          have h5 : k < 2 := by
              rcases Nat.lt_or_ge k 2 with q | q
              · exact q
              · exact absurd (nI_le q (by omega)) h69
          refine z_aload_n 73 dX7_one_72 rfl rfl ?_
          refine y_getr 76 _ sh158 rfl fl_X7_7 dX7_one_73 rfl ?_
          refine z_bipush 78 dX7_one_76 vb25 rfl ?_
          refine z_iconst 79 dX7_one_78 vi4 rfl ?_
          refine z_iload_n 80 dX7_one_79 rfl rfl ?_
          refine z_imulN 81 (show (4 : Int32) = nI 4 from rfl) rfl dX7_one_80 rfl ?_
          refine z_iaddN 82 (show (25 : Int32) = nI 25 from rfl) rfl dX7_one_81 rfl ?_
          refine z_iload_n 83 dX7_one_82 rfl rfl ?_
          refine z_iaddN 84 rfl rfl dX7_one_83 rfl ?_
          refine q_ld 85 (25 + 4 * k + p') hc rfl (by omega) (by omega) (by omega) dX7_one_84 rfl ?_
          refine z_goto 117 dX7_one_85 rfl ?_
          refine z_iret hq rfl dX7_one_117 rfl rfl ?_
          exact ⟨by rw [one_v b4 hp' hk, oneV, if_pos h5], rfl⟩
      · skip
        refine z_iload 29 dX7_one_27 rfl rfl ?_
        refine z_aload_n 30 dX7_one_29 rfl rfl ?_
        refine q_get 33 hc rfl (by decide) fl_X7_142 dX7_one_30 rfl ?_
        refine z_icmp_ge_f 36 67 dX7_one_33 rfl (nI_ge hi (by omega)) rfl ?_
        refine z_iload_n 37 dX7_one_36 rfl rfl ?_
        refine z_aload_n 38 dX7_one_37 rfl rfl ?_
        refine z_iconst 39 dX7_one_38 vi0 rfl ?_
        refine z_iload 41 dX7_one_39 rfl rfl ?_
        refine y_cVs 44 _ (q_rentOn (o := 0) hc (by decide) ok (by omega)) sh158 cv_X7_157 ⟨by decide, by decide, rfl, rfl⟩ (Nat.le_of_ble_eq_true rfl) dX7_one_41 rfl rfl ?_
        refine z_aload_n 45 dX7_one_44 rfl rfl ?_
        refine y_getr 48 _ sh158 rfl fl_X7_7 dX7_one_45 rfl ?_
        refine z_bipush 50 dX7_one_48 vb33 rfl ?_
        refine z_iconst 51 dX7_one_50 vi5 rfl ?_
        refine z_iload_n 52 dX7_one_51 rfl rfl ?_
        refine z_imulN 53 (show (5 : Int32) = nI 5 from rfl) rfl dX7_one_52 rfl ?_
        refine z_iaddN 54 (show (33 : Int32) = nI 33 from rfl) rfl dX7_one_53 rfl ?_
        refine z_iload 56 dX7_one_54 rfl rfl ?_
        refine z_iaddN 57 rfl rfl dX7_one_56 rfl ?_
        refine q_ld 58 (33 + 5 * p' + i) hc rfl (by omega) (by omega) (by omega) dX7_one_57 rfl ?_
        refine z_imulN 59 rfl rfl dX7_one_58 rfl ?_
        rw [Nat.mul_comm (rentK (N i))]
        refine z_iaddN 60 rfl rfl dX7_one_59 rfl ?_
        refine z_istore_n 61 [_, _, _, _, _] dX7_one_60 (by decide) rfl rfl rfl ?_
        refine z_iinc 64 [_, _, _, _, _] dX7_one_61 rfl (show _ + _ = nI (_ + 1) from nI_1 _) (by decide) rfl rfl rfl ?_
        refine z_goto 27 dX7_one_64 rfl ?_
        exact ih
    · skip
      refine z_aload_n 1 dX7_one_0 rfl rfl ?_
      refine z_iload_n 2 dX7_one_1 rfl rfl ?_
      refine y_cVs 5 _ (q_isOne (o := 0) hc ok) sh158 cv_X7_182 ⟨by decide, by decide, rfl, rfl⟩ (Nat.le_of_ble_eq_true rfl) dX7_one_2 rfl rfl ?_
      refine z_if_eq_f 8 20 dX7_one_5 rfl (by rw [bi_t hi]; decide) rfl ?_
      refine z_iload_n 9 dX7_one_8 rfl rfl ?_
      refine z_i2l 10 dX7_one_9 rfl ?_
      refine z_lconst 11 dX7_one_10 vl0 rfl ?_
      refine z_ldc2 14 kc_X7_110 dX7_one_11 rfl ?_
      refine y_cSs 17 (c_in) cs_X7_55 ⟨by decide, by decide, rfl, rfl⟩ (Nat.le_of_ble_eq_true rfl) dX7_one_14 rfl rfl ?_
      rw [ew]
      refine z_if_ne_f 20 22 dX7_one_17 rfl (bi_f hw) rfl ?_
      refine z_iconst 21 dX7_one_20 vim1 rfl ?_
      refine z_iret hq rfl dX7_one_21 rfl rfl ?_
      exact ⟨by rw [vOne, if_neg (fun h => hw h.2)], rfl⟩
  · skip
    refine z_aload_n 1 dX7_one_0 rfl rfl ?_
    refine z_iload_n 2 dX7_one_1 rfl rfl ?_
    refine y_cVs 5 _ (q_isOne (o := 0) hc ok) sh158 cv_X7_182 ⟨by decide, by decide, rfl, rfl⟩ (Nat.le_of_ble_eq_true rfl) dX7_one_2 rfl rfl ?_
    refine z_if_eq_t 20 dX7_one_5 rfl (bi_f hi) ?_
    refine z_iconst 21 dX7_one_20 vim1 rfl ?_
    refine z_iret hq rfl dX7_one_21 rfl rfl ?_
    exact ⟨by rw [vOne, if_neg (fun h => hi h.1)], rfl⟩
def vHolds (N : Pg) (p c : Int32) : Int32 := if inR p (N 57) ∧ inR c (N 56) then nI (N (33 + 5 * nN p + nN c)) else -1
set_option maxRecDepth 100000 in
theorem x_holds {l : Launch} {G : zG} {σ : Nat → Int32} {N : Pg} {p c : Int32} (hc : hdc σ 1 N) (ok : okQ N) : zMet l yX6_holds mX6_holds [.ref (zGa G 0), .int p, .int c] G (zW G σ) (zFn G (some (.int (vHolds N p c))) σ) := by
  have b5 := ok.nc
  have b4 := ok.np
  refine zMet.of (by decide) rfl (Nat.le_of_ble_eq_true rfl) (Or.inr rfl) fun X hX hq => ?_
  subst hX
  show Y G X mX6_holds σ 0 [some (.ref (zGa G 0)), some (.int p), some (.int c)] []
  refine z_aload_n 1 dX6_holds_0 rfl rfl ?_
  refine y_getr 4 _ sh0 rfl fl_X6_10 dX6_holds_1 rfl ?_
  refine z_iload_n 5 dX6_holds_4 rfl rfl ?_
  refine y_cVs 8 _ (n_hasOne bkm1 hc ok) (bk0 bkm1) cv_X6_141 ⟨by decide, by decide, rfl, rfl⟩ (Nat.le_of_ble_eq_true rfl) dX6_holds_5 rfl rfl ?_
  refine z_if_eq 22 11 dX6_holds_8 rfl rfl (fun h8 => ?_) (fun h8 => ?_)
  · skip
    have hno : ¬ (inR p (N 57) ∧ inR c (N 56)) := fun h => bi0.mp h8 h.1
    refine z_iconst 23 dX6_holds_22 vim1 rfl ?_
    refine z_iret hq rfl dX6_holds_23 rfl rfl ?_
    exact ⟨by rw [vHolds, if_neg hno], rfl⟩
  · skip
    refine z_aload_n 12 dX6_holds_11 rfl rfl ?_
    refine y_getr 15 _ sh0 rfl fl_X6_10 dX6_holds_12 rfl ?_
    refine z_iload_n 16 dX6_holds_15 rfl rfl ?_
    refine y_cVs 19 _ (n_hasColour bkm1 hc ok) (bk0 bkm1) cv_X6_121 ⟨by decide, by decide, rfl, rfl⟩ (Nat.le_of_ble_eq_true rfl) dX6_holds_16 rfl rfl ?_
    refine z_if_ne 24 22 dX6_holds_19 rfl rfl (fun h19 => ?_) (fun h19 => ?_)
    · skip
      obtain ⟨p', hp', rfl⟩ := inR_of (bin0.mp h8) (by omega)
      obtain ⟨c', hc', rfl⟩ := inR_of (bin0.mp h19) (by omega)
      refine z_aload_n 25 dX6_holds_24 rfl rfl ?_
      refine y_getr 28 _ sh0 rfl fl_X6_10 dX6_holds_25 rfl ?_
      refine y_getr 31 _ (bk0 bkm1) rfl fl_X6_156 dX6_holds_28 rfl ?_
      refine z_iload_n 32 dX6_holds_31 rfl rfl ?_
      refine z_iconst 33 dX6_holds_32 vi5 rfl ?_
      refine z_imulN 34 rfl (show (5 : Int32) = nI 5 from rfl) dX6_holds_33 rfl ?_
      refine z_iload_n 35 dX6_holds_34 rfl rfl ?_
      refine z_iaddN 36 rfl rfl dX6_holds_35 rfl ?_
      refine k_ld 37 _ hc (bk6 bkm1) rfl (by omega) (by decide) dX6_holds_36 rfl ?_
      refine z_iret hq rfl dX6_holds_37 rfl rfl ?_
      exact ⟨by rw [vHolds, if_pos ⟨bin0.mp h8, bin0.mp h19⟩, nN_nI (by omega), nN_nI (by omega), show 33 + (p' * 5 + c') = 33 + 5 * p' + c' by omega], rfl⟩
    · skip
      have hno : ¬ (inR p (N 57) ∧ inR c (N 56)) := fun h => bi0.mp h19 h.2
      refine z_iconst 23 dX6_holds_22 vim1 rfl ?_
      refine z_iret hq rfl dX6_holds_23 rfl rfl ?_
      exact ⟨by rw [vHolds, if_neg hno], rfl⟩
set_option maxRecDepth 100000 in
theorem r_holds {l : Launch} {G : zG} {σ : Nat → Int32} {N : Pg} {p c : Int32} (hc : hdk σ 0 N) (ok : okQ N) : zMet l yX7_holds mX7_holds [.ref (zGa G 158), .int p, .int c] G (zW G σ) (zFn G (some (.int (vHolds N p c))) σ) := by
  have b5 := ok.nc
  have b4 := ok.np
  refine zMet.of (by decide) rfl (Nat.le_of_ble_eq_true rfl) (Or.inr rfl) fun X hX hq => ?_
  subst hX
  show Y G X mX7_holds σ 0 [some (.ref (zGa G 158)), some (.int p), some (.int c)] []
  refine z_aload_n 1 dX7_holds_0 rfl rfl ?_
  refine z_iload_n 2 dX7_holds_1 rfl rfl ?_
  refine y_cVs 5 _ (q_isOne (o := 0) hc ok) sh158 cv_X7_182 ⟨by decide, by decide, rfl, rfl⟩ (Nat.le_of_ble_eq_true rfl) dX7_holds_2 rfl rfl ?_
  refine z_if_eq 32 8 dX7_holds_5 rfl rfl (fun h5 => ?_) (fun h5 => ?_)
  · skip
    have hno : ¬ (inR p (N 57) ∧ inR c (N 56)) := fun h => bi0.mp h5 h.1
    refine z_iconst 33 dX7_holds_32 vim1 rfl ?_
    refine z_iret hq rfl dX7_holds_33 rfl rfl ?_
    exact ⟨by rw [vHolds, if_neg hno], rfl⟩
  · skip
    refine z_aload_n 9 dX7_holds_8 rfl rfl ?_
    refine z_iload_n 10 dX7_holds_9 rfl rfl ?_
    refine y_cVs 13 _ (q_isColour (o := 0) hc ok) sh158 cv_X7_176 ⟨by decide, by decide, rfl, rfl⟩ (Nat.le_of_ble_eq_true rfl) dX7_holds_10 rfl rfl ?_
    refine z_if_eq 32 16 dX7_holds_13 rfl rfl (fun h13 => ?_) (fun h13 => ?_)
    · skip
      have hno : ¬ (inR p (N 57) ∧ inR c (N 56)) := fun h => bi0.mp h13 h.2
      refine z_iconst 33 dX7_holds_32 vim1 rfl ?_
      refine z_iret hq rfl dX7_holds_33 rfl rfl ?_
      exact ⟨by rw [vHolds, if_neg hno], rfl⟩
    · skip
      obtain ⟨p', hp', rfl⟩ := inR_of (bin0.mp h5) (by omega)
      obtain ⟨c', hc', rfl⟩ := inR_of (bin0.mp h13) (by omega)
      refine z_aload_n 17 dX7_holds_16 rfl rfl ?_
      refine y_getr 20 _ sh158 rfl fl_X7_7 dX7_holds_17 rfl ?_
      refine z_bipush 22 dX7_holds_20 vb33 rfl ?_
      refine z_iconst 23 dX7_holds_22 vi5 rfl ?_
      refine z_iload_n 24 dX7_holds_23 rfl rfl ?_
      refine z_imulN 25 (show (5 : Int32) = nI 5 from rfl) rfl dX7_holds_24 rfl ?_
      refine z_iaddN 26 (show (33 : Int32) = nI 33 from rfl) rfl dX7_holds_25 rfl ?_
      refine z_iload_n 27 dX7_holds_26 rfl rfl ?_
      refine z_iaddN 28 rfl rfl dX7_holds_27 rfl ?_
      refine q_ld 29 (33 + 5 * p' + c') hc rfl (by omega) (by omega) (by omega) dX7_holds_28 rfl ?_
      refine z_goto 33 dX7_holds_29 rfl ?_
      refine z_iret hq rfl dX7_holds_33 rfl rfl ?_
      exact ⟨by rw [vHolds, if_pos ⟨bin0.mp h5, bin0.mp h13⟩, nN_nI (by omega), nN_nI (by omega)], rfl⟩
theorem hueQ_lt {N : Pg} {p : Nat} (ok : okQ N) (hp : p < 4) : hueQ N p < 1000 := by
  simp only [hueQ, hueD]
  have h : ∀ l, l < 3 → sumN (fun c => N (33 + 5 * p + c) * N (5 + 5 * l + c)) (N 56) / sumN (fun c => N (33 + 5 * p + c)) (N 56) ≤ 9 := by
    intro l hl
    have key : ∀ n, n ≤ 5 → sumN (fun c => N (33 + 5 * p + c) * N (5 + 5 * l + c)) n ≤ sumN (fun c => N (33 + 5 * p + c)) n * 9 := by
      intro n
      induction n with
      | zero => intro _; simp [sumN]
      | succ n ih =>
        intro hn
        have h1 := ih (by omega)
        have h2 := ok.2.1 (5 * l + n) (by omega)
        have h3 : N (33 + 5 * p + n) * N (5 + 5 * l + n) ≤ N (33 + 5 * p + n) * 9 := Nat.mul_le_mul_left _ (by rw [Nat.add_assoc 5]; omega)
        simp only [sumN]; rw [Nat.add_mul]; omega
    rcases Nat.eq_zero_or_pos (sumN (fun c => N (33 + 5 * p + c)) (N 56)) with h0 | hpos
    · rw [h0, Nat.div_zero]; omega
    · exact Nat.div_le_of_le_mul (key _ ok.nc)
  have h0 := h 0 (by omega)
  have h1 := h 1 (by omega)
  have h2 := h 2 (by omega)
  omega
def vOff (N : Pg) (p h : Int32) : Int32 := if inR p (N 57) ∧ inR h 1000 then nI (offN (hueQ N (nN p)) (nN h)) else -1
set_option maxRecDepth 100000 in
theorem x_off {l : Launch} {G : zG} {σ : Nat → Int32} {N : Pg} {p h : Int32} (hc : hdc σ 1 N) (ok : okQ N) : zMet l yX6_off mX6_off [.ref (zGa G 0), .int p, .int h] G (zW G σ) (zFn G (some (.int (vOff N p h))) σ) := by
  have b4 := ok.np
  refine zMet.of (by decide) rfl (Nat.le_of_ble_eq_true rfl) (Or.inr rfl) fun X hX hq => ?_
  subst hX
  show Y G X mX6_off σ 0 [some (.ref (zGa G 0)), some (.int p), some (.int h)] []
  refine z_aload_n 1 dX6_off_0 rfl rfl ?_
  refine y_getr 4 _ sh0 rfl fl_X6_10 dX6_off_1 rfl ?_
  refine z_iload_n 5 dX6_off_4 rfl rfl ?_
  refine y_cVs 8 _ (n_hasOne bkm1 hc ok) (bk0 bkm1) cv_X6_141 ⟨by decide, by decide, rfl, rfl⟩ (Nat.le_of_ble_eq_true rfl) dX6_off_5 rfl rfl ?_
  refine z_if_eq 18 11 dX6_off_8 rfl rfl (fun h8 => ?_) (fun h8 => ?_)
  · skip
    have hno : ¬ (inR p (N 57) ∧ inR h 1000) := fun q => bi0.mp h8 q.1
    refine z_iconst 19 dX6_off_18 vim1 rfl ?_
    refine z_iret hq rfl dX6_off_19 rfl rfl ?_
    exact ⟨by rw [vOff, if_neg hno], rfl⟩
  · skip
    refine z_iload_n 12 dX6_off_11 rfl rfl ?_
    refine y_cSs 15 (c_isHue) cs_X6_163 ⟨by decide, by decide, rfl, rfl⟩ (Nat.le_of_ble_eq_true rfl) dX6_off_12 rfl rfl ?_
    refine z_if_ne 20 18 dX6_off_15 rfl rfl (fun h15 => ?_) (fun h15 => ?_)
    · skip
      obtain ⟨p', hp', rfl⟩ := inR_of (bin0.mp h8) (by omega)
      obtain ⟨h', hh', rfl⟩ := inR_of (bin0.mp h15) (by omega)
      have hb := hueQ_lt ok (show p' < 4 by omega)
      refine z_aload_n 21 dX6_off_20 rfl rfl ?_
      refine y_getr 24 _ sh0 rfl fl_X6_10 dX6_off_21 rfl ?_
      refine z_iload_n 25 dX6_off_24 rfl rfl ?_
      refine y_cVs 28 _ (n_hueOfOne bkm1 hc ok (by omega)) (bk0 bkm1) cv_X6_150 ⟨by decide, by decide, rfl, rfl⟩ (Nat.le_of_ble_eq_true rfl) dX6_off_25 rfl rfl ?_
      refine z_iload_n 29 dX6_off_28 rfl rfl ?_
      refine y_cSs 32 (c_offBetween (by omega) (by omega)) cs_X6_166 ⟨by decide, by decide, rfl, rfl⟩ (Nat.le_of_ble_eq_true rfl) dX6_off_29 rfl rfl ?_
      refine z_iret hq rfl dX6_off_32 rfl rfl ?_
      exact ⟨by rw [vOff, if_pos ⟨bin0.mp h8, bin0.mp h15⟩, nN_nI (by omega), nN_nI (by omega)], rfl⟩
    · skip
      have hno : ¬ (inR p (N 57) ∧ inR h 1000) := fun q => bi0.mp h15 q.2
      refine z_iconst 19 dX6_off_18 vim1 rfl ?_
      refine z_iret hq rfl dX6_off_19 rfl rfl ?_
      exact ⟨by rw [vOff, if_neg hno], rfl⟩
set_option maxRecDepth 100000 in
theorem r_off {l : Launch} {G : zG} {σ : Nat → Int32} {N : Pg} {p h : Int32} (hc : hdk σ 0 N) (ok : okQ N) : zMet l yX7_off mX7_off [.ref (zGa G 158), .int p, .int h] G (zW G σ) (zFn G (some (.int (vOff N p h))) σ) := by
  have b4 := ok.np
  have eh : bi ((0 : Int64) ≤ h.toInt64 ∧ h.toInt64 ≤ 999) = bi (inR h 1000) := bi_in7 (n := 999) (by decide)
  refine zMet.of (by decide) rfl (Nat.le_of_ble_eq_true rfl) (Or.inr rfl) fun X hX hq => ?_
  subst hX
  show Y G X mX7_off σ 0 [some (.ref (zGa G 158)), some (.int p), some (.int h)] []
  refine z_aload_n 1 dX7_off_0 rfl rfl ?_
  refine z_iload_n 2 dX7_off_1 rfl rfl ?_
  refine y_cVs 5 _ (q_isOne (o := 0) hc ok) sh158 cv_X7_182 ⟨by decide, by decide, rfl, rfl⟩ (Nat.le_of_ble_eq_true rfl) dX7_off_2 rfl rfl ?_
  refine z_if_eq 33 8 dX7_off_5 rfl rfl (fun h5 => ?_) (fun h5 => ?_)
  · skip
    have hno : ¬ (inR p (N 57) ∧ inR h 1000) := fun q => bi0.mp h5 q.1
    refine z_iconst 34 dX7_off_33 vim1 rfl ?_
    refine z_iret hq rfl dX7_off_34 rfl rfl ?_
    exact ⟨by rw [vOff, if_neg hno], rfl⟩
  · skip
    refine z_iload_n 9 dX7_off_8 rfl rfl ?_
    refine z_i2l 10 dX7_off_9 rfl ?_
    refine z_lconst 11 dX7_off_10 vl0 rfl ?_
    refine z_ldc2 14 kc_X7_188 dX7_off_11 rfl ?_
    refine y_cSs 17 (c_in) cs_X7_55 ⟨by decide, by decide, rfl, rfl⟩ (Nat.le_of_ble_eq_true rfl) dX7_off_14 rfl rfl ?_
    rw [eh]
    refine z_if_eq 33 20 dX7_off_17 rfl rfl (fun h17 => ?_) (fun h17 => ?_)
    · skip
      have hno : ¬ (inR p (N 57) ∧ inR h 1000) := fun q => bi0.mp h17 q.2
      refine z_iconst 34 dX7_off_33 vim1 rfl ?_
      refine z_iret hq rfl dX7_off_34 rfl rfl ?_
      exact ⟨by rw [vOff, if_neg hno], rfl⟩
    · skip
      obtain ⟨p', hp', rfl⟩ := inR_of (bin0.mp h5) (by omega)
      obtain ⟨h', hh', rfl⟩ := inR_of (bin0.mp h17) (by omega)
      have hb := hueQ_lt ok (show p' < 4 by omega)
      refine z_aload_n 21 dX7_off_20 rfl rfl ?_
      refine z_iconst 22 dX7_off_21 vi0 rfl ?_
      refine z_iload_n 23 dX7_off_22 rfl rfl ?_
      refine y_cVs 26 _ (q_hueOn (o := 0) hc (by decide) ok (by omega)) sh158 cv_X7_185 ⟨by decide, by decide, rfl, rfl⟩ (Nat.le_of_ble_eq_true rfl) dX7_off_23 rfl rfl ?_
      refine z_iload_n 27 dX7_off_26 rfl rfl ?_
      refine y_cSs 30 (c_offOf (by omega) (by omega)) cs_X7_190 ⟨by decide, by decide, rfl, rfl⟩ (Nat.le_of_ble_eq_true rfl) dX7_off_27 rfl rfl ?_
      refine z_goto 34 dX7_off_30 rfl ?_
      refine z_iret hq rfl dX7_off_34 rfl rfl ?_
      exact ⟨by rw [vOff, if_pos ⟨bin0.mp h5, bin0.mp h17⟩, nN_nI (by omega), nN_nI (by omega)], rfl⟩

