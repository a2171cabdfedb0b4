/-! ===== ahead, lasts ===== -/
def ahV (N : Pg) (p n w : Nat) : Nat := if w = 0 then hueQ (daysO (nrm N) p n) p else if w = 1 then daysO (nrm N) p n (25 + p) else heldQ (daysO (nrm N) p n) p
def vAhead (N : Pg) (p n w : Int32) : Int32 := if inR p (N 57) ∧ inR n 61 ∧ inR w 3 then nI (ahV N (nN p) (nN n) (nN w)) else -1
set_option maxRecDepth 100000 in
theorem x_ahead {l : Launch} {G : zG} {σ : Nat → Int32} {N : Pg} {p n w : Int32} (hc : hdc σ 1 N) (ok : okQ N) : zMet l yX6_ahead mX6_ahead [.ref (zGa G 0), .int p, .int n, .int w] G (zW G σ) (zP G (pQ σ (vAhead N p n w))) := by
  have b4 := ok.np
  have bn : bi ((0 : Int32) ≤ n ∧ n ≤ 60) = bi (inR n 61) := bi_cg (le_inR (n := 60) (by decide))
  have bw : bi ((0 : Int32) ≤ w ∧ w ≤ 2) = bi (inR w 3) := bi_cg (le_inR (n := 2) (by decide))
  have no : ¬ (inR p (N 57) ∧ inR n 61 ∧ inR w 3) → pQ σ (vAhead N p n w) (some (.int (-1))) σ := fun h => ⟨by rw [vAhead, if_neg h], same.rf⟩
  have okn := okQ_nrm ok
  refine zMet.of (by decide) rfl (Nat.le_of_ble_eq_true rfl) (Or.inr rfl) fun X hX hq => ?_
  subst hX
  show Y G X mX6_ahead σ 0 [some (.ref (zGa G 0)), some (.int p), some (.int n), some (.int w)] []
  by_cases hp : inR p (N 57)
  · by_cases hn : inR n 61
    · by_cases hw : inR w 3
      · obtain ⟨p', hp', rfl⟩ := inR_of hp (by omega)
        obtain ⟨n', hn', rfl⟩ := inR_of hn (by decide)
        obtain ⟨w', hw', rfl⟩ := inR_of hw (by decide)
        have p4 : p' < 4 := by omega
        have val : vAhead N (nI p') (nI n') (nI w') = nI (ahV N p' n' w') := by rw [vAhead, if_pos ⟨hp, hn, hw⟩, nN_nI (by omega), nN_nI (by omega), nN_nI (by omega)]
        have okd := okQ_daysO okn p4 n'
        have fin : ∀ V, V = nI (ahV N p' n' w') → zP G (pQ σ (vAhead N (nI p') (nI n') (nI w'))) (some (.int V)) (zW G (sp σ 8 (daysO (nrm N) p' n'))) := fun V hV => ⟨_, ⟨by rw [val, hV], same_sp8 same.rf⟩, rfl⟩
        rcases (show w' = 0 ∨ w' = 1 ∨ w' = 2 by omega) with e | e | e
        all_goals subst e
        · skip
          refine z_aload_n 1 dX6_ahead_0 rfl rfl ?_
          refine y_getr 4 _ sh0 rfl fl_X6_10 dX6_ahead_1 rfl ?_
          refine z_iload_n 5 dX6_ahead_4 rfl rfl ?_
          refine y_cVs 8 _ (n_hasOne bkm1 hc ok) (bk0 bkm1) cv_X6_141 ⟨by decide, by decide, rfl, rfl⟩ (Nat.le_of_ble_eq_true rfl) dX6_ahead_5 rfl rfl ?_
          refine z_if_eq_f 11 30 dX6_ahead_8 rfl (by rw [bi_t hp]; decide) rfl ?_
          refine z_iload_n 12 dX6_ahead_11 rfl rfl ?_
          refine z_iconst 13 dX6_ahead_12 vi0 rfl ?_
          refine z_bipush 15 dX6_ahead_13 vb60 rfl ?_
          refine y_cSs 18 (c_within) cs_X6_73 ⟨by decide, by decide, rfl, rfl⟩ (Nat.le_of_ble_eq_true rfl) dX6_ahead_15 rfl rfl ?_
          rw [bn]
          refine z_if_eq_f 21 30 dX6_ahead_18 rfl (by rw [bi_t hn]; decide) rfl ?_
          refine z_iload_n 22 dX6_ahead_21 rfl rfl ?_
          refine z_iconst 23 dX6_ahead_22 vi0 rfl ?_
          refine z_iconst 24 dX6_ahead_23 vi2 rfl ?_
          refine y_cSs 27 (c_within) cs_X6_73 ⟨by decide, by decide, rfl, rfl⟩ (Nat.le_of_ble_eq_true rfl) dX6_ahead_24 rfl rfl ?_
          rw [bw]
          refine z_if_ne_t 32 dX6_ahead_27 rfl (by rw [bi_t hw]; decide) ?_
          refine z_aload_n 33 dX6_ahead_32 rfl rfl ?_
          refine y_getr 36 _ sh0 rfl fl_X6_16 dX6_ahead_33 rfl ?_
          refine z_aload_n 37 dX6_ahead_36 rfl rfl ?_
          refine y_getr 40 _ sh0 rfl fl_X6_10 dX6_ahead_37 rfl ?_
          refine y_cVv 43 _ (n_takeFrom bkm8 bkm1 (by decide) hc) (bk0 bkm8) cv_X6_96 ⟨by decide, by decide, rfl, rfl⟩ (Nat.le_of_ble_eq_true rfl) dX6_ahead_40 rfl rfl ?_
          refine z_aload_n 44 dX6_ahead_43 rfl rfl ?_
          refine y_getr 47 _ sh0 rfl fl_X6_16 dX6_ahead_44 rfl ?_
          refine z_iload_n 48 dX6_ahead_47 rfl rfl ?_
          refine z_iload_n 49 dX6_ahead_48 rfl rfl ?_
          refine y_cVv 52 _ (c_passDaysOfOne bkm8 hds_sp okn p4 (by omega)) (bk0 bkm8) cv_X6_197 ⟨by decide, by decide, rfl, rfl⟩ (Nat.le_of_ble_eq_true rfl) dX6_ahead_49 rfl rfl ?_
          rw [sp_sp]
          refine z_iload_n 53 dX6_ahead_52 rfl rfl ?_
          refine z_lookup (off := 27) 80 dX6_ahead_53 (by decide) (by decide) rfl ?_
          refine z_aload_n 81 dX6_ahead_80 rfl rfl ?_
          refine y_getr 84 _ sh0 rfl fl_X6_16 dX6_ahead_81 rfl ?_
          refine z_iload_n 85 dX6_ahead_84 rfl rfl ?_
          refine y_cVs 88 _ (c_hueOfOne bkm8 hds_sp okd p4) (bk0 bkm8) cv_X6_150 ⟨by decide, by decide, rfl, rfl⟩ (Nat.le_of_ble_eq_true rfl) dX6_ahead_85 rfl rfl ?_
          refine z_iret hq rfl dX6_ahead_88 rfl rfl ?_
          exact fin _ rfl
        · skip
          refine z_aload_n 1 dX6_ahead_0 rfl rfl ?_
          refine y_getr 4 _ sh0 rfl fl_X6_10 dX6_ahead_1 rfl ?_
          refine z_iload_n 5 dX6_ahead_4 rfl rfl ?_
          refine y_cVs 8 _ (n_hasOne bkm1 hc ok) (bk0 bkm1) cv_X6_141 ⟨by decide, by decide, rfl, rfl⟩ (Nat.le_of_ble_eq_true rfl) dX6_ahead_5 rfl rfl ?_
          refine z_if_eq_f 11 30 dX6_ahead_8 rfl (by rw [bi_t hp]; decide) rfl ?_
          refine z_iload_n 12 dX6_ahead_11 rfl rfl ?_
          refine z_iconst 13 dX6_ahead_12 vi0 rfl ?_
          refine z_bipush 15 dX6_ahead_13 vb60 rfl ?_
          refine y_cSs 18 (c_within) cs_X6_73 ⟨by decide, by decide, rfl, rfl⟩ (Nat.le_of_ble_eq_true rfl) dX6_ahead_15 rfl rfl ?_
          rw [bn]
          refine z_if_eq_f 21 30 dX6_ahead_18 rfl (by rw [bi_t hn]; decide) rfl ?_
          refine z_iload_n 22 dX6_ahead_21 rfl rfl ?_
          refine z_iconst 23 dX6_ahead_22 vi0 rfl ?_
          refine z_iconst 24 dX6_ahead_23 vi2 rfl ?_
          refine y_cSs 27 (c_within) cs_X6_73 ⟨by decide, by decide, rfl, rfl⟩ (Nat.le_of_ble_eq_true rfl) dX6_ahead_24 rfl rfl ?_
          rw [bw]
          refine z_if_ne_t 32 dX6_ahead_27 rfl (by rw [bi_t hw]; decide) ?_
          refine z_aload_n 33 dX6_ahead_32 rfl rfl ?_
          refine y_getr 36 _ sh0 rfl fl_X6_16 dX6_ahead_33 rfl ?_
          refine z_aload_n 37 dX6_ahead_36 rfl rfl ?_
          refine y_getr 40 _ sh0 rfl fl_X6_10 dX6_ahead_37 rfl ?_
          refine y_cVv 43 _ (n_takeFrom bkm8 bkm1 (by decide) hc) (bk0 bkm8) cv_X6_96 ⟨by decide, by decide, rfl, rfl⟩ (Nat.le_of_ble_eq_true rfl) dX6_ahead_40 rfl rfl ?_
          refine z_aload_n 44 dX6_ahead_43 rfl rfl ?_
          refine y_getr 47 _ sh0 rfl fl_X6_16 dX6_ahead_44 rfl ?_
          refine z_iload_n 48 dX6_ahead_47 rfl rfl ?_
          refine z_iload_n 49 dX6_ahead_48 rfl rfl ?_
          refine y_cVv 52 _ (c_passDaysOfOne bkm8 hds_sp okn p4 (by omega)) (bk0 bkm8) cv_X6_197 ⟨by decide, by decide, rfl, rfl⟩ (Nat.le_of_ble_eq_true rfl) dX6_ahead_49 rfl rfl ?_
          rw [sp_sp]
          refine z_iload_n 53 dX6_ahead_52 rfl rfl ?_
          refine z_lookup (off := 36) 89 dX6_ahead_53 (by decide) (by decide) rfl ?_
          refine z_aload_n 90 dX6_ahead_89 rfl rfl ?_
          refine y_getr 93 _ sh0 rfl fl_X6_16 dX6_ahead_90 rfl ?_
          refine y_getr 96 _ (bk0 bkm8) rfl fl_X6_144 dX6_ahead_93 rfl ?_
          refine z_iload_n 97 dX6_ahead_96 rfl rfl ?_
          refine p_ld 98 _ (bk4 bkm8) rfl (by omega) (by decide) dX6_ahead_97 rfl ?_
          refine z_iret hq rfl dX6_ahead_98 rfl rfl ?_
          exact fin _ rfl
        · skip
          refine z_aload_n 1 dX6_ahead_0 rfl rfl ?_
          refine y_getr 4 _ sh0 rfl fl_X6_10 dX6_ahead_1 rfl ?_
          refine z_iload_n 5 dX6_ahead_4 rfl rfl ?_
          refine y_cVs 8 _ (n_hasOne bkm1 hc ok) (bk0 bkm1) cv_X6_141 ⟨by decide, by decide, rfl, rfl⟩ (Nat.le_of_ble_eq_true rfl) dX6_ahead_5 rfl rfl ?_
          refine z_if_eq_f 11 30 dX6_ahead_8 rfl (by rw [bi_t hp]; decide) rfl ?_
          refine z_iload_n 12 dX6_ahead_11 rfl rfl ?_
          refine z_iconst 13 dX6_ahead_12 vi0 rfl ?_
          refine z_bipush 15 dX6_ahead_13 vb60 rfl ?_
          refine y_cSs 18 (c_within) cs_X6_73 ⟨by decide, by decide, rfl, rfl⟩ (Nat.le_of_ble_eq_true rfl) dX6_ahead_15 rfl rfl ?_
          rw [bn]
          refine z_if_eq_f 21 30 dX6_ahead_18 rfl (by rw [bi_t hn]; decide) rfl ?_
          refine z_iload_n 22 dX6_ahead_21 rfl rfl ?_
          refine z_iconst 23 dX6_ahead_22 vi0 rfl ?_
          refine z_iconst 24 dX6_ahead_23 vi2 rfl ?_
          refine y_cSs 27 (c_within) cs_X6_73 ⟨by decide, by decide, rfl, rfl⟩ (Nat.le_of_ble_eq_true rfl) dX6_ahead_24 rfl rfl ?_
          rw [bw]
          refine z_if_ne_t 32 dX6_ahead_27 rfl (by rw [bi_t hw]; decide) ?_
          refine z_aload_n 33 dX6_ahead_32 rfl rfl ?_
          refine y_getr 36 _ sh0 rfl fl_X6_16 dX6_ahead_33 rfl ?_
          refine z_aload_n 37 dX6_ahead_36 rfl rfl ?_
          refine y_getr 40 _ sh0 rfl fl_X6_10 dX6_ahead_37 rfl ?_
          refine y_cVv 43 _ (n_takeFrom bkm8 bkm1 (by decide) hc) (bk0 bkm8) cv_X6_96 ⟨by decide, by decide, rfl, rfl⟩ (Nat.le_of_ble_eq_true rfl) dX6_ahead_40 rfl rfl ?_
          refine z_aload_n 44 dX6_ahead_43 rfl rfl ?_
          refine y_getr 47 _ sh0 rfl fl_X6_16 dX6_ahead_44 rfl ?_
          refine z_iload_n 48 dX6_ahead_47 rfl rfl ?_
          refine z_iload_n 49 dX6_ahead_48 rfl rfl ?_
          refine y_cVv 52 _ (c_passDaysOfOne bkm8 hds_sp okn p4 (by omega)) (bk0 bkm8) cv_X6_197 ⟨by decide, by decide, rfl, rfl⟩ (Nat.le_of_ble_eq_true rfl) dX6_ahead_49 rfl rfl ?_
          rw [sp_sp]
          refine z_iload_n 53 dX6_ahead_52 rfl rfl ?_
          refine z_lookup (off := 46) 99 dX6_ahead_53 (by decide) (by decide) rfl ?_
          refine z_aload_n 100 dX6_ahead_99 rfl rfl ?_
          refine y_getr 103 _ sh0 rfl fl_X6_16 dX6_ahead_100 rfl ?_
          refine z_iload_n 104 dX6_ahead_103 rfl rfl ?_
          refine y_cVs 107 _ (c_heldBy bkm8 hds_sp okd.nc p4) (bk0 bkm8) cv_X6_153 ⟨by decide, by decide, rfl, rfl⟩ (Nat.le_of_ble_eq_true rfl) dX6_ahead_104 rfl rfl ?_
          refine z_iret hq rfl dX6_ahead_107 rfl rfl ?_
          exact fin _ rfl
      · have no := no (fun h => hw h.2.2)
        refine z_aload_n 1 dX6_ahead_0 rfl rfl ?_
        refine y_getr 4 _ sh0 rfl fl_X6_10 dX6_ahead_1 rfl ?_
        refine z_iload_n 5 dX6_ahead_4 rfl rfl ?_
        refine y_cVs 8 _ (n_hasOne bkm1 hc ok) (bk0 bkm1) cv_X6_141 ⟨by decide, by decide, rfl, rfl⟩ (Nat.le_of_ble_eq_true rfl) dX6_ahead_5 rfl rfl ?_
        refine z_if_eq_f 11 30 dX6_ahead_8 rfl (by rw [bi_t hp]; decide) rfl ?_
        refine z_iload_n 12 dX6_ahead_11 rfl rfl ?_
        refine z_iconst 13 dX6_ahead_12 vi0 rfl ?_
        refine z_bipush 15 dX6_ahead_13 vb60 rfl ?_
        refine y_cSs 18 (c_within) cs_X6_73 ⟨by decide, by decide, rfl, rfl⟩ (Nat.le_of_ble_eq_true rfl) dX6_ahead_15 rfl rfl ?_
        rw [bn]
        refine z_if_eq_f 21 30 dX6_ahead_18 rfl (by rw [bi_t hn]; decide) rfl ?_
        refine z_iload_n 22 dX6_ahead_21 rfl rfl ?_
        refine z_iconst 23 dX6_ahead_22 vi0 rfl ?_
        refine z_iconst 24 dX6_ahead_23 vi2 rfl ?_
        refine y_cSs 27 (c_within) cs_X6_73 ⟨by decide, by decide, rfl, rfl⟩ (Nat.le_of_ble_eq_true rfl) dX6_ahead_24 rfl rfl ?_
        rw [bw]
        refine z_if_ne_f 30 32 dX6_ahead_27 rfl (bi_f hw) rfl ?_
        refine z_iconst 31 dX6_ahead_30 vim1 rfl ?_
        refine z_iret hq rfl dX6_ahead_31 rfl rfl ?_
        exact ⟨_, no, rfl⟩
    · have no := no (fun h => hn h.2.1)
      refine z_aload_n 1 dX6_ahead_0 rfl rfl ?_
      refine y_getr 4 _ sh0 rfl fl_X6_10 dX6_ahead_1 rfl ?_
      refine z_iload_n 5 dX6_ahead_4 rfl rfl ?_
      refine y_cVs 8 _ (n_hasOne bkm1 hc ok) (bk0 bkm1) cv_X6_141 ⟨by decide, by decide, rfl, rfl⟩ (Nat.le_of_ble_eq_true rfl) dX6_ahead_5 rfl rfl ?_
      refine z_if_eq_f 11 30 dX6_ahead_8 rfl (by rw [bi_t hp]; decide) rfl ?_
      refine z_iload_n 12 dX6_ahead_11 rfl rfl ?_
      refine z_iconst 13 dX6_ahead_12 vi0 rfl ?_
      refine z_bipush 15 dX6_ahead_13 vb60 rfl ?_
      refine y_cSs 18 (c_within) cs_X6_73 ⟨by decide, by decide, rfl, rfl⟩ (Nat.le_of_ble_eq_true rfl) dX6_ahead_15 rfl rfl ?_
      rw [bn]
      refine z_if_eq_t 30 dX6_ahead_18 rfl (bi_f hn) ?_
      refine z_iconst 31 dX6_ahead_30 vim1 rfl ?_
      refine z_iret hq rfl dX6_ahead_31 rfl rfl ?_
      exact ⟨_, no, rfl⟩
  · have no := no (fun h => hp h.1)
    refine z_aload_n 1 dX6_ahead_0 rfl rfl ?_
    refine y_getr 4 _ sh0 rfl fl_X6_10 dX6_ahead_1 rfl ?_
    refine z_iload_n 5 dX6_ahead_4 rfl rfl ?_
    refine y_cVs 8 _ (n_hasOne bkm1 hc ok) (bk0 bkm1) cv_X6_141 ⟨by decide, by decide, rfl, rfl⟩ (Nat.le_of_ble_eq_true rfl) dX6_ahead_5 rfl rfl ?_
    refine z_if_eq_t 30 dX6_ahead_8 rfl (bi_f hp) ?_
    refine z_iconst 31 dX6_ahead_30 vim1 rfl ?_
    refine z_iret hq rfl dX6_ahead_31 rfl rfl ?_
    exact ⟨_, no, rfl⟩
set_option maxRecDepth 100000 in
theorem r_ahead {l : Launch} {G : zG} {σ : Nat → Int32} {N : Pg} {p n w : Int32} (hc : hdk σ 0 N) (ok : okQ N) (hs : N 54 ≤ 1000000) : zMet l yX7_ahead mX7_ahead [.ref (zGa G 158), .int p, .int n, .int w] G (zW G σ) (zP G (pQ σ (vAhead N p n w))) := by
  have b4 := ok.np
  have bn : bi ((0 : Int64) ≤ n.toInt64 ∧ n.toInt64 ≤ 60) = bi (inR n 61) := bi_in7 (n := 60) (by decide)
  have bw : bi ((0 : Int64) ≤ w.toInt64 ∧ w.toInt64 ≤ 2) = bi (inR w 3) := bi_in7 (n := 2) (by decide)
  have no : ¬ (inR p (N 57) ∧ inR n 61 ∧ inR w 3) → pQ σ (vAhead N p n w) (some (.int (-1))) σ := fun h => ⟨by rw [vAhead, if_neg h], same.rf⟩
  have okn := okQ_nrm ok
  have hdr_rsp : ∀ {τ : Nat → Int32} {R : Pg}, hdr (rsp τ 220 R) 220 R := hdr_rsp' (by decide)
  refine zMet.of (by decide) rfl (Nat.le_of_ble_eq_true rfl) (Or.inr rfl) fun X hX hq => ?_
  subst hX
  show Y G X mX7_ahead σ 0 [some (.ref (zGa G 158)), some (.int p), some (.int n), some (.int w)] []
  by_cases hp : inR p (N 57)
  · by_cases hn : inR n 61
    · by_cases hw : inR w 3
      · obtain ⟨p', hp', rfl⟩ := inR_of hp (by omega)
        obtain ⟨n', hn', rfl⟩ := inR_of hn (by decide)
        obtain ⟨w', hw', rfl⟩ := inR_of hw (by decide)
        have p4 : p' < 4 := by omega
        have okd := okQ_daysA okn n'
        have oko := okQ_daysO okn p4 n'
        have ag := daysA_S okn (show p' < nrm N 57 by rw [nrm_c (by decide)]; exact hp') n'
        have cnt : daysA (nrm N) n' 56 = N 56 ∧ daysA (nrm N) n' 57 = N 57 := ⟨(daysA_56 okn n').1.trans (nrm_c (by decide)), (daysA_56 okn n').2.1.trans (nrm_c (by decide))⟩
        have val : vAhead N (nI p') (nI n') (nI w') = nI (ahV N p' n' w') := by rw [vAhead, if_pos ⟨hp, hn, hw⟩, nN_nI (by omega), nN_nI (by omega), nN_nI (by omega)]
        have fin : ∀ V x, V = nI (ahV N p' n' w') → zP G (pQ σ (vAhead N (nI p') (nI n') (nI w'))) (some (.int V)) (zW G (rsp (upd σ (400 * 158 + 22) x) 220 (daysA (nrm N) n'))) := fun V x hV => ⟨_, ⟨by rw [val, hV], same_dg hc cnt.1 cnt.2⟩, rfl⟩
        refine z_aload_n 1 dX7_ahead_0 rfl rfl ?_
        refine z_iload_n 2 dX7_ahead_1 rfl rfl ?_
        refine y_cVs 5 _ (q_isOne (o := 0) hc ok) sh158 cv_X7_182 ⟨by decide, by decide, rfl, rfl⟩ (Nat.le_of_ble_eq_true rfl) dX7_ahead_2 rfl rfl ?_
        refine z_if_eq_f 8 32 dX7_ahead_5 rfl (by rw [bi_t hp]; decide) rfl ?_
        refine z_iload_n 9 dX7_ahead_8 rfl rfl ?_
        refine z_i2l 10 dX7_ahead_9 rfl ?_
        refine z_lconst 11 dX7_ahead_10 vl0 rfl ?_
        refine z_ldc2 14 kc_X7_218 dX7_ahead_11 rfl ?_
        refine y_cSs 17 (c_in) cs_X7_55 ⟨by decide, by decide, rfl, rfl⟩ (Nat.le_of_ble_eq_true rfl) dX7_ahead_14 rfl rfl ?_
        rw [bn]
        refine z_if_eq_f 20 32 dX7_ahead_17 rfl (by rw [bi_t hn]; decide) rfl ?_
        refine z_iload_n 21 dX7_ahead_20 rfl rfl ?_
        refine z_i2l 22 dX7_ahead_21 rfl ?_
        refine z_lconst 23 dX7_ahead_22 vl0 rfl ?_
        refine z_ldc2 26 kc_X7_225 dX7_ahead_23 rfl ?_
        refine y_cSs 29 (c_in) cs_X7_55 ⟨by decide, by decide, rfl, rfl⟩ (Nat.le_of_ble_eq_true rfl) dX7_ahead_26 rfl rfl ?_
        rw [bw]
        refine z_if_ne_t 34 dX7_ahead_29 rfl (by rw [bi_t hw]; decide) ?_
        refine z_aload_n 35 dX7_ahead_34 rfl rfl ?_
        refine z_iconst 36 dX7_ahead_35 vi0 rfl ?_
        refine z_iload_n 37 dX7_ahead_36 rfl rfl ?_
        refine y_cVs 40 _ (c_daysGo (o := 0) hc (by decide) ok (by omega) hs) sh158 cv_X7_222 ⟨by decide, by decide, rfl, rfl⟩ (Nat.le_of_ble_eq_true rfl) dX7_ahead_37 rfl rfl ?_
        refine z_pop 41 dX7_ahead_40 rfl rfl ?_
        refine z_iload_n 42 dX7_ahead_41 rfl rfl ?_
        refine z_if_ne 56 45 dX7_ahead_42 rfl rfl (fun h42 => ?_) (fun h42 => ?_)
        · skip
          have n0 : w' ≠ 0 := fun e => h42 (by rw [e]; rfl)
          refine z_iload_n 57 dX7_ahead_56 rfl rfl ?_
          refine z_iconst 58 dX7_ahead_57 vi1 rfl ?_
          refine z_icmp_ne 74 61 dX7_ahead_58 rfl rfl (fun h58 => ?_) (fun h58 => ?_)
          · skip
            have e : w' = 2 := by
                have n1 : w' ≠ 1 := fun e => h58 (by rw [e]; rfl)
                omega
            refine z_aload_n 75 dX7_ahead_74 rfl rfl ?_
            refine z_sipush 78 dX7_ahead_75 vs220 rfl ?_
            refine z_iload_n 79 dX7_ahead_78 rfl rfl ?_
            refine y_cVs 82 _ (c_heldOn (o := 220) hdr_rsp (by decide) okd.nc p4) sh158 cv_X7_151 ⟨by decide, by decide, rfl, rfl⟩ (Nat.le_of_ble_eq_true rfl) dX7_ahead_79 rfl rfl ?_
            refine z_iret hq rfl dX7_ahead_82 rfl rfl ?_
            exact fin _ _ (by rw [e, heldQ_S ag oko.nc]; rfl)
          · skip
            have e : w' = 1 := nI_eqL (b := 1) (by omega) (by decide) h58
            refine z_aload_n 62 dX7_ahead_61 rfl rfl ?_
            refine y_getr 65 _ sh158 rfl fl_X7_7 dX7_ahead_62 rfl ?_
            refine z_sipush 68 dX7_ahead_65 vs245 rfl ?_
            refine z_iload_n 69 dX7_ahead_68 rfl rfl ?_
            refine z_iaddN 70 (show (245 : Int32) = nI 245 from rfl) rfl dX7_ahead_69 rfl ?_
            refine m_ld 71 (25 + p') hdr_rsp rfl (by omega) (by omega) (by omega) dX7_ahead_70 rfl ?_
            refine z_goto 82 dX7_ahead_71 rfl ?_
            refine z_iret hq rfl dX7_ahead_82 rfl rfl ?_
            exact fin _ _ (by rw [e, ag (25 + p') (by unfold pS; omega)]; rfl)
        · skip
          have e : w' = 0 := nI_eqL (b := 0) (by omega) (by decide) h42
          refine z_aload_n 46 dX7_ahead_45 rfl rfl ?_
          refine z_sipush 49 dX7_ahead_46 vs220 rfl ?_
          refine z_iload_n 50 dX7_ahead_49 rfl rfl ?_
          refine y_cVs 53 _ (c_hueOn (o := 220) hdr_rsp (by decide) okd p4) sh158 cv_X7_185 ⟨by decide, by decide, rfl, rfl⟩ (Nat.le_of_ble_eq_true rfl) dX7_ahead_50 rfl rfl ?_
          refine z_goto 82 dX7_ahead_53 rfl ?_
          refine z_iret hq rfl dX7_ahead_82 rfl rfl ?_
          exact fin _ _ (by rw [e, hueQ_S ag oko.nc]; rfl)
      · have no := no (fun h => hw h.2.2)
        refine z_aload_n 1 dX7_ahead_0 rfl rfl ?_
        refine z_iload_n 2 dX7_ahead_1 rfl rfl ?_
        refine y_cVs 5 _ (q_isOne (o := 0) hc ok) sh158 cv_X7_182 ⟨by decide, by decide, rfl, rfl⟩ (Nat.le_of_ble_eq_true rfl) dX7_ahead_2 rfl rfl ?_
        refine z_if_eq_f 8 32 dX7_ahead_5 rfl (by rw [bi_t hp]; decide) rfl ?_
        refine z_iload_n 9 dX7_ahead_8 rfl rfl ?_
        refine z_i2l 10 dX7_ahead_9 rfl ?_
        refine z_lconst 11 dX7_ahead_10 vl0 rfl ?_
        refine z_ldc2 14 kc_X7_218 dX7_ahead_11 rfl ?_
        refine y_cSs 17 (c_in) cs_X7_55 ⟨by decide, by decide, rfl, rfl⟩ (Nat.le_of_ble_eq_true rfl) dX7_ahead_14 rfl rfl ?_
        rw [bn]
        refine z_if_eq_f 20 32 dX7_ahead_17 rfl (by rw [bi_t hn]; decide) rfl ?_
        refine z_iload_n 21 dX7_ahead_20 rfl rfl ?_
        refine z_i2l 22 dX7_ahead_21 rfl ?_
        refine z_lconst 23 dX7_ahead_22 vl0 rfl ?_
        refine z_ldc2 26 kc_X7_225 dX7_ahead_23 rfl ?_
        refine y_cSs 29 (c_in) cs_X7_55 ⟨by decide, by decide, rfl, rfl⟩ (Nat.le_of_ble_eq_true rfl) dX7_ahead_26 rfl rfl ?_
        rw [bw]
        refine z_if_ne_f 32 34 dX7_ahead_29 rfl (bi_f hw) rfl ?_
        refine z_iconst 33 dX7_ahead_32 vim1 rfl ?_
        refine z_iret hq rfl dX7_ahead_33 rfl rfl ?_
        exact ⟨_, no, rfl⟩
    · have no := no (fun h => hn h.2.1)
      refine z_aload_n 1 dX7_ahead_0 rfl rfl ?_
      refine z_iload_n 2 dX7_ahead_1 rfl rfl ?_
      refine y_cVs 5 _ (q_isOne (o := 0) hc ok) sh158 cv_X7_182 ⟨by decide, by decide, rfl, rfl⟩ (Nat.le_of_ble_eq_true rfl) dX7_ahead_2 rfl rfl ?_
      refine z_if_eq_f 8 32 dX7_ahead_5 rfl (by rw [bi_t hp]; decide) rfl ?_
      refine z_iload_n 9 dX7_ahead_8 rfl rfl ?_
      refine z_i2l 10 dX7_ahead_9 rfl ?_
      refine z_lconst 11 dX7_ahead_10 vl0 rfl ?_
      refine z_ldc2 14 kc_X7_218 dX7_ahead_11 rfl ?_
      refine y_cSs 17 (c_in) cs_X7_55 ⟨by decide, by decide, rfl, rfl⟩ (Nat.le_of_ble_eq_true rfl) dX7_ahead_14 rfl rfl ?_
      rw [bn]
      refine z_if_eq_t 32 dX7_ahead_17 rfl (bi_f hn) ?_
      refine z_iconst 33 dX7_ahead_32 vim1 rfl ?_
      refine z_iret hq rfl dX7_ahead_33 rfl rfl ?_
      exact ⟨_, no, rfl⟩
  · have no := no (fun h => hp h.1)
    refine z_aload_n 1 dX7_ahead_0 rfl rfl ?_
    refine z_iload_n 2 dX7_ahead_1 rfl rfl ?_
    refine y_cVs 5 _ (q_isOne (o := 0) hc ok) sh158 cv_X7_182 ⟨by decide, by decide, rfl, rfl⟩ (Nat.le_of_ble_eq_true rfl) dX7_ahead_2 rfl rfl ?_
    refine z_if_eq_t 32 dX7_ahead_5 rfl (bi_f hp) ?_
    refine z_iconst 33 dX7_ahead_32 vim1 rfl ?_
    refine z_iret hq rfl dX7_ahead_33 rfl rfl ?_
    exact ⟨_, no, rfl⟩
/-- the first of so many at which f is 0 -/
def fz (f : Nat → Nat) (k : Nat) : Nat → Int32
  | 0 => -4
  | m + 1 => if f k = 0 then nI k else fz f (k + 1) m
theorem fz_s {f : Nat → Nat} {k T : Nat} (h : k < T) : fz f k (T - k) = if f k = 0 then nI k else fz f (k + 1) (T - (k + 1)) := by
  rw [show T - k = (T - (k + 1)) + 1 by omega]; rfl
theorem fz_e {f : Nat → Nat} {T : Nat} : fz f T (T - T) = -4 := by rw [Nat.sub_self]; rfl
theorem fz_cg {f g : Nat → Nat} : ∀ m k, (∀ i, f i = g i) → fz f k m = fz g k m
  | 0, _, _ => rfl
  | m + 1, k, h => by rw [fz, fz, h k, fz_cg m (k + 1) h]
def vLasts (N : Pg) (p : Int32) : Int32 := if inR p (N 57) then fz (fun k => heldQ (daysO (nrm N) (nN p) k) (nN p)) 0 61 else -1
set_option maxRecDepth 100000 in
theorem x_lasts {l : Launch} {G : zG} {σ : Nat → Int32} {N : Pg} {p : Int32} (hc : hdc σ 1 N) (ok : okQ N) : zMet l yX6_lasts mX6_lasts [.ref (zGa G 0), .int p] G (zW G σ) (zP G (pQ σ (vLasts N p))) := by
  have b4 := ok.np
  have okn := okQ_nrm ok
  refine zMet.of (by decide) rfl (Nat.le_of_ble_eq_true rfl) (Or.inr rfl) fun X hX hq => ?_
  subst hX
  show Y G X mX6_lasts σ 0 [some (.ref (zGa G 0)), some (.int p), none] []
  by_cases hp : inR p (N 57)
  · obtain ⟨p', hp', rfl⟩ := inR_of hp (by omega)
    have p4 : p' < 4 := by omega
    have val : vLasts N (nI p') = fz (fun k => heldQ (daysO (nrm N) p' k) p') 0 (61 - 0) := by rw [vLasts, if_pos hp, nN_nI (by omega)]
    refine z_aload_n 1 dX6_lasts_0 rfl rfl ?_
    refine y_getr 4 _ sh0 rfl fl_X6_10 dX6_lasts_1 rfl ?_
    refine z_iload_n 5 dX6_lasts_4 rfl rfl ?_
    refine y_cVs 8 _ (n_hasOne bkm1 hc ok) (bk0 bkm1) cv_X6_141 ⟨by decide, by decide, rfl, rfl⟩ (Nat.le_of_ble_eq_true rfl) dX6_lasts_5 rfl rfl ?_
    refine z_if_ne_t 13 dX6_lasts_8 rfl (by rw [bi_t hp]; decide) ?_
    refine z_aload_n 14 dX6_lasts_13 rfl rfl ?_
    refine y_getr 17 _ sh0 rfl fl_X6_16 dX6_lasts_14 rfl ?_
    refine z_aload_n 18 dX6_lasts_17 rfl rfl ?_
    refine y_getr 21 _ sh0 rfl fl_X6_10 dX6_lasts_18 rfl ?_
    refine y_cVv 24 _ (n_takeFrom bkm8 bkm1 (by decide) hc) (bk0 bkm8) cv_X6_96 ⟨by decide, by decide, rfl, rfl⟩ (Nat.le_of_ble_eq_true rfl) dX6_lasts_21 rfl rfl ?_
    refine z_iconst 25 dX6_lasts_24 vi0 rfl ?_
    refine z_istore_n 26 [_, _, _] dX6_lasts_25 (by decide) rfl rfl rfl ?_
    refine zup (P := fun k => vLasts N (nI p') = fz (fun k => heldQ (daysO (nrm N) p' k) p') k (61 - k) → Y G X mX6_lasts (sp σ 8 (daysO (nrm N) p' k)) 26 [some (.ref (zGa G 0)), some (.int (nI p')), some (.int (nI k))] []) 61 ?_ (fun k hk ih => ?_) 0 (Nat.zero_le _) val
    · intro hv
      rw [fz_e] at hv
      refine z_iload_n 27 dX6_lasts_26 rfl rfl ?_
      refine z_bipush 29 dX6_lasts_27 vb60 rfl ?_
      refine z_icmp_gt_t 60 dX6_lasts_29 rfl (by decide) ?_
      refine z_bipush 62 dX6_lasts_60 vbm4 rfl ?_
      refine z_iret hq rfl dX6_lasts_62 rfl rfl ?_
      exact ⟨_, ⟨by rw [hv], same_sp8 same.rf⟩, rfl⟩
    · intro hv
      rw [fz_s hk] at hv
      have okd := okQ_daysO okn p4 k
      have hbd : heldQ (daysO (nrm N) p' k) p' ≤ 5 * 99 := sumN_ltb okd.nc (fun i hi => okd.he p4 (by have := okd.nc; omega))
      refine z_iload_n 27 dX6_lasts_26 rfl rfl ?_
      refine z_bipush 29 dX6_lasts_27 vb60 rfl ?_
      refine z_icmp_gt_f 32 60 dX6_lasts_29 rfl (nI_nlt (a := 60) (b := k) (by omega) (by omega)) rfl ?_
      refine z_aload_n 33 dX6_lasts_32 rfl rfl ?_
      refine y_getr 36 _ sh0 rfl fl_X6_16 dX6_lasts_33 rfl ?_
      refine z_iload_n 37 dX6_lasts_36 rfl rfl ?_
      refine y_cVs 40 _ (c_heldBy bkm8 hds_sp okd.nc p4) (bk0 bkm8) cv_X6_153 ⟨by decide, by decide, rfl, rfl⟩ (Nat.le_of_ble_eq_true rfl) dX6_lasts_37 rfl rfl ?_
      refine z_if_ne 45 43 dX6_lasts_40 rfl rfl (fun h40 => ?_) (fun h40 => ?_)
      · skip
        have h0 : heldQ (daysO (nrm N) p' k) p' ≠ 0 := fun e => h40 (by rw [e]; rfl)
        rw [if_neg h0] at hv
        refine z_aload_n 46 dX6_lasts_45 rfl rfl ?_
        refine y_getr 49 _ sh0 rfl fl_X6_16 dX6_lasts_46 rfl ?_
        refine z_iload_n 50 dX6_lasts_49 rfl rfl ?_
        refine z_iconst 51 dX6_lasts_50 vi1 rfl ?_
        refine y_cVv 54 _ (c_passDayOfOne (t := 1) bkm8 hds_sp okd p4 (by decide)) (bk0 bkm8) cv_X6_201 ⟨by decide, by decide, rfl, rfl⟩ (Nat.le_of_ble_eq_true rfl) dX6_lasts_51 rfl rfl ?_
        rw [sp_sp]
        refine z_iinc 57 [_, _, _] dX6_lasts_54 rfl (show _ + _ = nI (_ + 1) from nI_1 _) (by decide) rfl rfl rfl ?_
        refine z_goto 26 dX6_lasts_57 rfl ?_
        exact ih hv
      · skip
        have h0 : heldQ (daysO (nrm N) p' k) p' = 0 := nI_eqL (b := 0) (by omega) (by decide) h40
        rw [if_pos h0] at hv
        refine z_iload_n 44 dX6_lasts_43 rfl rfl ?_
        refine z_iret hq rfl dX6_lasts_44 rfl rfl ?_
        exact ⟨_, ⟨by rw [hv], same_sp8 same.rf⟩, rfl⟩
  · skip
    refine z_aload_n 1 dX6_lasts_0 rfl rfl ?_
    refine y_getr 4 _ sh0 rfl fl_X6_10 dX6_lasts_1 rfl ?_
    refine z_iload_n 5 dX6_lasts_4 rfl rfl ?_
    refine y_cVs 8 _ (n_hasOne bkm1 hc ok) (bk0 bkm1) cv_X6_141 ⟨by decide, by decide, rfl, rfl⟩ (Nat.le_of_ble_eq_true rfl) dX6_lasts_5 rfl rfl ?_
    refine z_if_ne_f 11 13 dX6_lasts_8 rfl (bi_f hp) rfl ?_
    refine z_iconst 12 dX6_lasts_11 vim1 rfl ?_
    refine z_iret hq rfl dX6_lasts_12 rfl rfl ?_
    exact ⟨_, ⟨by rw [vLasts, if_neg hp], same.rf⟩, rfl⟩
noncomputable def exq (σ : Nat → Int32) (t : Nat) (N : Pg) : Pg := fun i => if cor i then N i else (nI_all (σ (aR t i))).choose
theorem exq_c {σ : Nat → Int32} {t : Nat} {N : Pg} : eqc (exq σ t N) N := fun _ h => if_pos h
theorem cp_rsp {σ : Nat → Int32} {o t : Nat} {N : Pg} (hc : hdk σ o N) (ho : o ≤ 275) (ht : t ≤ 275) (hot : o + 55 ≤ t ∨ t + 55 ≤ o) : cp σ (63600 + o) (63600 + t) 55 = rsp σ t (exq σ t N) := by
  funext a
  cases hp : pR t a with
  | none =>
    refine Eq.trans ?_ (ov_off hp).symm
    rw [cp_out]
    rcases Nat.lt_or_ge a (63600 + t) with q | q
    · exact Or.inl q
    rcases Nat.lt_or_ge a (63600 + t + 55) with q2 | q2
    · simp only [pR] at hp; rw [if_pos ⟨q, q2⟩] at hp; cases hp
    · exact Or.inr q2
  | some i =>
    obtain ⟨hi, rfl⟩ := pR_of hp
    refine Eq.trans ?_ (ov_at hp).symm
    by_cases h5 : i < 55
    · have hh := hc i (Or.inl h5)
      rw [exq_c i (Or.inl h5), ← hh]
      simp only [aR, if_pos h5]
      rw [cp_in (by omega)]
      exact congrArg σ (by omega)
    · rw [cp_out (by simp only [aR, if_neg h5]; split; omega; split; omega; split; omega; omega)]
      by_cases h6 : cor i
      · rw [exq_c i h6, ← hc i h6]
        simp only [aR, if_neg h5]
      · simp only [exq, if_neg h6]; exact (nI_all (σ (aR t i))).choose_spec
set_option maxRecDepth 100000 in
theorem r_lasts {l : Launch} {G : zG} {σ : Nat → Int32} {N : Pg} {p : Int32} (hc : hdk σ 0 N) (ok : okQ N) : zMet l yX7_lasts mX7_lasts [.ref (zGa G 158), .int p] G (zW G σ) (zP G (pQ σ (vLasts N p))) := by
  have b4 := ok.np
  have okn := okQ_nrm ok
  have hdr_rsp : ∀ {τ : Nat → Int32} {R : Pg}, hdr (rsp τ 220 R) 220 R := hdr_rsp' (by decide)
  refine zMet.of (by decide) rfl (Nat.le_of_ble_eq_true rfl) (Or.inr rfl) fun X hX hq => ?_
  subst hX
  show Y G X mX7_lasts σ 0 [some (.ref (zGa G 158)), some (.int p), none] []
  by_cases hp : inR p (N 57)
  · obtain ⟨p', hp', rfl⟩ := inR_of hp (by omega)
    have p4 : p' < 4 := by omega
    have eX : eqc (exq σ 220 N) N := exq_c
    generalize hX : exq σ 220 N = E at eX
    have okE := ok.eqc eX
    have held : ∀ k, heldQ (daysO (nrm N) p' k) p' = heldQ (daysA E k) p' := fun k => by
      have h1 := daysA_S okn (show p' < nrm N 57 by rw [nrm_c (by decide)]; exact hp') k
      rw [← heldQ_S h1 (okQ_daysO okn p4 k).nc]
      exact heldQ_c (daysA_c (eqc_nrm.trans eX.symm) okE k) (okQ_daysA okE k).nc p4
    have val : vLasts N (nI p') = fz (fun k => heldQ (daysA E k) p') 0 (61 - 0) := by
      rw [vLasts, if_pos hp, nN_nI (by omega)]; exact fz_cg _ _ held
    have cnt : ∀ k, daysA E k 56 = N 56 ∧ daysA E k 57 = N 57 := fun k => ⟨(daysA_56 okE k).1.trans (eX 56 (by decide)), (daysA_56 okE k).2.1.trans (eX 57 (by decide))⟩
    have sm : ∀ k, same (rsp σ 220 (daysA E k)) σ := fun k => same_rsp same.rf (by decide) (by rw [(cnt k).1]; exact hc 56 (by decide)) (by rw [(cnt k).2]; exact hc 57 (by decide))
    refine z_aload_n 1 dX7_lasts_0 rfl rfl ?_
    refine z_iload_n 2 dX7_lasts_1 rfl rfl ?_
    refine y_cVs 5 _ (q_isOne (o := 0) hc ok) sh158 cv_X7_182 ⟨by decide, by decide, rfl, rfl⟩ (Nat.le_of_ble_eq_true rfl) dX7_lasts_2 rfl rfl ?_
    refine z_if_ne_t 10 dX7_lasts_5 rfl (by rw [bi_t hp]; decide) ?_
    refine z_aload_n 11 dX7_lasts_10 rfl rfl ?_
    refine z_iconst 12 dX7_lasts_11 vi0 rfl ?_
    refine z_sipush 15 dX7_lasts_12 vs220 rfl ?_
    refine y_cVv 18 _ (c_copies (f := 0) (t := 220) (by decide) (by decide) (by decide)) sh158 cv_X7_212 ⟨by decide, by decide, rfl, rfl⟩ (Nat.le_of_ble_eq_true rfl) dX7_lasts_15 rfl rfl ?_
    refine z_iconst 19 dX7_lasts_18 vi0 rfl ?_
    refine z_istore_n 20 [_, _, _] dX7_lasts_19 (by decide) rfl rfl rfl ?_
    rw [cp_rsp hc (by decide) (by decide) (by decide), hX]
    refine zup (P := fun k => vLasts N (nI p') = fz (fun k => heldQ (daysA E k) p') k (61 - k) → Y G X mX7_lasts (rsp σ 220 (daysA E k)) 20 [some (.ref (zGa G 158)), some (.int (nI p')), some (.int (nI k))] []) 61 ?_ (fun k hk ih => ?_) 0 (Nat.zero_le _) val
    · intro hv
      rw [fz_e] at hv
      refine z_iload_n 21 dX7_lasts_20 rfl rfl ?_
      refine z_bipush 23 dX7_lasts_21 vb60 rfl ?_
      refine z_icmp_gt_t 53 dX7_lasts_23 rfl (by decide) ?_
      refine z_bipush 55 dX7_lasts_53 vbm4 rfl ?_
      refine z_iret hq rfl dX7_lasts_55 rfl rfl ?_
      exact ⟨_, ⟨by rw [hv], sm 61⟩, rfl⟩
    · intro hv
      rw [fz_s hk] at hv
      have okd := okQ_daysA okE k
      have hbd : heldQ (daysA E k) p' ≤ 5 * 99 := sumN_ltb okd.nc (fun i hi => okd.he p4 (by have := okd.nc; omega))
      refine z_iload_n 21 dX7_lasts_20 rfl rfl ?_
      refine z_bipush 23 dX7_lasts_21 vb60 rfl ?_
      refine z_icmp_gt_f 26 53 dX7_lasts_23 rfl (nI_nlt (a := 60) (b := k) (by omega) (by omega)) rfl ?_
      refine z_aload_n 27 dX7_lasts_26 rfl rfl ?_
      refine z_sipush 30 dX7_lasts_27 vs220 rfl ?_
      refine z_iload_n 31 dX7_lasts_30 rfl rfl ?_
      refine y_cVs 34 _ (c_heldOn (o := 220) hdr_rsp (by decide) okd.nc p4) sh158 cv_X7_151 ⟨by decide, by decide, rfl, rfl⟩ (Nat.le_of_ble_eq_true rfl) dX7_lasts_31 rfl rfl ?_
      refine z_if_ne 39 37 dX7_lasts_34 rfl rfl (fun h34 => ?_) (fun h34 => ?_)
      · skip
        have h0 : heldQ (daysA E k) p' ≠ 0 := fun e => h34 (by rw [e]; rfl)
        rw [if_neg h0] at hv
        refine z_aload_n 40 dX7_lasts_39 rfl rfl ?_
        refine z_sipush 43 dX7_lasts_40 vs220 rfl ?_
        refine z_iconst 44 dX7_lasts_43 vi1 rfl ?_
        refine y_cVv 47 _ (c_dayOn (o := 220) (t := 1) hdr_rsp (by decide) okd (by decide)) sh158 cv_X7_208 ⟨by decide, by decide, rfl, rfl⟩ (Nat.le_of_ble_eq_true rfl) dX7_lasts_44 rfl rfl ?_
        rw [rsp_rsp]
        refine z_iinc 50 [_, _, _] dX7_lasts_47 rfl (show _ + _ = nI (_ + 1) from nI_1 _) (by decide) rfl rfl rfl ?_
        refine z_goto 20 dX7_lasts_50 rfl ?_
        exact ih hv
      · skip
        have h0 : heldQ (daysA E k) p' = 0 := nI_eqL (b := 0) (by omega) (by decide) h34
        rw [if_pos h0] at hv
        refine z_iload_n 38 dX7_lasts_37 rfl rfl ?_
        refine z_iret hq rfl dX7_lasts_38 rfl rfl ?_
        exact ⟨_, ⟨by rw [hv], sm k⟩, rfl⟩
  · skip
    refine z_aload_n 1 dX7_lasts_0 rfl rfl ?_
    refine z_iload_n 2 dX7_lasts_1 rfl rfl ?_
    refine y_cVs 5 _ (q_isOne (o := 0) hc ok) sh158 cv_X7_182 ⟨by decide, by decide, rfl, rfl⟩ (Nat.le_of_ble_eq_true rfl) dX7_lasts_2 rfl rfl ?_
    refine z_if_ne_f 8 10 dX7_lasts_5 rfl (bi_f hp) rfl ?_
    refine z_iconst 9 dX7_lasts_8 vim1 rfl ?_
    refine z_iret hq rfl dX7_lasts_9 rfl rfl ?_
    exact ⟨_, ⟨by rw [vLasts, if_neg hp], same.rf⟩, rfl⟩

