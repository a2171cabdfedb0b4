/-! ===== kind ===== -/
def kindQ (N : Pg) (c k : Nat) : Pg := un (nrm N) c k
theorem okQ_kind {N : Pg} {c k : Nat} (ok : okQ N) (hc : c < 5) (hk : k < 4) : okQ (kindQ N c k) := okQ_un (okQ_nrm ok) (fun _ => by simp only [bnd]; rw [if_pos hc]; omega)
theorem okZ_kind {N : Pg} {c k : Nat} (oz : okZ N) (hc : c < 5) : okZ (kindQ N c k) := okZ_un (okZ_nrm oz) (by omega)
def kR (N : Pg) (c n m : Nat) : Int32 × Int32 := am (fun k => heldA (daysA (kindQ N c k) n)) 0 (-1) m
def vKind (N : Pg) (c n w : Int32) : Int32 := if inR c (N 56) ∧ inR n 61 ∧ inR w 2 then (if w = 0 then (kR N (nN c) (nN n) 4).1 else (kR N (nN c) (nN n) 4).2) else -1
set_option maxRecDepth 100000 in
set_option maxHeartbeats 2000000 in
theorem x_kind {l : Launch} {G : zG} {σ : Nat → Int32} {N : Pg} {c n w : Int32} (hc : hdc σ 1 N) (ok : okQ N) (oz : okZ N) : zMet l yX6_kind mX6_kind [.ref (zGa G 0), .int c, .int n, .int w] G (zW G σ) (zP G (pQ σ (vKind N c n w))) := by
  have b5 := ok.nc
  have bn : bi ((0 : Int32) ≤ n ∧ n ≤ 60) = bi (inR n 61) := bi_cg (le_inR (n := 60) (by decide))
  have bw : bi ((0 : Int32) ≤ w ∧ w ≤ 1) = bi (inR w 2) := bi_cg (le_inR (n := 1) (by decide))
  have no : ¬ (inR c (N 56) ∧ inR n 61 ∧ inR w 2) → pQ σ (vKind N c n w) (some (.int (-1))) σ := fun h => ⟨by rw [vKind, if_neg h], same.rf⟩
  refine zMet.of (by decide) rfl (Nat.le_of_ble_eq_true rfl) (Or.inr rfl) fun X hX hq => ?_
  subst hX
  show Y G X mX6_kind σ 0 [some (.ref (zGa G 0)), some (.int c), some (.int n), some (.int w), none, none, none, none] []
  by_cases hi : inR c (N 56)
  · by_cases hn : inR n 61
    · by_cases hw : inR w 2
      · obtain ⟨c', hc', rfl⟩ := inR_of hi (by omega)
        obtain ⟨n', hn', rfl⟩ := inR_of hn (by decide)
        obtain ⟨w', hw', rfl⟩ := inR_of hw (by decide)
        have c5 : c' < 5 := by omega
        have val : vKind N (nI c') (nI n') (nI w') = if nI w' = 0 then (kR N c' n' 4).1 else (kR N c' n' 4).2 := by rw [vKind, if_pos ⟨hi, hn, hw⟩, nN_nI (by omega), nN_nI (by omega)]
        refine z_aload_n 1 dX6_kind_0 rfl rfl ?_
        refine y_getr 4 _ sh0 rfl fl_X6_10 dX6_kind_1 rfl ?_
        refine z_iload_n 5 dX6_kind_4 rfl rfl ?_
        refine y_cVs 8 _ (n_hasColour bkm1 hc ok) (bk0 bkm1) cv_X6_121 ⟨by decide, by decide, rfl, rfl⟩ (Nat.le_of_ble_eq_true rfl) dX6_kind_5 rfl rfl ?_
        refine z_if_eq_f 11 30 dX6_kind_8 rfl (by rw [bi_t hi]; decide) rfl ?_
        refine z_iload_n 12 dX6_kind_11 rfl rfl ?_
        refine z_iconst 13 dX6_kind_12 vi0 rfl ?_
        refine z_bipush 15 dX6_kind_13 vb60 rfl ?_
        refine y_cSs 18 (c_within) cs_X6_73 ⟨by decide, by decide, rfl, rfl⟩ (Nat.le_of_ble_eq_true rfl) dX6_kind_15 rfl rfl ?_
        rw [bn]
        refine z_if_eq_f 21 30 dX6_kind_18 rfl (by rw [bi_t hn]; decide) rfl ?_
        refine z_iload_n 22 dX6_kind_21 rfl rfl ?_
        refine z_iconst 23 dX6_kind_22 vi0 rfl ?_
        refine z_iconst 24 dX6_kind_23 vi1 rfl ?_
        refine y_cSs 27 (c_within) cs_X6_73 ⟨by decide, by decide, rfl, rfl⟩ (Nat.le_of_ble_eq_true rfl) dX6_kind_24 rfl rfl ?_
        rw [bw]
        refine z_if_ne_t 32 dX6_kind_27 rfl (by rw [bi_t hw]; decide) ?_
        refine z_iconst 33 dX6_kind_32 vim1 rfl ?_
        refine z_istore 35 [_, _, _, _, _, _, _, _] dX6_kind_33 (by decide) rfl rfl rfl ?_
        refine z_iconst 36 dX6_kind_35 vi0 rfl ?_
        refine z_istore 38 [_, _, _, _, _, _, _, _] dX6_kind_36 (by decide) rfl rfl rfl ?_
        refine z_iconst 39 dX6_kind_38 vi0 rfl ?_
        refine z_istore 41 [_, _, _, _, _, _, _, _] dX6_kind_39 (by decide) rfl rfl rfl ?_
        refine zup (P := fun k => ∀ τ, same τ σ → ∀ u, Y G X mX6_kind τ 41 [some (.ref (zGa G 0)), some (.int (nI c')), some (.int (nI n')), some (.int (nI w')), some (.int (kR N c' n' k).2), some (.int (kR N c' n' k).1), some (.int (nI k)), u] []) 4 ?_ (fun k hk ih => ?_) 0 (Nat.zero_le _) _ same.rf _
        · intro τ hτ u
          refine z_iload 43 dX6_kind_41 rfl rfl ?_
          refine z_iconst 44 dX6_kind_43 vi4 rfl ?_
          refine z_icmp_ge_t 107 dX6_kind_44 rfl (Int32.le_refl _) ?_
          refine z_iload_n 108 dX6_kind_107 rfl rfl ?_
          refine z_if_ne 116 111 dX6_kind_108 rfl rfl (fun h108 => ?_) (fun h108 => ?_)
          · skip
            refine z_iload 118 dX6_kind_116 rfl rfl ?_
            refine z_iret hq rfl dX6_kind_118 rfl rfl ?_
            exact ⟨_, ⟨by rw [val, if_neg h108], hτ⟩, rfl⟩
          · skip
            refine z_iload 113 dX6_kind_111 rfl rfl ?_
            refine z_goto 118 dX6_kind_113 rfl ?_
            refine z_iret hq rfl dX6_kind_118 rfl rfl ?_
            exact ⟨_, ⟨by rw [val, if_pos h108], hτ⟩, rfl⟩
        · intro τ hτ u
          have hcτ := hdc1 hc hτ
          have okk := okQ_kind (k := k) ok c5 hk
          have ozk := okZ_kind (k := k) oz c5
          have okd := okQ_daysA okk n'
          refine z_iload 43 dX6_kind_41 rfl rfl ?_
          refine z_iconst 44 dX6_kind_43 vi4 rfl ?_
          refine z_icmp_ge_f 47 107 dX6_kind_44 rfl (nI_ge (b := 4) hk (by decide)) rfl ?_
          refine z_aload_n 48 dX6_kind_47 rfl rfl ?_
          refine y_getr 51 _ sh0 rfl fl_X6_16 dX6_kind_48 rfl ?_
          refine z_aload_n 52 dX6_kind_51 rfl rfl ?_
          refine y_getr 55 _ sh0 rfl fl_X6_10 dX6_kind_52 rfl ?_
          refine y_cVv 58 _ (n_takeFrom bkm8 bkm1 (by decide) hcτ) (bk0 bkm8) cv_X6_96 ⟨by decide, by decide, rfl, rfl⟩ (Nat.le_of_ble_eq_true rfl) dX6_kind_55 rfl rfl ?_
          refine z_aload_n 59 dX6_kind_58 rfl rfl ?_
          refine y_getr 62 _ sh0 rfl fl_X6_16 dX6_kind_59 rfl ?_
          refine y_getr 65 _ (bk0 bkm8) rfl fl_X6_125 dX6_kind_62 rfl ?_
          refine z_iload_n 66 dX6_kind_65 rfl rfl ?_
          refine z_iload 68 dX6_kind_66 rfl rfl ?_
          refine p_st 69 _ (bk1 bkm8) rfl (by omega) rfl (by decide) dX6_kind_68 rfl ?_
          rw [Nat.zero_add]
          show Y G X mX6_kind (sp τ 8 (kindQ N c' k)) 69 _ _
          refine z_aload_n 70 dX6_kind_69 rfl rfl ?_
          refine y_getr 73 _ sh0 rfl fl_X6_16 dX6_kind_70 rfl ?_
          refine z_iload_n 74 dX6_kind_73 rfl rfl ?_
          refine y_cVv 77 _ (c_passDays bkm8 hds_sp okk (by omega)) (bk0 bkm8) cv_X6_187 ⟨by decide, by decide, rfl, rfl⟩ (Nat.le_of_ble_eq_true rfl) dX6_kind_74 rfl rfl ?_
          rw [sp_sp]
          refine z_aload_n 78 dX6_kind_77 rfl rfl ?_
          refine y_getr 81 _ sh0 rfl fl_X6_16 dX6_kind_78 rfl ?_
          refine y_cVs 84 _ (c_heldByAll bkm8 hds_sp okd.nc okd.np (okZ_daysA ozk okk n')) (bk0 bkm8) cv_X6_118 ⟨by decide, by decide, rfl, rfl⟩ (Nat.le_of_ble_eq_true rfl) dX6_kind_81 rfl rfl ?_
          refine z_istore 86 [_, _, _, _, _, _, _, _] dX6_kind_84 (by decide) rfl rfl rfl ?_
          refine z_iload 88 dX6_kind_86 rfl rfl ?_
          refine z_iload 90 dX6_kind_88 rfl rfl ?_
          refine z_icmp_le 101 93 dX6_kind_90 rfl rfl (fun h90 => ?_) (fun h90 => ?_)
          · skip
            have e : kR N c' n' (k + 1) = kR N c' n' k := am_f h90
            refine z_iinc 104 [_, _, _, _, _, _, _, _] dX6_kind_101 rfl (show _ + _ = nI (_ + 1) from nI_1 _) (by decide) rfl rfl rfl ?_
            refine z_goto 41 dX6_kind_104 rfl ?_
            rw [e] at ih
            exact ih _ (same_sp8 hτ) _
          · skip
            have e : kR N c' n' (k + 1) = (nI k, nI (heldA (daysA (kindQ N c' k) n'))) := am_t (Int32.not_le.mp h90)
            refine z_iload 95 dX6_kind_93 rfl rfl ?_
            refine z_istore 97 [_, _, _, _, _, _, _, _] dX6_kind_95 (by decide) rfl rfl rfl ?_
            refine z_iload 99 dX6_kind_97 rfl rfl ?_
            refine z_istore 101 [_, _, _, _, _, _, _, _] dX6_kind_99 (by decide) rfl rfl rfl ?_
            refine z_iinc 104 [_, _, _, _, _, _, _, _] dX6_kind_101 rfl (show _ + _ = nI (_ + 1) from nI_1 _) (by decide) rfl rfl rfl ?_
            refine z_goto 41 dX6_kind_104 rfl ?_
            rw [e] at ih
            exact ih _ (same_sp8 hτ) _
      · have no := no (fun h => hw h.2.2)
        refine z_aload_n 1 dX6_kind_0 rfl rfl ?_
        refine y_getr 4 _ sh0 rfl fl_X6_10 dX6_kind_1 rfl ?_
        refine z_iload_n 5 dX6_kind_4 rfl rfl ?_
        refine y_cVs 8 _ (n_hasColour bkm1 hc ok) (bk0 bkm1) cv_X6_121 ⟨by decide, by decide, rfl, rfl⟩ (Nat.le_of_ble_eq_true rfl) dX6_kind_5 rfl rfl ?_
        refine z_if_eq_f 11 30 dX6_kind_8 rfl (by rw [bi_t hi]; decide) rfl ?_
        refine z_iload_n 12 dX6_kind_11 rfl rfl ?_
        refine z_iconst 13 dX6_kind_12 vi0 rfl ?_
        refine z_bipush 15 dX6_kind_13 vb60 rfl ?_
        refine y_cSs 18 (c_within) cs_X6_73 ⟨by decide, by decide, rfl, rfl⟩ (Nat.le_of_ble_eq_true rfl) dX6_kind_15 rfl rfl ?_
        rw [bn]
        refine z_if_eq_f 21 30 dX6_kind_18 rfl (by rw [bi_t hn]; decide) rfl ?_
        refine z_iload_n 22 dX6_kind_21 rfl rfl ?_
        refine z_iconst 23 dX6_kind_22 vi0 rfl ?_
        refine z_iconst 24 dX6_kind_23 vi1 rfl ?_
        refine y_cSs 27 (c_within) cs_X6_73 ⟨by decide, by decide, rfl, rfl⟩ (Nat.le_of_ble_eq_true rfl) dX6_kind_24 rfl rfl ?_
        rw [bw]
        refine z_if_ne_f 30 32 dX6_kind_27 rfl (bi_f hw) rfl ?_
        refine z_iconst 31 dX6_kind_30 vim1 rfl ?_
        refine z_iret hq rfl dX6_kind_31 rfl rfl ?_
        exact ⟨_, no, rfl⟩
    · have no := no (fun h => hn h.2.1)
      refine z_aload_n 1 dX6_kind_0 rfl rfl ?_
      refine y_getr 4 _ sh0 rfl fl_X6_10 dX6_kind_1 rfl ?_
      refine z_iload_n 5 dX6_kind_4 rfl rfl ?_
      refine y_cVs 8 _ (n_hasColour bkm1 hc ok) (bk0 bkm1) cv_X6_121 ⟨by decide, by decide, rfl, rfl⟩ (Nat.le_of_ble_eq_true rfl) dX6_kind_5 rfl rfl ?_
      refine z_if_eq_f 11 30 dX6_kind_8 rfl (by rw [bi_t hi]; decide) rfl ?_
      refine z_iload_n 12 dX6_kind_11 rfl rfl ?_
      refine z_iconst 13 dX6_kind_12 vi0 rfl ?_
      refine z_bipush 15 dX6_kind_13 vb60 rfl ?_
      refine y_cSs 18 (c_within) cs_X6_73 ⟨by decide, by decide, rfl, rfl⟩ (Nat.le_of_ble_eq_true rfl) dX6_kind_15 rfl rfl ?_
      rw [bn]
      refine z_if_eq_t 30 dX6_kind_18 rfl (bi_f hn) ?_
      refine z_iconst 31 dX6_kind_30 vim1 rfl ?_
      refine z_iret hq rfl dX6_kind_31 rfl rfl ?_
      exact ⟨_, no, rfl⟩
  · have no := no (fun h => hi h.1)
    refine z_aload_n 1 dX6_kind_0 rfl rfl ?_
    refine y_getr 4 _ sh0 rfl fl_X6_10 dX6_kind_1 rfl ?_
    refine z_iload_n 5 dX6_kind_4 rfl rfl ?_
    refine y_cVs 8 _ (n_hasColour bkm1 hc ok) (bk0 bkm1) cv_X6_121 ⟨by decide, by decide, rfl, rfl⟩ (Nat.le_of_ble_eq_true rfl) dX6_kind_5 rfl rfl ?_
    refine z_if_eq_t 30 dX6_kind_8 rfl (bi_f hi) ?_
    refine z_iconst 31 dX6_kind_30 vim1 rfl ?_
    refine z_iret hq rfl dX6_kind_31 rfl rfl ?_
    exact ⟨_, no, rfl⟩
set_option maxRecDepth 100000 in
set_option maxHeartbeats 2000000 in
theorem r_kind {l : Launch} {G : zG} {σ : Nat → Int32} {N : Pg} {c n w : Int32} (hc : hdk σ 0 N) (ok : okQ N) (hs : N 54 ≤ 1000000) : zMet l yX7_kind mX7_kind [.ref (zGa G 158), .int c, .int n, .int w] G (zW G σ) (zP G (pQ σ (vKind N c n w))) := by
  have b5 := ok.nc
  have bn : bi ((0 : Int64) ≤ n.toInt64 ∧ n.toInt64 ≤ 60) = bi (inR n 61) := bi_in7 (n := 60) (by decide)
  have bw : bi ((0 : Int64) ≤ w.toInt64 ∧ w.toInt64 ≤ 1) = bi (inR w 2) := bi_in7 (n := 1) (by decide)
  have no : ¬ (inR c (N 56) ∧ inR n 61 ∧ inR w 2) → pQ σ (vKind N c n w) (some (.int (-1))) σ := fun h => ⟨by rw [vKind, if_neg h], same.rf⟩
  have hdr_rsp : ∀ {τ : Nat → Int32} {R : Pg}, hdr (rsp τ 275 R) 275 R := hdr_rsp' (by decide)
  have hdr_220 : ∀ {τ : Nat → Int32} {R : Pg}, hdr (rsp τ 220 R) 220 R := hdr_rsp' (by decide)
  refine zMet.of (by decide) rfl (Nat.le_of_ble_eq_true rfl) (Or.inr rfl) fun X hX hq => ?_
  subst hX
  show Y G X mX7_kind σ 0 [some (.ref (zGa G 158)), some (.int c), some (.int n), some (.int w), none, none, none, none] []
  by_cases hi : inR c (N 56)
  · by_cases hn : inR n 61
    · by_cases hw : inR w 2
      · obtain ⟨c', hc', rfl⟩ := inR_of hi (by omega)
        obtain ⟨n', hn', rfl⟩ := inR_of hn (by decide)
        obtain ⟨w', hw', rfl⟩ := inR_of hw (by decide)
        have c5 : c' < 5 := by omega
        have val : vKind N (nI c') (nI n') (nI w') = if nI w' = 0 then (kR N c' n' 4).1 else (kR N c' n' 4).2 := by rw [vKind, if_pos ⟨hi, hn, hw⟩, nN_nI (by omega), nN_nI (by omega)]
        refine z_aload_n 1 dX7_kind_0 rfl rfl ?_
        refine z_iload_n 2 dX7_kind_1 rfl rfl ?_
        refine y_cVs 5 _ (q_isColour (o := 0) hc ok) sh158 cv_X7_176 ⟨by decide, by decide, rfl, rfl⟩ (Nat.le_of_ble_eq_true rfl) dX7_kind_2 rfl rfl ?_
        refine z_if_eq_f 8 30 dX7_kind_5 rfl (by rw [bi_t hi]; decide) rfl ?_
        refine z_iload_n 9 dX7_kind_8 rfl rfl ?_
        refine z_i2l 10 dX7_kind_9 rfl ?_
        refine z_lconst 11 dX7_kind_10 vl0 rfl ?_
        refine z_ldc2 14 kc_X7_218 dX7_kind_11 rfl ?_
        refine y_cSs 17 (c_in) cs_X7_55 ⟨by decide, by decide, rfl, rfl⟩ (Nat.le_of_ble_eq_true rfl) dX7_kind_14 rfl rfl ?_
        rw [bn]
        refine z_if_eq_f 20 30 dX7_kind_17 rfl (by rw [bi_t hn]; decide) rfl ?_
        refine z_iload_n 21 dX7_kind_20 rfl rfl ?_
        refine z_i2l 22 dX7_kind_21 rfl ?_
        refine z_lconst 23 dX7_kind_22 vl0 rfl ?_
        refine z_lconst 24 dX7_kind_23 vl1 rfl ?_
        refine y_cSs 27 (c_in) cs_X7_55 ⟨by decide, by decide, rfl, rfl⟩ (Nat.le_of_ble_eq_true rfl) dX7_kind_24 rfl rfl ?_
        rw [bw]
        refine z_if_ne_t 32 dX7_kind_27 rfl (by rw [bi_t hw]; decide) ?_
        refine z_iconst 33 dX7_kind_32 vim1 rfl ?_
        refine z_istore 35 [_, _, _, _, _, _, _, _] dX7_kind_33 (by decide) rfl rfl rfl ?_
        refine z_iconst 36 dX7_kind_35 vi0 rfl ?_
        refine z_istore 38 [_, _, _, _, _, _, _, _] dX7_kind_36 (by decide) rfl rfl rfl ?_
        refine z_iconst 39 dX7_kind_38 vi0 rfl ?_
        refine z_istore 41 [_, _, _, _, _, _, _, _] dX7_kind_39 (by decide) rfl rfl rfl ?_
        refine zup (P := fun k => ∀ τ, same τ σ → ∀ u, Y G X mX7_kind τ 41 [some (.ref (zGa G 158)), some (.int (nI c')), some (.int (nI n')), some (.int (nI w')), some (.int (kR N c' n' k).2), some (.int (kR N c' n' k).1), some (.int (nI k)), u] []) 4 ?_ (fun k hk ih => ?_) 0 (Nat.zero_le _) _ same.rf _
        · intro τ hτ u
          refine z_iload 43 dX7_kind_41 rfl rfl ?_
          refine z_iconst 44 dX7_kind_43 vi4 rfl ?_
          refine z_icmp_ge_t 123 dX7_kind_44 rfl (Int32.le_refl _) ?_
          refine z_iload_n 124 dX7_kind_123 rfl rfl ?_
          refine z_if_ne 132 127 dX7_kind_124 rfl rfl (fun h124 => ?_) (fun h124 => ?_)
          · skip
            refine z_iload 134 dX7_kind_132 rfl rfl ?_
            refine z_iret hq rfl dX7_kind_134 rfl rfl ?_
            exact ⟨_, ⟨by rw [val, if_neg h124], hτ⟩, rfl⟩
          · skip
            refine z_iload 129 dX7_kind_127 rfl rfl ?_
            refine z_goto 134 dX7_kind_129 rfl ?_
            refine z_iret hq rfl dX7_kind_134 rfl rfl ?_
            exact ⟨_, ⟨by rw [val, if_pos h124], hτ⟩, rfl⟩
        · intro τ hτ u
          have hcτ := hdk0 hc hτ
          have eE : eqc (exq τ 275 N) N := exq_c
          have cpe := cp_rsp hcτ (t := 275) (by decide) (by decide) (by decide)
          generalize exq τ 275 N = E at eE cpe
          have e4 : eqc (un E c' k) (kindQ N c' k) := un_c (eE.trans eqc_nrm.symm)
          have okk := okQ_kind (k := k) ok c5 hk
          have okl := okk.eqc e4
          have okd := okQ_daysA (okQ_nrm okl) n'
          have l54 : un E c' k 54 = N 54 := by rw [un_n (by omega)]; exact eE 54 (by decide)
          have l56 : un E c' k 56 = N 56 := by rw [un_n (by omega)]; exact eE 56 (by decide)
          have l57 : un E c' k 57 = N 57 := by rw [un_n (by omega)]; exact eE 57 (by decide)
          have hv : heldA (daysA (nrm (un E c' k)) n') = heldA (daysA (kindQ N c' k) n') := heldA_c (daysA_c (eqc_nrm.trans e4) okk n') (okQ_daysA okk n').nc (okQ_daysA okk n').np
          have s1 : same (rsp τ 275 (un E c' k)) σ := same_rsp hτ (by decide) (by rw [l56]; exact hcτ 56 (by decide)) (by rw [l57]; exact hcτ 57 (by decide))
          have s2 : ∀ x, same (rsp (upd (rsp τ 275 (un E c' k)) (400 * 158 + 22) x) 220 (daysA (nrm (un E c' k)) n')) σ := fun x => same_d220 s1 (by rw [(rsp_56 (by decide)).1, (daysA_56 (okQ_nrm okl) n').1, nrm_c (by decide)]) (by rw [(rsp_56 (by decide)).2, (daysA_56 (okQ_nrm okl) n').2.1, nrm_c (by decide)])
          refine z_iload 43 dX7_kind_41 rfl rfl ?_
          refine z_iconst 44 dX7_kind_43 vi4 rfl ?_
          refine z_icmp_ge_f 47 123 dX7_kind_44 rfl (nI_ge (b := 4) hk (by decide)) rfl ?_
          refine z_aload_n 48 dX7_kind_47 rfl rfl ?_
          refine z_iconst 49 dX7_kind_48 vi0 rfl ?_
          refine z_sipush 52 dX7_kind_49 vs275 rfl ?_
          refine y_cVv 55 _ (c_copies (f := 0) (t := 275) (by decide) (by decide) (by decide)) sh158 cv_X7_212 ⟨by decide, by decide, rfl, rfl⟩ (Nat.le_of_ble_eq_true rfl) dX7_kind_52 rfl rfl ?_
          rw [cpe]
          skip
          refine z_aload_n 56 dX7_kind_55 rfl rfl ?_
          refine y_getr 59 _ sh158 rfl fl_X7_7 dX7_kind_56 rfl ?_
          refine z_sipush 62 dX7_kind_59 vs275 rfl ?_
          refine z_iload_n 63 dX7_kind_62 rfl rfl ?_
          refine z_iaddN 64 (show (275 : Int32) = nI 275 from rfl) rfl dX7_kind_63 rfl ?_
          refine z_iload 66 dX7_kind_64 rfl rfl ?_
          refine w_st 67 c' rfl (by omega) (by omega) (by omega) rfl dX7_kind_66 rfl ?_
          refine z_aload_n 68 dX7_kind_67 rfl rfl ?_
          refine z_sipush 71 dX7_kind_68 vs275 rfl ?_
          refine z_iload_n 72 dX7_kind_71 rfl rfl ?_
          refine y_cVs 75 _ (c_daysGo (o := 275) hdr_rsp.k (by decide) okl (by omega) (by omega)) sh158 cv_X7_222 ⟨by decide, by decide, rfl, rfl⟩ (Nat.le_of_ble_eq_true rfl) dX7_kind_72 rfl rfl ?_
          refine z_pop 76 dX7_kind_75 rfl rfl ?_
          refine z_aload_n 77 dX7_kind_76 rfl rfl ?_
          refine z_sipush 80 dX7_kind_77 vs220 rfl ?_
          refine y_cVs 83 _ (c_heldByAll7 (o := 220) hdr_220 (by decide) okd.nc okd.np) sh158 cv_X7_173 ⟨by decide, by decide, rfl, rfl⟩ (Nat.le_of_ble_eq_true rfl) dX7_kind_80 rfl rfl ?_
          rw [hv]
          refine z_istore 85 [_, _, _, _, _, _, _, _] dX7_kind_83 (by decide) rfl rfl rfl ?_
          refine z_iload 87 dX7_kind_85 rfl rfl ?_
          refine z_iload 89 dX7_kind_87 rfl rfl ?_
          refine z_icmp_le 97 92 dX7_kind_89 rfl rfl (fun h89 => ?_) (fun h89 => ?_)
          · skip
            have e : kR N c' n' (k + 1) = kR N c' n' k := am_f h89
            refine z_iload 99 dX7_kind_97 rfl rfl ?_
            refine z_istore 101 [_, _, _, _, _, _, _, _] dX7_kind_99 (by decide) rfl rfl rfl ?_
            refine z_iload 103 dX7_kind_101 rfl rfl ?_
            refine z_iload 105 dX7_kind_103 rfl rfl ?_
            refine z_icmp_le_t 113 dX7_kind_105 rfl (h89) ?_
            refine z_iload 115 dX7_kind_113 rfl rfl ?_
            refine z_istore 117 [_, _, _, _, _, _, _, _] dX7_kind_115 (by decide) rfl rfl rfl ?_
            refine z_iinc 120 [_, _, _, _, _, _, _, _] dX7_kind_117 rfl (show _ + _ = nI (_ + 1) from nI_1 _) (by decide) rfl rfl rfl ?_
            refine z_goto 41 dX7_kind_120 rfl ?_
            rw [e] at ih
            exact ih _ (s2 _) _
          · skip
            have e : kR N c' n' (k + 1) = (nI k, nI (heldA (daysA (kindQ N c' k) n'))) := am_t (Int32.not_le.mp h89)
            refine z_iload 94 dX7_kind_92 rfl rfl ?_
            refine z_goto 99 dX7_kind_94 rfl ?_
            refine z_istore 101 [_, _, _, _, _, _, _, _] dX7_kind_99 (by decide) rfl rfl rfl ?_
            refine z_iload 103 dX7_kind_101 rfl rfl ?_
            refine z_iload 105 dX7_kind_103 rfl rfl ?_
            refine z_icmp_le_f 108 113 dX7_kind_105 rfl (h89) rfl ?_
            refine z_iload 110 dX7_kind_108 rfl rfl ?_
            refine z_goto 115 dX7_kind_110 rfl ?_
            refine z_istore 117 [_, _, _, _, _, _, _, _] dX7_kind_115 (by decide) rfl rfl rfl ?_
            refine z_iinc 120 [_, _, _, _, _, _, _, _] dX7_kind_117 rfl (show _ + _ = nI (_ + 1) from nI_1 _) (by decide) rfl rfl rfl ?_
            refine z_goto 41 dX7_kind_120 rfl ?_
            rw [e] at ih
            exact ih _ (s2 _) _
      · have no := no (fun h => hw h.2.2)
        refine z_aload_n 1 dX7_kind_0 rfl rfl ?_
        refine z_iload_n 2 dX7_kind_1 rfl rfl ?_
        refine y_cVs 5 _ (q_isColour (o := 0) hc ok) sh158 cv_X7_176 ⟨by decide, by decide, rfl, rfl⟩ (Nat.le_of_ble_eq_true rfl) dX7_kind_2 rfl rfl ?_
        refine z_if_eq_f 8 30 dX7_kind_5 rfl (by rw [bi_t hi]; decide) rfl ?_
        refine z_iload_n 9 dX7_kind_8 rfl rfl ?_
        refine z_i2l 10 dX7_kind_9 rfl ?_
        refine z_lconst 11 dX7_kind_10 vl0 rfl ?_
        refine z_ldc2 14 kc_X7_218 dX7_kind_11 rfl ?_
        refine y_cSs 17 (c_in) cs_X7_55 ⟨by decide, by decide, rfl, rfl⟩ (Nat.le_of_ble_eq_true rfl) dX7_kind_14 rfl rfl ?_
        rw [bn]
        refine z_if_eq_f 20 30 dX7_kind_17 rfl (by rw [bi_t hn]; decide) rfl ?_
        refine z_iload_n 21 dX7_kind_20 rfl rfl ?_
        refine z_i2l 22 dX7_kind_21 rfl ?_
        refine z_lconst 23 dX7_kind_22 vl0 rfl ?_
        refine z_lconst 24 dX7_kind_23 vl1 rfl ?_
        refine y_cSs 27 (c_in) cs_X7_55 ⟨by decide, by decide, rfl, rfl⟩ (Nat.le_of_ble_eq_true rfl) dX7_kind_24 rfl rfl ?_
        rw [bw]
        refine z_if_ne_f 30 32 dX7_kind_27 rfl (bi_f hw) rfl ?_
        refine z_iconst 31 dX7_kind_30 vim1 rfl ?_
        refine z_iret hq rfl dX7_kind_31 rfl rfl ?_
        exact ⟨_, no, rfl⟩
    · have no := no (fun h => hn h.2.1)
      refine z_aload_n 1 dX7_kind_0 rfl rfl ?_
      refine z_iload_n 2 dX7_kind_1 rfl rfl ?_
      refine y_cVs 5 _ (q_isColour (o := 0) hc ok) sh158 cv_X7_176 ⟨by decide, by decide, rfl, rfl⟩ (Nat.le_of_ble_eq_true rfl) dX7_kind_2 rfl rfl ?_
      refine z_if_eq_f 8 30 dX7_kind_5 rfl (by rw [bi_t hi]; decide) rfl ?_
      refine z_iload_n 9 dX7_kind_8 rfl rfl ?_
      refine z_i2l 10 dX7_kind_9 rfl ?_
      refine z_lconst 11 dX7_kind_10 vl0 rfl ?_
      refine z_ldc2 14 kc_X7_218 dX7_kind_11 rfl ?_
      refine y_cSs 17 (c_in) cs_X7_55 ⟨by decide, by decide, rfl, rfl⟩ (Nat.le_of_ble_eq_true rfl) dX7_kind_14 rfl rfl ?_
      rw [bn]
      refine z_if_eq_t 30 dX7_kind_17 rfl (bi_f hn) ?_
      refine z_iconst 31 dX7_kind_30 vim1 rfl ?_
      refine z_iret hq rfl dX7_kind_31 rfl rfl ?_
      exact ⟨_, no, rfl⟩
  · have no := no (fun h => hi h.1)
    refine z_aload_n 1 dX7_kind_0 rfl rfl ?_
    refine z_iload_n 2 dX7_kind_1 rfl rfl ?_
    refine y_cVs 5 _ (q_isColour (o := 0) hc ok) sh158 cv_X7_176 ⟨by decide, by decide, rfl, rfl⟩ (Nat.le_of_ble_eq_true rfl) dX7_kind_2 rfl rfl ?_
    refine z_if_eq_t 30 dX7_kind_5 rfl (bi_f hi) ?_
    refine z_iconst 31 dX7_kind_30 vim1 rfl ?_
    refine z_iret hq rfl dX7_kind_31 rfl rfl ?_
    exact ⟨_, no, rfl⟩

