/-! ===== need ===== -/
theorem daysO_mono {Q : Pg} {p : Nat} (ok : okQ Q) (hp : p < 4) : ∀ d k, daysO Q p k 54 ≤ daysO Q p (k + d) 54
  | 0, _ => Nat.le_refl _
  | d + 1, k => by
    have h1 := daysO_mono ok hp d k
    have h2 := (dayO_54 (t := 1) (okQ_daysO (p := p) ok hp (k + d)) hp).1
    rw [show k + (d + 1) = (k + d) + 1 by omega, daysO]; omega
def earnQ (N : Pg) (p v : Nat) : Pg := un (nrm N) (29 + p) v
theorem okQ_earn {N : Pg} {p v : Nat} (ok : okQ N) (hp : p < 4) (hv : v ≤ 99) : okQ (earnQ N p v) := okQ_un (okQ_nrm ok) (fun _ => by
  simp only [bnd]; rw [if_neg (by omega), if_neg (by omega), if_neg (by omega), if_neg (by omega), if_pos (by omega)]; exact hv)
theorem earn_54 {N : Pg} {p v : Nat} (hp : p < 4) : earnQ N p v 54 = N 54 := by rw [earnQ, un_n (by omega)]; exact nrm_c (by decide)
def vNeed (N : Pg) (p n : Int32) : Int32 := if inR p (N 57) ∧ inR n 61 then fz (fun v => sz (earnQ N (nN p) v) (nN p) (nN n)) 0 100 else -1
set_option maxRecDepth 100000 in
theorem c_keepsAll {l : Launch} {G : zG} {σ : Nat → Int32} {N : Pg} {p n e : Nat} (hc : hdc σ 1 N) (ok : okQ N) (hs : N 54 ≤ 1000000) (hp : p < 4) (hn : n ≤ 60) (he : e ≤ 99) : zMet l yX6_keepsAll mX6_keepsAll [.ref (zGa G 0), .int (nI p), .int (nI n), .int (nI e)] G (zW G σ) (zP G (fun v σ' => v = some (.int (bi (sz (earnQ N p e) p n = 0))) ∧ ∃ R, σ' = sp σ 8 R)) := by
  have okw := okQ_earn ok hp he
  have w54 := earn_54 (N := N) (v := e) hp
  have hc8 : ∀ {R : Pg}, hdc (sp σ 8 R) 1 N := hdc_off hc (by decide)
  refine zMet.of (by decide) rfl (Nat.le_of_ble_eq_true rfl) (Or.inr rfl) fun X hX hq => ?_
  subst hX
  show Y G X mX6_keepsAll σ 0 [some (.ref (zGa G 0)), some (.int (nI p)), some (.int (nI n)), some (.int (nI e)), none] []
  refine z_aload_n 1 dX6_keepsAll_0 rfl rfl ?_
  refine y_getr 4 _ sh0 rfl fl_X6_16 dX6_keepsAll_1 rfl ?_
  refine z_aload_n 5 dX6_keepsAll_4 rfl rfl ?_
  refine y_getr 8 _ sh0 rfl fl_X6_10 dX6_keepsAll_5 rfl ?_
  refine y_cVv 11 _ (n_takeFrom bkm8 bkm1 (by decide) hc) (bk0 bkm8) cv_X6_96 ⟨by decide, by decide, rfl, rfl⟩ (Nat.le_of_ble_eq_true rfl) dX6_keepsAll_8 rfl rfl ?_
  refine z_aload_n 12 dX6_keepsAll_11 rfl rfl ?_
  refine y_getr 15 _ sh0 rfl fl_X6_16 dX6_keepsAll_12 rfl ?_
  refine y_getr 18 _ (bk0 bkm8) rfl fl_X6_147 dX6_keepsAll_15 rfl ?_
  refine z_iload_n 19 dX6_keepsAll_18 rfl rfl ?_
  refine z_iload_n 20 dX6_keepsAll_19 rfl rfl ?_
  refine p_st 21 _ (bk5 bkm8) rfl (by omega) rfl (by decide) dX6_keepsAll_20 rfl ?_
  show Y G X mX6_keepsAll (sp σ 8 (earnQ N p e)) 21 _ _
  refine z_iconst 22 dX6_keepsAll_21 vi0 rfl ?_
  refine z_istore 24 [_, _, _, _, _] dX6_keepsAll_22 (by decide) rfl rfl rfl ?_
  refine zup (P := fun i => sz (earnQ N p e) p i = 0 → Y G X mX6_keepsAll (sp σ 8 (daysO (earnQ N p e) p i)) 24 [some (.ref (zGa G 0)), some (.int (nI p)), some (.int (nI n)), some (.int (nI e)), some (.int (nI i))] []) n ?_ (fun i hi ih => ?_) 0 (Nat.zero_le _) (by simp only [sz, daysO]; omega)
  · intro h0
    refine z_iload 26 dX6_keepsAll_24 rfl rfl ?_
    refine z_iload_n 27 dX6_keepsAll_26 rfl rfl ?_
    refine z_icmp_ge_t 64 dX6_keepsAll_27 rfl (Int32.le_refl _) ?_
    refine z_iconst 65 dX6_keepsAll_64 vi1 rfl ?_
    refine z_zret hq rfl rfl dX6_keepsAll_65 rfl rfl ?_
    exact ⟨_, ⟨by rw [bi_t h0], _, rfl⟩, rfl⟩
  · intro h0
    have oki := okQ_daysO okw hp i
    have a1 := daysO_54 okw hp (i + 1)
    have a2 := daysO_mono okw hp (n - (i + 1)) (i + 1)
    rw [show i + 1 + (n - (i + 1)) = n by omega] at a2
    have a3 := daysO_54 okw hp n
    have ed : daysO (earnQ N p e) p (i + 1) = dayO (daysO (earnQ N p e) p i) p 1 := rfl
    rw [ed, w54] at a1
    rw [ed] at a2
    rw [w54] at a3
    refine z_iload 26 dX6_keepsAll_24 rfl rfl ?_
    refine z_iload_n 27 dX6_keepsAll_26 rfl rfl ?_
    refine z_icmp_ge_f 30 64 dX6_keepsAll_27 rfl (nI_ge hi (by omega)) rfl ?_
    refine z_aload_n 31 dX6_keepsAll_30 rfl rfl ?_
    refine y_getr 34 _ sh0 rfl fl_X6_16 dX6_keepsAll_31 rfl ?_
    refine z_iload_n 35 dX6_keepsAll_34 rfl rfl ?_
    refine z_iconst 36 dX6_keepsAll_35 vi1 rfl ?_
    refine y_cVv 39 _ (c_passDayOfOne (t := 1) bkm8 hds_sp oki hp (by decide)) (bk0 bkm8) cv_X6_201 ⟨by decide, by decide, rfl, rfl⟩ (Nat.le_of_ble_eq_true rfl) dX6_keepsAll_36 rfl rfl ?_
    rw [sp_sp]
    refine z_aload_n 40 dX6_keepsAll_39 rfl rfl ?_
    refine y_getr 43 _ sh0 rfl fl_X6_16 dX6_keepsAll_40 rfl ?_
    refine p_get 46 bkm8 rfl fl_X6_112 dX6_keepsAll_43 rfl ?_
    refine z_aload_n 47 dX6_keepsAll_46 rfl rfl ?_
    refine y_getr 50 _ sh0 rfl fl_X6_10 dX6_keepsAll_47 rfl ?_
    refine k_get 53 bkm1 hc8 rfl (by decide) fl_X6_112 dX6_keepsAll_50 rfl ?_
    refine z_icmp_le 58 56 dX6_keepsAll_53 rfl rfl (fun h53 => ?_) (fun h53 => ?_)
    · skip
      have h1 := (nI_leI (by omega) (by omega)).mp h53
      refine z_iinc 61 [_, _, _, _, _] dX6_keepsAll_58 rfl (show _ + _ = nI (_ + 1) from nI_1 _) (by decide) rfl rfl rfl ?_
      refine z_goto 24 dX6_keepsAll_61 rfl ?_
      exact ih (by simp only [sz, w54, ed]; omega)
    · skip
      have h1 : N 54 < dayO (daysO (earnQ N p e) p i) p 1 54 := by
          rcases Nat.lt_or_ge (N 54) (dayO (daysO (earnQ N p e) p i) p 1 54) with q | q
          · exact q
          · exact absurd (nI_le q (by omega)) h53
      refine z_iconst 57 dX6_keepsAll_56 vi0 rfl ?_
      refine z_zret hq rfl rfl dX6_keepsAll_57 rfl rfl ?_
      exact ⟨_, ⟨by rw [bi_f (by simp only [sz, w54]; omega)], _, rfl⟩, rfl⟩
set_option maxRecDepth 100000 in
theorem x_need {l : Launch} {G : zG} {σ : Nat → Int32} {N : Pg} {p n : Int32} (hc : hdc σ 1 N) (ok : okQ N) (hs : N 54 ≤ 1000000) : zMet l yX6_need mX6_need [.ref (zGa G 0), .int p, .int n] G (zW G σ) (zP G (pQ σ (vNeed N p n))) := by
  have b4 := ok.np
  have bn : bi ((0 : Int32) ≤ n ∧ n ≤ 60) = bi (inR n 61) := bi_cg (le_inR (n := 60) (by decide))
  have no : ¬ (inR p (N 57) ∧ inR n 61) → pQ σ (vNeed N p n) (some (.int (-1))) σ := fun h => ⟨by rw [vNeed, if_neg h], same.rf⟩
  refine zMet.of (by decide) rfl (Nat.le_of_ble_eq_true rfl) (Or.inr rfl) fun X hX hq => ?_
  subst hX
  show Y G X mX6_need σ 0 [some (.ref (zGa G 0)), some (.int p), some (.int n), none] []
  by_cases hp : inR p (N 57)
  · by_cases hn : inR n 61
    · obtain ⟨p', hp', rfl⟩ := inR_of hp (by omega)
      obtain ⟨n', hn', rfl⟩ := inR_of hn (by decide)
      have p4 : p' < 4 := by omega
      have val : vNeed N (nI p') (nI n') = fz (fun v => sz (earnQ N p' v) p' n') 0 (100 - 0) := by rw [vNeed, if_pos ⟨hp, hn⟩, nN_nI (by omega), nN_nI (by omega)]
      refine z_aload_n 1 dX6_need_0 rfl rfl ?_
      refine y_getr 4 _ sh0 rfl fl_X6_10 dX6_need_1 rfl ?_
      refine z_iload_n 5 dX6_need_4 rfl rfl ?_
      refine y_cVs 8 _ (n_hasOne bkm1 hc ok) (bk0 bkm1) cv_X6_141 ⟨by decide, by decide, rfl, rfl⟩ (Nat.le_of_ble_eq_true rfl) dX6_need_5 rfl rfl ?_
      refine z_if_eq_f 11 21 dX6_need_8 rfl (by rw [bi_t hp]; decide) rfl ?_
      refine z_iload_n 12 dX6_need_11 rfl rfl ?_
      refine z_iconst 13 dX6_need_12 vi0 rfl ?_
      refine z_bipush 15 dX6_need_13 vb60 rfl ?_
      refine y_cSs 18 (c_within) cs_X6_73 ⟨by decide, by decide, rfl, rfl⟩ (Nat.le_of_ble_eq_true rfl) dX6_need_15 rfl rfl ?_
      rw [bn]
      refine z_if_ne_t 23 dX6_need_18 rfl (by rw [bi_t hn]; decide) ?_
      refine z_iconst 24 dX6_need_23 vi0 rfl ?_
      refine z_istore_n 25 [_, _, _, _] dX6_need_24 (by decide) rfl rfl rfl ?_
      refine zup (P := fun k => ∀ τ, same τ σ → vNeed N (nI p') (nI n') = fz (fun v => sz (earnQ N p' v) p' n') k (100 - k) → Y G X mX6_need τ 25 [some (.ref (zGa G 0)), some (.int (nI p')), some (.int (nI n')), some (.int (nI k))] []) 100 ?_ (fun k hk ih => ?_) 0 (Nat.zero_le _) _ same.rf val
      · intro τ hτ hv
        rw [fz_e] at hv
        refine z_iload_n 26 dX6_need_25 rfl rfl ?_
        refine z_bipush 28 dX6_need_26 vb99 rfl ?_
        refine z_icmp_gt_t 49 dX6_need_28 rfl (by decide) ?_
        refine z_bipush 51 dX6_need_49 vbm4 rfl ?_
        refine z_iret hq rfl dX6_need_51 rfl rfl ?_
        exact ⟨_, ⟨by rw [hv], hτ⟩, rfl⟩
      · intro τ hτ hv
        rw [fz_s hk] at hv
        refine z_iload_n 26 dX6_need_25 rfl rfl ?_
        refine z_bipush 28 dX6_need_26 vb99 rfl ?_
        refine z_icmp_gt_f 31 49 dX6_need_28 rfl (nI_nlt (a := 99) (b := k) (by omega) (by omega)) rfl ?_
        refine z_aload_n 32 dX6_need_31 rfl rfl ?_
        refine z_iload_n 33 dX6_need_32 rfl rfl ?_
        refine z_iload_n 34 dX6_need_33 rfl rfl ?_
        refine z_iload_n 35 dX6_need_34 rfl rfl ?_
        refine y_cVP 38 _ (c_keepsAll (hdc1 hc hτ) ok hs p4 (by omega) (by omega)) sh0 cv_X6_228 ⟨by decide, by decide, rfl, rfl⟩ (Nat.le_of_ble_eq_true rfl) dX6_need_35 rfl rfl (fun v35 σ35 hp35 => ?_)
        obtain ⟨e1, R', e2⟩ := hp35
        rw [e1, e2]
        show Y G X mX6_need _ 38 _ [.int _]
        refine z_if_eq 43 41 dX6_need_38 rfl rfl (fun h38 => ?_) (fun h38 => ?_)
        · skip
          have h0 : ¬ sz (earnQ N p' k) p' n' = 0 := bi0.mp h38
          rw [if_neg h0] at hv
          refine z_iinc 46 [_, _, _, _] dX6_need_43 rfl (show _ + _ = nI (_ + 1) from nI_1 _) (by decide) rfl rfl rfl ?_
          refine z_goto 25 dX6_need_46 rfl ?_
          exact ih _ (same_sp8 hτ) hv
        · skip
          have h0 : sz (earnQ N p' k) p' n' = 0 := bin0.mp h38
          rw [if_pos h0] at hv
          refine z_iload_n 42 dX6_need_41 rfl rfl ?_
          refine z_iret hq rfl dX6_need_42 rfl rfl ?_
          exact ⟨_, ⟨by rw [hv], same_sp8 hτ⟩, rfl⟩
    · have no := no (fun h => hn h.2)
      refine z_aload_n 1 dX6_need_0 rfl rfl ?_
      refine y_getr 4 _ sh0 rfl fl_X6_10 dX6_need_1 rfl ?_
      refine z_iload_n 5 dX6_need_4 rfl rfl ?_
      refine y_cVs 8 _ (n_hasOne bkm1 hc ok) (bk0 bkm1) cv_X6_141 ⟨by decide, by decide, rfl, rfl⟩ (Nat.le_of_ble_eq_true rfl) dX6_need_5 rfl rfl ?_
      refine z_if_eq_f 11 21 dX6_need_8 rfl (by rw [bi_t hp]; decide) rfl ?_
      refine z_iload_n 12 dX6_need_11 rfl rfl ?_
      refine z_iconst 13 dX6_need_12 vi0 rfl ?_
      refine z_bipush 15 dX6_need_13 vb60 rfl ?_
      refine y_cSs 18 (c_within) cs_X6_73 ⟨by decide, by decide, rfl, rfl⟩ (Nat.le_of_ble_eq_true rfl) dX6_need_15 rfl rfl ?_
      rw [bn]
      refine z_if_ne_f 21 23 dX6_need_18 rfl (bi_f hn) rfl ?_
      refine z_iconst 22 dX6_need_21 vim1 rfl ?_
      refine z_iret hq rfl dX6_need_22 rfl rfl ?_
      exact ⟨_, no, rfl⟩
  · have no := no (fun h => hp h.1)
    refine z_aload_n 1 dX6_need_0 rfl rfl ?_
    refine y_getr 4 _ sh0 rfl fl_X6_10 dX6_need_1 rfl ?_
    refine z_iload_n 5 dX6_need_4 rfl rfl ?_
    refine y_cVs 8 _ (n_hasOne bkm1 hc ok) (bk0 bkm1) cv_X6_141 ⟨by decide, by decide, rfl, rfl⟩ (Nat.le_of_ble_eq_true rfl) dX6_need_5 rfl rfl ?_
    refine z_if_eq_t 21 dX6_need_8 rfl (bi_f hp) ?_
    refine z_iconst 22 dX6_need_21 vim1 rfl ?_
    refine z_iret hq rfl dX6_need_22 rfl rfl ?_
    exact ⟨_, no, rfl⟩
set_option maxRecDepth 100000 in
set_option maxHeartbeats 2000000 in
theorem r_need {l : Launch} {G : zG} {σ : Nat → Int32} {N : Pg} {p n : Int32} (hc : hdk σ 0 N) (ok : okQ N) (hs : N 54 ≤ 1000000) : zMet l yX7_need mX7_need [.ref (zGa G 158), .int p, .int n] G (zW G σ) (zP G (pQ σ (vNeed N p n))) := by
  have b4 := ok.np
  have bn : bi ((0 : Int64) ≤ n.toInt64 ∧ n.toInt64 ≤ 60) = bi (inR n 61) := bi_in7 (n := 60) (by decide)
  have no : ¬ (inR p (N 57) ∧ inR n 61) → pQ σ (vNeed N p n) (some (.int (-1))) σ := fun h => ⟨by rw [vNeed, if_neg h], same.rf⟩
  have hdr_rsp : ∀ {τ : Nat → Int32} {R : Pg}, hdr (rsp τ 275 R) 275 R := hdr_rsp' (by decide)
  have hdr_220 : ∀ {τ : Nat → Int32} {R : Pg}, hdr (rsp τ 220 R) 220 R := hdr_rsp' (by decide)
  refine zMet.of (by decide) rfl (Nat.le_of_ble_eq_true rfl) (Or.inr rfl) fun X hX hq => ?_
  subst hX
  show Y G X mX7_need σ 0 [some (.ref (zGa G 158)), some (.int p), some (.int n), none] []
  by_cases hp : inR p (N 57)
  · by_cases hn : inR n 61
    · obtain ⟨p', hp', rfl⟩ := inR_of hp (by omega)
      obtain ⟨n', hn', rfl⟩ := inR_of hn (by decide)
      have p4 : p' < 4 := by omega
      have val : vNeed N (nI p') (nI n') = fz (fun v => sz (earnQ N p' v) p' n') 0 (100 - 0) := by rw [vNeed, if_pos ⟨hp, hn⟩, nN_nI (by omega), nN_nI (by omega)]
      refine z_aload_n 1 dX7_need_0 rfl rfl ?_
      refine z_iload_n 2 dX7_need_1 rfl rfl ?_
      refine y_cVs 5 _ (q_isOne (o := 0) hc ok) sh158 cv_X7_182 ⟨by decide, by decide, rfl, rfl⟩ (Nat.le_of_ble_eq_true rfl) dX7_need_2 rfl rfl ?_
      refine z_if_eq_f 8 20 dX7_need_5 rfl (by rw [bi_t hp]; decide) rfl ?_
      refine z_iload_n 9 dX7_need_8 rfl rfl ?_
      refine z_i2l 10 dX7_need_9 rfl ?_
      refine z_lconst 11 dX7_need_10 vl0 rfl ?_
      refine z_ldc2 14 kc_X7_218 dX7_need_11 rfl ?_
      refine y_cSs 17 (c_in) cs_X7_55 ⟨by decide, by decide, rfl, rfl⟩ (Nat.le_of_ble_eq_true rfl) dX7_need_14 rfl rfl ?_
      rw [bn]
      refine z_if_ne_t 22 dX7_need_17 rfl (by rw [bi_t hn]; decide) ?_
      refine z_iconst 23 dX7_need_22 vi0 rfl ?_
      refine z_istore_n 24 [_, _, _, _] dX7_need_23 (by decide) rfl rfl rfl ?_
      refine zup (P := fun k => ∀ τ, same τ σ → vNeed N (nI p') (nI n') = fz (fun v => sz (earnQ N p' v) p' n') k (100 - k) → Y G X mX7_need τ 24 [some (.ref (zGa G 158)), some (.int (nI p')), some (.int (nI n')), some (.int (nI k))] []) 100 ?_ (fun k hk ih => ?_) 0 (Nat.zero_le _) _ same.rf val
      · intro τ hτ hv
        rw [fz_e] at hv
        refine z_iload_n 25 dX7_need_24 rfl rfl ?_
        refine z_bipush 27 dX7_need_25 vb99 rfl ?_
        refine z_icmp_gt_t 75 dX7_need_27 rfl (by decide) ?_
        refine z_bipush 77 dX7_need_75 vbm4 rfl ?_
        refine z_iret hq rfl dX7_need_77 rfl rfl ?_
        exact ⟨_, ⟨by rw [hv], hτ⟩, rfl⟩
      · intro τ hτ hv
        rw [fz_s hk] at hv
        have hcτ := hdk0 hc hτ
        have eE : eqc (exq τ 275 N) N := exq_c
        have cpe := cp_rsp hcτ (t := 275) (by decide) (by decide) (by decide)
        generalize exq τ 275 N = E at eE cpe
        have okE := ok.eqc eE
        have e4 : eqc (un E (29 + p') k) (earnQ N p' k) := un_c (eE.trans eqc_nrm.symm)
        have okw := okQ_earn (v := k) ok p4 (by omega)
        have okl := okw.eqc e4
        have en : nrm (un E (29 + p') k) = nrm (earnQ N p' k) := nrm_eq e4
        have okd := okQ_nrm okl
        have l54 : un E (29 + p') k 54 = N 54 := by rw [un_n (by omega)]; exact eE 54 (by decide)
        have l56 : un E (29 + p') k 56 = N 56 := by rw [un_n (by omega)]; exact eE 56 (by decide)
        have l57 : un E (29 + p') k 57 = N 57 := by rw [un_n (by omega)]; exact eE 57 (by decide)
        have sv : daysA (nrm (un E (29 + p') k)) n' (58 + p') = sz (earnQ N p' k) p' n' := by
          rw [daysA_58 okd (by rw [nrm_c (by decide), l57]; exact hp'), nrm_n (by omega), Nat.zero_add, en]
          exact (sz_S (fun i hi => by unfold pS at hi; exact nrm_c (by omega)) (okQ_nrm okw) okw p4 n').2
        have sb : sz (earnQ N p' k) p' n' ≤ 300 := by
          have := daysO_54 okw p4 n'
          simp only [sz]; omega
        have s1 : same (rsp τ 275 (un E (29 + p') k)) σ := same_rsp hτ (by decide) (by rw [l56]; exact hcτ 56 (by decide)) (by rw [l57]; exact hcτ 57 (by decide))
        have s2 : ∀ x, same (rsp (upd (rsp τ 275 (un E (29 + p') k)) (400 * 158 + 22) x) 220 (daysA (nrm (un E (29 + p') k)) n')) σ := fun x => same_d220 s1 (by rw [(rsp_56 (by decide)).1, (daysA_56 okd n').1, nrm_c (by decide)]) (by rw [(rsp_56 (by decide)).2, (daysA_56 okd n').2.1, nrm_c (by decide)])
        refine z_iload_n 25 dX7_need_24 rfl rfl ?_
        refine z_bipush 27 dX7_need_25 vb99 rfl ?_
        refine z_icmp_gt_f 30 75 dX7_need_27 rfl (nI_nlt (a := 99) (b := k) (by omega) (by omega)) rfl ?_
        refine z_aload_n 31 dX7_need_30 rfl rfl ?_
        refine z_iconst 32 dX7_need_31 vi0 rfl ?_
        refine z_sipush 35 dX7_need_32 vs275 rfl ?_
        refine y_cVv 38 _ (c_copies (f := 0) (t := 275) (by decide) (by decide) (by decide)) sh158 cv_X7_212 ⟨by decide, by decide, rfl, rfl⟩ (Nat.le_of_ble_eq_true rfl) dX7_need_35 rfl rfl ?_
        rw [cpe]
        skip
        refine z_aload_n 39 dX7_need_38 rfl rfl ?_
        refine y_getr 42 _ sh158 rfl fl_X7_7 dX7_need_39 rfl ?_
        refine z_sipush 45 dX7_need_42 vs304 rfl ?_
        refine z_iload_n 46 dX7_need_45 rfl rfl ?_
        refine z_iaddN 47 (show (304 : Int32) = nI 304 from rfl) rfl dX7_need_46 rfl ?_
        refine z_iload_n 48 dX7_need_47 rfl rfl ?_
        refine w_st 49 (29 + p') rfl (by omega) (by omega) (by omega) rfl dX7_need_48 rfl ?_
        refine z_aload_n 50 dX7_need_49 rfl rfl ?_
        refine z_sipush 53 dX7_need_50 vs275 rfl ?_
        refine z_iload_n 54 dX7_need_53 rfl rfl ?_
        refine y_cVs 57 _ (c_daysGo (o := 275) hdr_rsp.k (by decide) okl (by omega) (by omega)) sh158 cv_X7_222 ⟨by decide, by decide, rfl, rfl⟩ (Nat.le_of_ble_eq_true rfl) dX7_need_54 rfl rfl ?_
        refine z_pop 58 dX7_need_57 rfl rfl ?_
        skip
        refine z_aload_n 59 dX7_need_58 rfl rfl ?_
        refine y_getr 62 _ sh158 rfl fl_X7_25 dX7_need_59 rfl ?_
        refine z_iload_n 63 dX7_need_62 rfl rfl ?_
        refine m_ldS 64 (p') hdr_220 rfl (by omega) (by omega) dX7_need_63 rfl ?_
        rw [sv]
        refine z_if_ne 69 67 dX7_need_64 rfl rfl (fun h64 => ?_) (fun h64 => ?_)
        · skip
          have h0 : ¬ sz (earnQ N p' k) p' n' = 0 := fun e => h64 (by rw [e]; rfl)
          rw [if_neg h0] at hv
          refine z_iinc 72 [_, _, _, _] dX7_need_69 rfl (show _ + _ = nI (_ + 1) from nI_1 _) (by decide) rfl rfl rfl ?_
          refine z_goto 24 dX7_need_72 rfl ?_
          exact ih _ (s2 _) hv
        · skip
          have h0 : sz (earnQ N p' k) p' n' = 0 := nI_eqL (b := 0) (by omega) (by decide) h64
          rw [if_pos h0] at hv
          refine z_iload_n 68 dX7_need_67 rfl rfl ?_
          refine z_iret hq rfl dX7_need_68 rfl rfl ?_
          exact ⟨_, ⟨by rw [hv], s2 _⟩, rfl⟩
    · have no := no (fun h => hn h.2)
      refine z_aload_n 1 dX7_need_0 rfl rfl ?_
      refine z_iload_n 2 dX7_need_1 rfl rfl ?_
      refine y_cVs 5 _ (q_isOne (o := 0) hc ok) sh158 cv_X7_182 ⟨by decide, by decide, rfl, rfl⟩ (Nat.le_of_ble_eq_true rfl) dX7_need_2 rfl rfl ?_
      refine z_if_eq_f 8 20 dX7_need_5 rfl (by rw [bi_t hp]; decide) rfl ?_
      refine z_iload_n 9 dX7_need_8 rfl rfl ?_
      refine z_i2l 10 dX7_need_9 rfl ?_
      refine z_lconst 11 dX7_need_10 vl0 rfl ?_
      refine z_ldc2 14 kc_X7_218 dX7_need_11 rfl ?_
      refine y_cSs 17 (c_in) cs_X7_55 ⟨by decide, by decide, rfl, rfl⟩ (Nat.le_of_ble_eq_true rfl) dX7_need_14 rfl rfl ?_
      rw [bn]
      refine z_if_ne_f 20 22 dX7_need_17 rfl (bi_f hn) rfl ?_
      refine z_iconst 21 dX7_need_20 vim1 rfl ?_
      refine z_iret hq rfl dX7_need_21 rfl rfl ?_
      exact ⟨_, no, rfl⟩
  · have no := no (fun h => hp h.1)
    refine z_aload_n 1 dX7_need_0 rfl rfl ?_
    refine z_iload_n 2 dX7_need_1 rfl rfl ?_
    refine y_cVs 5 _ (q_isOne (o := 0) hc ok) sh158 cv_X7_182 ⟨by decide, by decide, rfl, rfl⟩ (Nat.le_of_ble_eq_true rfl) dX7_need_2 rfl rfl ?_
    refine z_if_eq_t 20 dX7_need_5 rfl (bi_f hp) ?_
    refine z_iconst 21 dX7_need_20 vim1 rfl ?_
    refine z_iret hq rfl dX7_need_21 rfl rfl ?_
    exact ⟨_, no, rfl⟩

