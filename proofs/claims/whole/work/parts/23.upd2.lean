/-! ===== pay (reference), lend, bring, days ===== -/
set_option maxRecDepth 100000 in
theorem r_pay {l : Launch} {G : zG} {σ : Nat → Int32} {N : Pg} {p w v : Int32} (hc : hdk σ 0 N) (ok : okQ N) : zMet l yX7_pay mX7_pay [.ref (zGa G 158), .int p, .int w, .int v] G (zW G σ) (zP G (pR1 σ (vPay N p w v) (payQ N p w v))) := by
  have b5 := ok.np
  have bw : bi ((0 : Int64) ≤ w.toInt64 ∧ w.toInt64 ≤ 1) = bi (inR w 2) := bi_in7 (n := 1) (by decide)
  have no : ¬ okPay N p w v → pR1 σ (vPay N p w v) (payQ N p w v) (some (.int (-1))) σ := fun h => ⟨by rw [vPay, if_neg h], by rw [payQ, if_neg h]; exact hc, offR.rf⟩
  refine zMet.of (by decide) rfl (Nat.le_of_ble_eq_true rfl) (Or.inr rfl) fun X hX hq => ?_
  subst hX
  show Y G X mX7_pay σ 0 [some (.ref (zGa G 158)), some (.int p), some (.int w), some (.int v)] []
  by_cases hi : inR p (N 57)
  · by_cases hw : inR w 2
    · obtain ⟨w', hw', rfl⟩ := inR_of hw (by decide)
      obtain ⟨p', hp', rfl⟩ := inR_of hi (by omega)
      have ew : nN (nI w') = w' := nN_nI (by omega)
      have ep : nN (nI p') = p' := nN_nI (by omega)
      have bm : payM w' ≤ 999 := by simp only [payM]; split <;> omega
      suffices main : ∀ m : Int64, m.toInt = payM w' → Y G X mX7_pay σ 35 [some (.ref (zGa G 158)), some (.int (nI p')), some (.int (nI w')), some (.int v)] [.long m, .long 0, .long v.toInt64, .ref (zGa G 158)] by
        refine z_aload_n 1 dX7_pay_0 rfl rfl ?_
        refine z_aload_n 2 dX7_pay_1 rfl rfl ?_
        refine z_iload_n 3 dX7_pay_2 rfl rfl ?_
        refine y_cVs 6 _ (q_isOne (o := 0) hc ok) sh158 cv_X7_182 ⟨by decide, by decide, rfl, rfl⟩ (Nat.le_of_ble_eq_true rfl) dX7_pay_3 rfl rfl ?_
        refine z_if_eq_f 9 45 dX7_pay_6 rfl (by rw [bi_t hi]; decide) rfl ?_
        refine z_iload_n 10 dX7_pay_9 rfl rfl ?_
        refine z_i2l 11 dX7_pay_10 rfl ?_
        refine z_lconst 12 dX7_pay_11 vl0 rfl ?_
        refine z_lconst 13 dX7_pay_12 vl1 rfl ?_
        refine y_cSs 16 (c_in) cs_X7_55 ⟨by decide, by decide, rfl, rfl⟩ (Nat.le_of_ble_eq_true rfl) dX7_pay_13 rfl rfl ?_
        rw [bw]
        refine z_if_eq_f 19 45 dX7_pay_16 rfl (by rw [bi_t hw]; decide) rfl ?_
        refine z_iload_n 20 dX7_pay_19 rfl rfl ?_
        refine z_i2l 21 dX7_pay_20 rfl ?_
        refine z_lconst 22 dX7_pay_21 vl0 rfl ?_
        refine z_iload_n 23 dX7_pay_22 rfl rfl ?_
        refine z_if_ne 32 26 dX7_pay_23 rfl rfl (fun h23 => ?_) (fun h23 => ?_)
        · skip
          have n0 : w' ≠ 0 := fun e => h23 (by rw [e]; rfl)
          refine z_ldc2 35 kc_X7_197 dX7_pay_32 rfl ?_
          exact main _ (by rw [payM, if_neg n0]; decide)
        · skip
          have e : w' = 0 := nI_eqL (b := 0) (by omega) (by decide) h23
          refine z_ldc2 29 kc_X7_188 dX7_pay_26 rfl ?_
          refine z_goto 35 dX7_pay_29 rfl ?_
          exact main _ (by rw [e]; decide)
      intro m hm
      have bv : bi ((0 : Int64) ≤ v.toInt64 ∧ v.toInt64 ≤ m) = bi (inR v (payM w' + 1)) := bi_in7 hm
      by_cases hv : inR v (payM w' + 1)
      · obtain ⟨v', hv', rfl⟩ := inR_of hv (by omega)
        have yes : okPay N (nI p') (nI w') (nI v') := ⟨hi, hw, by rw [ew]; exact hv⟩
        have ev : nN (nI v') = v' := nN_nI (by omega)
        have val : vPay N (nI p') (nI w') (nI v') = nI (N (25 + 4 * w' + p')) := by rw [vPay, if_pos yes, ew, ep]
        have pag : payQ N (nI p') (nI w') (nI v') = un N (25 + 4 * w' + p') v' := by rw [payQ, if_pos yes, ew, ep, ev]
        have rd : σ (63600 + (25 + 4 * w' + p')) = nI (N (25 + 4 * w' + p')) := by have := hc (25 + 4 * w' + p') (by omega); simp only [aR] at this; rw [if_pos (by omega)] at this; exact this
        refine y_cSs 38 (c_in) cs_X7_55 ⟨by decide, by decide, rfl, rfl⟩ (Nat.le_of_ble_eq_true rfl) dX7_pay_35 rfl rfl ?_
        rw [bv]
        refine z_if_eq_f 41 45 dX7_pay_38 rfl (by rw [bi_t hv]; decide) rfl ?_
        refine z_iconst 42 dX7_pay_41 vi1 rfl ?_
        refine z_goto 46 dX7_pay_42 rfl ?_
        refine z_bipush 48 dX7_pay_46 vb25 rfl ?_
        refine z_iconst 49 dX7_pay_48 vi4 rfl ?_
        refine z_iload_n 50 dX7_pay_49 rfl rfl ?_
        refine z_imulN 51 (show (4 : Int32) = nI 4 from rfl) rfl dX7_pay_50 rfl ?_
        refine z_iaddN 52 (show (25 : Int32) = nI 25 from rfl) rfl dX7_pay_51 rfl ?_
        refine z_iload_n 53 dX7_pay_52 rfl rfl ?_
        refine z_iaddN 54 rfl rfl dX7_pay_53 rfl ?_
        refine z_iload_n 55 dX7_pay_54 rfl rfl ?_
        refine y_cVs 58 _ (c_puts1 (by omega)) sh158 cv_X7_193 ⟨by decide, by decide, rfl, rfl⟩ (Nat.le_of_ble_eq_true rfl) dX7_pay_55 rfl rfl ?_
        refine z_iret hq rfl dX7_pay_58 rfl rfl ?_
        exact ⟨_, ⟨by rw [val, rd], by rw [pag]; exact hdk_upd hc (by omega) rfl, offR_upd (by omega)⟩, rfl⟩
      · have no := no (fun h => hv (by have := h.2.2; rw [ew] at this; exact this))
        refine y_cSs 38 (c_in) cs_X7_55 ⟨by decide, by decide, rfl, rfl⟩ (Nat.le_of_ble_eq_true rfl) dX7_pay_35 rfl rfl ?_
        rw [bv]
        refine z_if_eq_t 45 dX7_pay_38 rfl (bi_f hv) ?_
        refine z_iconst 46 dX7_pay_45 vi0 rfl ?_
        refine z_bipush 48 dX7_pay_46 vb25 rfl ?_
        refine z_iconst 49 dX7_pay_48 vi4 rfl ?_
        refine z_iload_n 50 dX7_pay_49 rfl rfl ?_
        refine z_imulN 51 (show (4 : Int32) = nI 4 from rfl) rfl dX7_pay_50 rfl ?_
        refine z_iaddN 52 (show (25 : Int32) = nI 25 from rfl) rfl dX7_pay_51 rfl ?_
        refine z_iload_n 53 dX7_pay_52 rfl rfl ?_
        refine z_iaddN 54 rfl rfl dX7_pay_53 rfl ?_
        refine z_iload_n 55 dX7_pay_54 rfl rfl ?_
        refine y_cVs 58 _ (c_puts0) sh158 cv_X7_193 ⟨by decide, by decide, rfl, rfl⟩ (Nat.le_of_ble_eq_true rfl) dX7_pay_55 rfl rfl ?_
        refine z_iret hq rfl dX7_pay_58 rfl rfl ?_
        exact ⟨_, no, rfl⟩
    · have no := no (fun h => hw h.2.1)
      refine z_aload_n 1 dX7_pay_0 rfl rfl ?_
      refine z_aload_n 2 dX7_pay_1 rfl rfl ?_
      refine z_iload_n 3 dX7_pay_2 rfl rfl ?_
      refine y_cVs 6 _ (q_isOne (o := 0) hc ok) sh158 cv_X7_182 ⟨by decide, by decide, rfl, rfl⟩ (Nat.le_of_ble_eq_true rfl) dX7_pay_3 rfl rfl ?_
      refine z_if_eq_f 9 45 dX7_pay_6 rfl (by rw [bi_t hi]; decide) rfl ?_
      refine z_iload_n 10 dX7_pay_9 rfl rfl ?_
      refine z_i2l 11 dX7_pay_10 rfl ?_
      refine z_lconst 12 dX7_pay_11 vl0 rfl ?_
      refine z_lconst 13 dX7_pay_12 vl1 rfl ?_
      refine y_cSs 16 (c_in) cs_X7_55 ⟨by decide, by decide, rfl, rfl⟩ (Nat.le_of_ble_eq_true rfl) dX7_pay_13 rfl rfl ?_
      rw [bw]
      refine z_if_eq_t 45 dX7_pay_16 rfl (bi_f hw) ?_
      refine z_iconst 46 dX7_pay_45 vi0 rfl ?_
      refine z_bipush 48 dX7_pay_46 vb25 rfl ?_
      refine z_iconst 49 dX7_pay_48 vi4 rfl ?_
      refine z_iload_n 50 dX7_pay_49 rfl rfl ?_
      refine z_imul 51 dX7_pay_50 rfl ?_
      refine z_iadd 52 dX7_pay_51 rfl ?_
      refine z_iload_n 53 dX7_pay_52 rfl rfl ?_
      refine z_iadd 54 dX7_pay_53 rfl ?_
      refine z_iload_n 55 dX7_pay_54 rfl rfl ?_
      refine y_cVs 58 _ (c_puts0) sh158 cv_X7_193 ⟨by decide, by decide, rfl, rfl⟩ (Nat.le_of_ble_eq_true rfl) dX7_pay_55 rfl rfl ?_
      refine z_iret hq rfl dX7_pay_58 rfl rfl ?_
      exact ⟨_, no, rfl⟩
  · have no := no (fun h => hi h.1)
    refine z_aload_n 1 dX7_pay_0 rfl rfl ?_
    refine z_aload_n 2 dX7_pay_1 rfl rfl ?_
    refine z_iload_n 3 dX7_pay_2 rfl rfl ?_
    refine y_cVs 6 _ (q_isOne (o := 0) hc ok) sh158 cv_X7_182 ⟨by decide, by decide, rfl, rfl⟩ (Nat.le_of_ble_eq_true rfl) dX7_pay_3 rfl rfl ?_
    refine z_if_eq_t 45 dX7_pay_6 rfl (bi_f hi) ?_
    refine z_iconst 46 dX7_pay_45 vi0 rfl ?_
    refine z_bipush 48 dX7_pay_46 vb25 rfl ?_
    refine z_iconst 49 dX7_pay_48 vi4 rfl ?_
    refine z_iload_n 50 dX7_pay_49 rfl rfl ?_
    refine z_imul 51 dX7_pay_50 rfl ?_
    refine z_iadd 52 dX7_pay_51 rfl ?_
    refine z_iload_n 53 dX7_pay_52 rfl rfl ?_
    refine z_iadd 54 dX7_pay_53 rfl ?_
    refine z_iload_n 55 dX7_pay_54 rfl rfl ?_
    refine y_cVs 58 _ (c_puts0) sh158 cv_X7_193 ⟨by decide, by decide, rfl, rfl⟩ (Nat.le_of_ble_eq_true rfl) dX7_pay_55 rfl rfl ?_
    refine z_iret hq rfl dX7_pay_58 rfl rfl ?_
    exact ⟨_, no, rfl⟩
theorem h56 {σ : Nat → Int32} {Q N : Pg} (h : hdk σ 0 N) (e : Q 56 = N 56) : σ 63201 = nI (Q 56) := by rw [e]; exact h 56 (by decide)
theorem h57 {σ : Nat → Int32} {Q N : Pg} (h : hdk σ 0 N) (e : Q 57 = N 57) : σ 63202 = nI (Q 57) := by rw [e]; exact h 57 (by decide)
theorem lendQ_56 {Q : Pg} {p c n : Int32} (ok : okQ Q) : lendQ Q p c n 56 = Q 56 ∧ lendQ Q p c n 57 = Q 57 := by
  simp only [lendQ]
  split
  · rename_i h
    have h1 := ok.nc
    have h2 := ok.np
    obtain ⟨p', hp, e⟩ := inR_of h.1.1 (by omega)
    obtain ⟨c', hc, e'⟩ := inR_of h.1.2.1 (by omega)
    have ep : nN p = p' := by rw [e]; exact nN_nI (by omega)
    have ec : nN c = c' := by rw [e']; exact nN_nI (by omega)
    rw [ep, ec]
    refine ⟨?_, ?_⟩ <;> rw [un_n (by omega), un_n (by omega)]
  · exact ⟨rfl, rfl⟩
set_option maxRecDepth 100000 in
theorem x_lend {l : Launch} {G : zG} {σ : Nat → Int32} {N : Pg} {p c n : Int32} (hc : hdc σ 1 N) (ok : okQ N) : zMet l yX6_lend mX6_lend [.ref (zGa G 0), .int p, .int c, .int n] G (zW G σ) (zP G (pC1 σ (lendV N p c n) (lendQ N p c n))) := by
  obtain ⟨Q, hQ, e⟩ := hdc_full hc
  refine zMet.of (by decide) rfl (Nat.le_of_ble_eq_true rfl) (Or.inr rfl) fun X hX hq => ?_
  subst hX
  show Y G X mX6_lend σ 0 [some (.ref (zGa G 0)), some (.int p), some (.int c), some (.int n)] []
  refine z_aload_n 1 dX6_lend_0 rfl rfl ?_
  refine y_getr 4 _ sh0 rfl fl_X6_10 dX6_lend_1 rfl ?_
  refine z_iload_n 5 dX6_lend_4 rfl rfl ?_
  refine z_iload_n 6 dX6_lend_5 rfl rfl ?_
  refine z_iload_n 7 dX6_lend_6 rfl rfl ?_
  refine y_cVs 10 _ (c_giveLoan bkm1 hQ (ok.eqc e)) (bk0 bkm1) cv_X6_179 ⟨by decide, by decide, rfl, rfl⟩ (Nat.le_of_ble_eq_true rfl) dX6_lend_7 rfl rfl ?_
  refine z_iret hq rfl dX6_lend_10 rfl rfl ?_
  exact ⟨_, ⟨by rw [lendV_c e ok], hdc_sp1 (lendQ_c e ok), off1_sp⟩, rfl⟩
set_option maxRecDepth 100000 in
theorem r_lend {l : Launch} {G : zG} {σ : Nat → Int32} {N : Pg} {p c n : Int32} (hc : hdk σ 0 N) (ok : okQ N) : zMet l yX7_lend mX7_lend [.ref (zGa G 158), .int p, .int c, .int n] G (zW G σ) (zP G (pR1 σ (lendV N p c n) (lendQ N p c n))) := by
  obtain ⟨Q, hQ, e⟩ := hdk_full hc
  have o2 := ok.eqc e
  refine zMet.of (by decide) rfl (Nat.le_of_ble_eq_true rfl) (Or.inr rfl) fun X hX hq => ?_
  subst hX
  show Y G X mX7_lend σ 0 [some (.ref (zGa G 158)), some (.int p), some (.int c), some (.int n)] []
  refine z_aload_n 1 dX7_lend_0 rfl rfl ?_
  refine z_iconst 2 dX7_lend_1 vi0 rfl ?_
  refine z_iload_n 3 dX7_lend_2 rfl rfl ?_
  refine z_iload_n 4 dX7_lend_3 rfl rfl ?_
  refine z_iload_n 5 dX7_lend_4 rfl rfl ?_
  refine y_cVs 8 _ (c_lendsOn (o := 0) hQ (by decide) o2) sh158 cv_X7_199 ⟨by decide, by decide, rfl, rfl⟩ (Nat.le_of_ble_eq_true rfl) dX7_lend_5 rfl rfl ?_
  refine z_iret hq rfl dX7_lend_8 rfl rfl ?_
  exact ⟨_, ⟨by rw [lendV_c e ok], hdk_rsp (lendQ_c e ok), offR_rsp (h56 hc ((lendQ_56 o2).1.trans (e 56 (by decide)))) (h57 hc ((lendQ_56 o2).2.trans (e 57 (by decide))))⟩, rfl⟩
def vBring (N : Pg) (p c n : Int32) : Int32 := if lendOk N p c n then (if N (33 + 5 * nN p + nN c) < nN n then -2 else nI (N (33 + 5 * nN p + nN c) - nN n)) else -1
def brQ (N : Pg) (p c n : Nat) : Pg := un (un N (33 + 5 * p + c) (N (33 + 5 * p + c) - n)) (20 + c) (min 99 (N (20 + c) + n))
def bringQ (N : Pg) (p c n : Int32) : Pg := if lendOk N p c n ∧ ¬ N (33 + 5 * nN p + nN c) < nN n then brQ N (nN p) (nN c) (nN n) else N
theorem brQ_c {Q N : Pg} {p c n : Nat} (e : eqc Q N) (hp : p < 4) (hc : c < 5) : eqc (brQ Q p c n) (brQ N p c n) := by
  simp only [brQ]; rw [e (33 + 5 * p + c) (by omega), e (20 + c) (by omega)]; exact un_c (un_c e)
set_option maxRecDepth 100000 in
theorem x_bring {l : Launch} {G : zG} {σ : Nat → Int32} {N : Pg} {p c n : Int32} (hc : hdc σ 1 N) (ok : okQ N) : zMet l yX6_bring mX6_bring [.ref (zGa G 0), .int p, .int c, .int n] G (zW G σ) (zP G (pC1 σ (vBring N p c n) (bringQ N p c n))) := by
  have b5 := ok.nc
  have b4 := ok.np
  have no : ¬ lendOk N p c n → pC1 σ (vBring N p c n) (bringQ N p c n) (some (.int (-1))) σ := fun h => ⟨by rw [vBring, if_neg h], by rw [bringQ, if_neg (fun q => h q.1)]; exact hc, off1.rf⟩
  refine zMet.of (by decide) rfl (Nat.le_of_ble_eq_true rfl) (Or.inr rfl) fun X hX hq => ?_
  subst hX
  show Y G X mX6_bring σ 0 [some (.ref (zGa G 0)), some (.int p), some (.int c), some (.int n)] []
  refine z_aload_n 1 dX6_bring_0 rfl rfl ?_
  refine y_getr 4 _ sh0 rfl fl_X6_10 dX6_bring_1 rfl ?_
  refine z_iload_n 5 dX6_bring_4 rfl rfl ?_
  refine y_cVs 8 _ (n_hasOne bkm1 hc ok) (bk0 bkm1) cv_X6_141 ⟨by decide, by decide, rfl, rfl⟩ (Nat.le_of_ble_eq_true rfl) dX6_bring_5 rfl rfl ?_
  refine z_if_eq 32 11 dX6_bring_8 rfl rfl (fun h8 => ?_) (fun h8 => ?_)
  · skip
    have no := no (fun h => bi0.mp h8 h.1)
    refine z_iconst 33 dX6_bring_32 vim1 rfl ?_
    refine z_iret hq rfl dX6_bring_33 rfl rfl ?_
    exact ⟨_, no, rfl⟩
  · skip
    refine z_aload_n 12 dX6_bring_11 rfl rfl ?_
    refine y_getr 15 _ sh0 rfl fl_X6_10 dX6_bring_12 rfl ?_
    refine z_iload_n 16 dX6_bring_15 rfl rfl ?_
    refine y_cVs 19 _ (n_hasColour bkm1 hc ok) (bk0 bkm1) cv_X6_121 ⟨by decide, by decide, rfl, rfl⟩ (Nat.le_of_ble_eq_true rfl) dX6_bring_16 rfl rfl ?_
    refine z_if_eq 32 22 dX6_bring_19 rfl rfl (fun h19 => ?_) (fun h19 => ?_)
    · skip
      have no := no (fun h => bi0.mp h19 h.2.1)
      refine z_iconst 33 dX6_bring_32 vim1 rfl ?_
      refine z_iret hq rfl dX6_bring_33 rfl rfl ?_
      exact ⟨_, no, rfl⟩
    · skip
      refine z_iload_n 23 dX6_bring_22 rfl rfl ?_
      refine z_iconst 24 dX6_bring_23 vi1 rfl ?_
      refine z_bipush 26 dX6_bring_24 vb99 rfl ?_
      refine y_cSs 29 (c_within) cs_X6_73 ⟨by decide, by decide, rfl, rfl⟩ (Nat.le_of_ble_eq_true rfl) dX6_bring_26 rfl rfl ?_
      refine z_if_ne 34 32 dX6_bring_29 rfl rfl (fun h29 => ?_) (fun h29 => ?_)
      · skip
        have yes : lendOk N p c n := ⟨bin0.mp h8, bin0.mp h19, bin0.mp h29⟩
        obtain ⟨p', hp, e⟩ := inR_of yes.1 (by omega)
        subst e
        obtain ⟨c', hc', e⟩ := inR_of yes.2.1 (by omega)
        subst e
        obtain ⟨n', hn1, hn2, e⟩ := le_nI1 yes.2.2
        subst e
        have ep : nN (nI p') = p' := nN_nI (by omega)
        have ec : nN (nI c') = c' := nN_nI (by omega)
        have en : nN (nI n') = n' := nN_nI (by omega)
        have e0 : 33 + (p' * 5 + c') = 33 + 5 * p' + c' := by omega
        have b9 := ok.he (show p' < 4 by omega) (show c' < 5 by omega)
        have b8 := ok.vt (show c' < 5 by omega)
        obtain ⟨Q, hQ, eQ⟩ := hdc_full hc
        have q9 : Q (33 + 5 * p' + c') = N (33 + 5 * p' + c') := eQ _ (by omega)
        have q8 : Q (20 + c') = N (20 + c') := eQ _ (by omega)
        refine z_aload_n 35 dX6_bring_34 rfl rfl ?_
        refine y_getr 38 _ sh0 rfl fl_X6_10 dX6_bring_35 rfl ?_
        refine y_getr 41 _ (bk0 bkm1) rfl fl_X6_156 dX6_bring_38 rfl ?_
        refine z_iload_n 42 dX6_bring_41 rfl rfl ?_
        refine z_iconst 43 dX6_bring_42 vi5 rfl ?_
        refine z_imulN 44 rfl (show (5 : Int32) = nI 5 from rfl) dX6_bring_43 rfl ?_
        refine z_iload_n 45 dX6_bring_44 rfl rfl ?_
        refine z_iaddN 46 rfl rfl dX6_bring_45 rfl ?_
        refine k_ld 47 _ (by first | exact hc | exact hc2) (bk6 bkm1) rfl (by omega) (by decide) dX6_bring_46 rfl ?_
        rw [e0]
        refine z_iload_n 48 dX6_bring_47 rfl rfl ?_
        refine z_icmp_ge 54 51 dX6_bring_48 rfl rfl (fun h48 => ?_) (fun h48 => ?_)
        · skip
          have h1 : n' ≤ N (33 + 5 * p' + c') := (nI_leI (by omega) (by omega)).mp h48
          have pg := brQ_c (n := n') eQ (show p' < 4 by omega) (show c' < 5 by omega)
          have hc2 : hdc (sp σ 1 (brQ Q p' c' n')) 1 (brQ N p' c' n') := hdc_sp1 pg
          refine z_aload_n 55 dX6_bring_54 rfl rfl ?_
          refine y_getr 58 _ sh0 rfl fl_X6_10 dX6_bring_55 rfl ?_
          refine z_iload_n 59 dX6_bring_58 rfl rfl ?_
          refine z_iload_n 60 dX6_bring_59 rfl rfl ?_
          refine z_iload_n 61 dX6_bring_60 rfl rfl ?_
          refine y_cVv 64 _ (c_takeBack bkm1 hQ (by omega) (by omega) (by omega) (by omega)) (bk0 bkm1) cv_X6_183 ⟨by decide, by decide, rfl, rfl⟩ (Nat.le_of_ble_eq_true rfl) dX6_bring_61 rfl rfl ?_
          show Y G X mX6_bring (sp σ 1 (brQ Q p' c' n')) 64 _ _
          refine z_aload_n 65 dX6_bring_64 rfl rfl ?_
          refine y_getr 68 _ sh0 rfl fl_X6_10 dX6_bring_65 rfl ?_
          refine y_getr 71 _ (bk0 bkm1) rfl fl_X6_156 dX6_bring_68 rfl ?_
          refine z_iload_n 72 dX6_bring_71 rfl rfl ?_
          refine z_iconst 73 dX6_bring_72 vi5 rfl ?_
          refine z_imulN 74 rfl (show (5 : Int32) = nI 5 from rfl) dX6_bring_73 rfl ?_
          refine z_iload_n 75 dX6_bring_74 rfl rfl ?_
          refine z_iaddN 76 rfl rfl dX6_bring_75 rfl ?_
          refine k_ld 77 _ (by first | exact hc | exact hc2) (bk6 bkm1) rfl (by omega) (by decide) dX6_bring_76 rfl ?_
          rw [e0, show brQ N p' c' n' (33 + 5 * p' + c') = N (33 + 5 * p' + c') - n' by rw [brQ, un_n (by omega), un_s]]
          refine z_iret hq rfl dX6_bring_77 rfl rfl ?_
          exact ⟨_, ⟨by rw [vBring, if_pos yes, if_neg (by rw [ep, ec, en]; omega), ep, ec, en], by rw [bringQ, if_pos ⟨yes, by rw [ep, ec, en]; omega⟩, ep, ec, en]; exact hc2, off1_sp⟩, rfl⟩
        · skip
          have h1 : N (33 + 5 * p' + c') < n' := by
              rcases Nat.lt_or_ge (N (33 + 5 * p' + c')) n' with q | q
              · exact q
              · exact absurd (nI_le q (by omega)) h48
          refine z_bipush 53 dX6_bring_51 vbm2 rfl ?_
          refine z_iret hq rfl dX6_bring_53 rfl rfl ?_
          exact ⟨_, ⟨by rw [vBring, if_pos yes, if_pos (by rw [ep, ec, en]; exact h1)], by rw [bringQ, if_neg (fun q => q.2 (by rw [ep, ec, en]; exact h1))]; exact hc, off1.rf⟩, rfl⟩
      · skip
        have no := no (fun h => bi0.mp h29 h.2.2)
        refine z_iconst 33 dX6_bring_32 vim1 rfl ?_
        refine z_iret hq rfl dX6_bring_33 rfl rfl ?_
        exact ⟨_, no, rfl⟩
set_option maxRecDepth 100000 in
theorem r_bring {l : Launch} {G : zG} {σ : Nat → Int32} {N : Pg} {p c n : Int32} (hc : hdk σ 0 N) (ok : okQ N) : zMet l yX7_bring mX7_bring [.ref (zGa G 158), .int p, .int c, .int n] G (zW G σ) (zP G (pR1 σ (vBring N p c n) (bringQ N p c n))) := by
  have b5 := ok.nc
  have b4 := ok.np
  have eN : ((1 : Int64) ≤ n.toInt64 ∧ n.toInt64 ≤ 99) ↔ ((1 : Int32) ≤ n ∧ n ≤ 99) := by
    rw [Int64.le_iff_toInt_le, Int64.le_iff_toInt_le, Int32.toInt_toInt64, Int32.le_iff_toInt_le, Int32.le_iff_toInt_le]
    exact Iff.rfl
  have no : ¬ lendOk N p c n → pR1 σ (vBring N p c n) (bringQ N p c n) (some (.int (-1))) σ := fun h => ⟨by rw [vBring, if_neg h], by rw [bringQ, if_neg (fun q => h q.1)]; exact hc, offR.rf⟩
  refine zMet.of (by decide) rfl (Nat.le_of_ble_eq_true rfl) (Or.inr rfl) fun X hX hq => ?_
  subst hX
  show Y G X mX7_bring σ 0 [some (.ref (zGa G 158)), some (.int p), some (.int c), some (.int n)] []
  refine z_aload_n 1 dX7_bring_0 rfl rfl ?_
  refine z_iload_n 2 dX7_bring_1 rfl rfl ?_
  refine y_cVs 5 _ (q_isOne (o := 0) hc ok) sh158 cv_X7_182 ⟨by decide, by decide, rfl, rfl⟩ (Nat.le_of_ble_eq_true rfl) dX7_bring_2 rfl rfl ?_
  refine z_if_eq 28 8 dX7_bring_5 rfl rfl (fun h5 => ?_) (fun h5 => ?_)
  · skip
    have no := no (fun h => bi0.mp h5 h.1)
    refine z_iconst 29 dX7_bring_28 vim1 rfl ?_
    refine z_iret hq rfl dX7_bring_29 rfl rfl ?_
    exact ⟨_, no, rfl⟩
  · skip
    refine z_aload_n 9 dX7_bring_8 rfl rfl ?_
    refine z_iload_n 10 dX7_bring_9 rfl rfl ?_
    refine y_cVs 13 _ (q_isColour (o := 0) hc ok) sh158 cv_X7_176 ⟨by decide, by decide, rfl, rfl⟩ (Nat.le_of_ble_eq_true rfl) dX7_bring_10 rfl rfl ?_
    refine z_if_eq 28 16 dX7_bring_13 rfl rfl (fun h13 => ?_) (fun h13 => ?_)
    · skip
      have no := no (fun h => bi0.mp h13 h.2.1)
      refine z_iconst 29 dX7_bring_28 vim1 rfl ?_
      refine z_iret hq rfl dX7_bring_29 rfl rfl ?_
      exact ⟨_, no, rfl⟩
    · skip
      refine z_iload_n 17 dX7_bring_16 rfl rfl ?_
      refine z_i2l 18 dX7_bring_17 rfl ?_
      refine z_lconst 19 dX7_bring_18 vl1 rfl ?_
      refine z_ldc2 22 kc_X7_197 dX7_bring_19 rfl ?_
      refine y_cSs 25 (c_in) cs_X7_55 ⟨by decide, by decide, rfl, rfl⟩ (Nat.le_of_ble_eq_true rfl) dX7_bring_22 rfl rfl ?_
      refine z_if_ne 30 28 dX7_bring_25 rfl rfl (fun h25 => ?_) (fun h25 => ?_)
      · skip
        have yes : lendOk N p c n := ⟨bin0.mp h5, bin0.mp h13, eN.mp (bin0.mp h25)⟩
        obtain ⟨p', hp, e⟩ := inR_of yes.1 (by omega)
        subst e
        obtain ⟨c', hc', e⟩ := inR_of yes.2.1 (by omega)
        subst e
        obtain ⟨n', hn1, hn2, e⟩ := le_nI1 yes.2.2
        subst e
        have ep : nN (nI p') = p' := nN_nI (by omega)
        have ec : nN (nI c') = c' := nN_nI (by omega)
        have en : nN (nI n') = n' := nN_nI (by omega)
        have b9 := ok.he (show p' < 4 by omega) (show c' < 5 by omega)
        have b8 := ok.vt (show c' < 5 by omega)
        obtain ⟨Q, hQ, eQ⟩ := hdk_full hc
        have q9 : Q (33 + 5 * p' + c') = N (33 + 5 * p' + c') := eQ _ (by omega)
        have q8 : Q (20 + c') = N (20 + c') := eQ _ (by omega)
        refine z_aload_n 31 dX7_bring_30 rfl rfl ?_
        refine y_getr 34 _ sh158 rfl fl_X7_7 dX7_bring_31 rfl ?_
        refine z_bipush 36 dX7_bring_34 vb33 rfl ?_
        refine z_iconst 37 dX7_bring_36 vi5 rfl ?_
        refine z_iload_n 38 dX7_bring_37 rfl rfl ?_
        refine z_imulN 39 (show (5 : Int32) = nI 5 from rfl) rfl dX7_bring_38 rfl ?_
        refine z_iaddN 40 (show (33 : Int32) = nI 33 from rfl) rfl dX7_bring_39 rfl ?_
        refine z_iload_n 41 dX7_bring_40 rfl rfl ?_
        refine z_iaddN 42 rfl rfl dX7_bring_41 rfl ?_
        refine q_ld 43 (33 + 5 * p' + c') (by first | exact hc | exact hc2) rfl (by omega) (by omega) (by omega) dX7_bring_42 rfl ?_
        refine z_iload_n 44 dX7_bring_43 rfl rfl ?_
        refine z_icmp_ge 50 47 dX7_bring_44 rfl rfl (fun h44 => ?_) (fun h44 => ?_)
        · skip
          have h1 : n' ≤ N (33 + 5 * p' + c') := (nI_leI (by omega) (by omega)).mp h44
          have pg := brQ_c (n := n') eQ (show p' < 4 by omega) (show c' < 5 by omega)
          have hc2 : hdk (rsp σ 0 (brQ Q p' c' n')) 0 (brQ N p' c' n') := hdk_rsp pg
          have g6 : brQ Q p' c' n' 56 = N 56 := by rw [brQ, un_n (by omega), un_n (by omega)]; exact eQ 56 (by decide)
          have g7 : brQ Q p' c' n' 57 = N 57 := by rw [brQ, un_n (by omega), un_n (by omega)]; exact eQ 57 (by decide)
          refine z_aload_n 51 dX7_bring_50 rfl rfl ?_
          refine z_iconst 52 dX7_bring_51 vi0 rfl ?_
          refine z_iload_n 53 dX7_bring_52 rfl rfl ?_
          refine z_iload_n 54 dX7_bring_53 rfl rfl ?_
          refine z_iload_n 55 dX7_bring_54 rfl rfl ?_
          refine y_cVv 58 _ (c_bringsOn (o := 0) hQ (by decide) (by omega) (by omega) (by omega) (by omega)) sh158 cv_X7_203 ⟨by decide, by decide, rfl, rfl⟩ (Nat.le_of_ble_eq_true rfl) dX7_bring_55 rfl rfl ?_
          show Y G X mX7_bring (rsp σ 0 (brQ Q p' c' n')) 58 _ _
          refine z_aload_n 59 dX7_bring_58 rfl rfl ?_
          refine y_getr 62 _ sh158 rfl fl_X7_7 dX7_bring_59 rfl ?_
          refine z_bipush 64 dX7_bring_62 vb33 rfl ?_
          refine z_iconst 65 dX7_bring_64 vi5 rfl ?_
          refine z_iload_n 66 dX7_bring_65 rfl rfl ?_
          refine z_imulN 67 (show (5 : Int32) = nI 5 from rfl) rfl dX7_bring_66 rfl ?_
          refine z_iaddN 68 (show (33 : Int32) = nI 33 from rfl) rfl dX7_bring_67 rfl ?_
          refine z_iload_n 69 dX7_bring_68 rfl rfl ?_
          refine z_iaddN 70 rfl rfl dX7_bring_69 rfl ?_
          refine q_ld 71 (33 + 5 * p' + c') (by first | exact hc | exact hc2) rfl (by omega) (by omega) (by omega) dX7_bring_70 rfl ?_
          rw [show brQ N p' c' n' (33 + 5 * p' + c') = N (33 + 5 * p' + c') - n' by rw [brQ, un_n (by omega), un_s]]
          refine z_iret hq rfl dX7_bring_71 rfl rfl ?_
          exact ⟨_, ⟨by rw [vBring, if_pos yes, if_neg (by rw [ep, ec, en]; omega), ep, ec, en], by rw [bringQ, if_pos ⟨yes, by rw [ep, ec, en]; omega⟩, ep, ec, en]; exact hc2, offR_rsp (h56 hc g6) (h57 hc g7)⟩, rfl⟩
        · skip
          have h1 : N (33 + 5 * p' + c') < n' := by
              rcases Nat.lt_or_ge (N (33 + 5 * p' + c')) n' with q | q
              · exact q
              · exact absurd (nI_le q (by omega)) h44
          refine z_bipush 49 dX7_bring_47 vbm2 rfl ?_
          refine z_iret hq rfl dX7_bring_49 rfl rfl ?_
          exact ⟨_, ⟨by rw [vBring, if_pos yes, if_pos (by rw [ep, ec, en]; exact h1)], by rw [bringQ, if_neg (fun q => q.2 (by rw [ep, ec, en]; exact h1))]; exact hc, offR.rf⟩, rfl⟩
      · skip
        have no := no (fun h => bi0.mp h25 (eN.mpr h.2.2))
        refine z_iconst 29 dX7_bring_28 vim1 rfl ?_
        refine z_iret hq rfl dX7_bring_29 rfl rfl ?_
        exact ⟨_, no, rfl⟩
theorem colGo_54 {Q : Pg} {p c t : Nat} (hp : p < 4) (hc : c < 5) : Q 54 ≤ colGo Q p c t 54 ∧ colGo Q p c t 54 ≤ Q 54 + 1 := by
  simp only [colGo]
  split
  · omega
  split
  · rw [un_n (by omega), un_n (by omega), un_n (by omega)]; omega
  · rw [un_n (by omega), un_s]; omega
theorem cols_54 {Q : Pg} {p t : Nat} (hp : p < 4) : ∀ n, n ≤ 5 → Q 54 ≤ cols Q p t n 54 ∧ cols Q p t n 54 ≤ Q 54 + n
  | 0, _ => ⟨Nat.le_refl _, Nat.le_refl _⟩
  | n + 1, hn => by
    have h1 := cols_54 (Q := Q) (t := t) hp n (by omega)
    have h2 := colGo_54 (Q := cols Q p t n) (t := t) hp (show n < 5 by omega)
    rw [cols]; omega
theorem dayO_54 {Q : Pg} {p t : Nat} (ok : okQ Q) (hp : p < 4) : Q 54 ≤ dayO Q p t 54 ∧ dayO Q p t 54 ≤ Q 54 + 5 := by
  have h1 := cols_54 (Q := un Q (25 + p) (min 999 (Q (25 + p) + Q (29 + p)))) (t := t) hp (Q 56) ok.nc
  rw [un_n (by omega)] at h1
  have := ok.nc
  rw [dayO]; omega
theorem ones_54 {Q : Pg} {t : Nat} (ok : okQ Q) : ∀ n, n ≤ 4 → Q 54 ≤ ones Q t n 54 ∧ ones Q t n 54 ≤ Q 54 + 5 * n
  | 0, _ => ⟨Nat.le_refl _, Nat.le_refl _⟩
  | n + 1, hn => by
    have h1 := ones_54 (t := t) ok n (by omega)
    have h2 := dayO_54 (t := t) (okQ_ones (t := t) ok n (by omega)) (show n < 4 by omega)
    rw [ones]; omega
theorem dayA_54 {Q : Pg} {t : Nat} (ok : okQ Q) : Q 54 ≤ dayA Q t 54 ∧ dayA Q t 54 ≤ Q 54 + 20 := by
  have h1 := ones_54 (t := t) ok (Q 57) ok.np
  have := ok.np
  rw [dayA, un_n (by omega)]; omega
theorem daysA_54 {Q : Pg} (ok : okQ Q) : ∀ n, Q 54 ≤ daysA Q n 54 ∧ daysA Q n 54 ≤ Q 54 + 20 * n
  | 0 => ⟨Nat.le_refl _, Nat.le_refl _⟩
  | n + 1 => by
    have h1 := daysA_54 ok n
    have h2 := dayA_54 (t := 1) (okQ_daysA ok n)
    rw [daysA]; omega
theorem daysO_54 {Q : Pg} {p : Nat} (ok : okQ Q) (hp : p < 4) : ∀ n, Q 54 ≤ daysO Q p n 54 ∧ daysO Q p n 54 ≤ Q 54 + 5 * n
  | 0 => ⟨Nat.le_refl _, Nat.le_refl _⟩
  | n + 1 => by
    have h1 := daysO_54 (p := p) ok hp n
    have h2 := dayO_54 (t := 1) (okQ_daysO ok hp n) hp
    rw [daysO]; omega
theorem dayA_56 {Q : Pg} {t : Nat} (ok : okQ Q) : dayA Q t 56 = Q 56 ∧ dayA Q t 57 = Q 57 ∧ dayA Q t 53 = Q 53 + 1 := by
  rw [dayA, un_n (by omega), un_n (by omega), un_s, ones_off ok (by omega) _ ok.np, ones_off ok (by omega) _ ok.np, ones_off ok (by omega) _ ok.np]
  exact ⟨rfl, rfl, rfl⟩
theorem daysA_56 {Q : Pg} (ok : okQ Q) : ∀ n, daysA Q n 56 = Q 56 ∧ daysA Q n 57 = Q 57 ∧ daysA Q n 53 = Q 53 + n
  | 0 => ⟨rfl, rfl, rfl⟩
  | n + 1 => by
    obtain ⟨h1, h2, h3⟩ := daysA_56 ok n
    obtain ⟨g1, g2, g3⟩ := dayA_56 (t := 1) (okQ_daysA ok n)
    rw [daysA, g1, g2, g3, h1, h2, h3]; exact ⟨rfl, rfl, rfl⟩
def vDays (N : Pg) (n : Int32) : Int32 := if inR n 31 then (if 1000 ≤ N 53 + nN n then -3 else nI (daysA N (nN n) 54 - N 54)) else -1
def dysQ (N : Pg) (n : Int32) : Pg := if inR n 31 ∧ ¬ 1000 ≤ N 53 + nN n then daysA N (nN n) else N
set_option maxRecDepth 100000 in
theorem x_days {l : Launch} {G : zG} {σ : Nat → Int32} {N : Pg} {n : Int32} (hc : hdc σ 1 N) (ok : okQ N) (hd : N 53 < 1000) : zMet l yX6_days mX6_days [.ref (zGa G 0), .int n] G (zW G σ) (zP G (pC1 σ (vDays N n) (dysQ N n))) := by
  have bw : bi ((0 : Int32) ≤ n ∧ n ≤ 30) = bi (inR n 31) := bi_cg (le_inR (n := 30) (by decide))
  refine zMet.of (by decide) rfl (Nat.le_of_ble_eq_true rfl) (Or.inr rfl) fun X hX hq => ?_
  subst hX
  show Y G X mX6_days σ 0 [some (.ref (zGa G 0)), some (.int n), none] []
  by_cases hi : inR n 31
  · obtain ⟨n', hn', rfl⟩ := inR_of hi (by decide)
    have en : nN (nI n') = n' := nN_nI (by omega)
    obtain ⟨Q, hQ, eQ⟩ := hdc_full hc
    have pg := daysA_c eQ ok n'
    have hc2 : hdc (sp σ 1 (daysA Q n')) 1 (daysA N n') := hdc_sp1 pg
    have m1 := (daysA_54 ok n').1
    refine z_iload_n 1 dX6_days_0 rfl rfl ?_
    refine z_iconst 2 dX6_days_1 vi0 rfl ?_
    refine z_bipush 4 dX6_days_2 vb30 rfl ?_
    refine y_cSs 7 (c_within) cs_X6_73 ⟨by decide, by decide, rfl, rfl⟩ (Nat.le_of_ble_eq_true rfl) dX6_days_4 rfl rfl ?_
    rw [bw]
    refine z_if_ne_t 12 dX6_days_7 rfl (by rw [bi_t hi]; decide) ?_
    refine z_aload_n 13 dX6_days_12 rfl rfl ?_
    refine y_getr 16 _ sh0 rfl fl_X6_10 dX6_days_13 rfl ?_
    refine k_get 19 bkm1 (by first | exact hc | exact hc2) rfl (by decide) fl_X6_109 dX6_days_16 rfl ?_
    refine z_iload_n 20 dX6_days_19 rfl rfl ?_
    refine z_iaddN 21 rfl rfl dX6_days_20 rfl ?_
    refine z_sipush 24 dX6_days_21 vs1000 rfl ?_
    refine z_icmp_lt 30 27 dX6_days_24 rfl rfl (fun h24 => ?_) (fun h24 => ?_)
    · skip
      have h1 : N 53 + n' < 1000 := (nI_ltI (b := 1000) (by omega) (by decide)).mp h24
      refine z_aload_n 31 dX6_days_30 rfl rfl ?_
      refine y_getr 34 _ sh0 rfl fl_X6_10 dX6_days_31 rfl ?_
      refine k_get 37 bkm1 (by first | exact hc | exact hc2) rfl (by decide) fl_X6_112 dX6_days_34 rfl ?_
      refine z_istore_n 38 [_, _, _] dX6_days_37 (by decide) rfl rfl rfl ?_
      refine z_aload_n 39 dX6_days_38 rfl rfl ?_
      refine y_getr 42 _ sh0 rfl fl_X6_10 dX6_days_39 rfl ?_
      refine z_iload_n 43 dX6_days_42 rfl rfl ?_
      refine y_cVv 46 _ (c_passDays bkm1 hQ (ok.eqc eQ) (by omega)) (bk0 bkm1) cv_X6_187 ⟨by decide, by decide, rfl, rfl⟩ (Nat.le_of_ble_eq_true rfl) dX6_days_43 rfl rfl ?_
      refine z_aload_n 47 dX6_days_46 rfl rfl ?_
      refine y_getr 50 _ sh0 rfl fl_X6_10 dX6_days_47 rfl ?_
      refine k_get 53 bkm1 (by first | exact hc | exact hc2) rfl (by decide) fl_X6_112 dX6_days_50 rfl ?_
      refine z_iload_n 54 dX6_days_53 rfl rfl ?_
      refine z_isubN 55 rfl rfl m1 dX6_days_54 rfl ?_
      refine z_iret hq rfl dX6_days_55 rfl rfl ?_
      exact ⟨_, ⟨by rw [vDays, if_pos hi, if_neg (by rw [en]; omega), en], by rw [dysQ, if_pos ⟨hi, by rw [en]; omega⟩, en]; exact hc2, off1_sp⟩, rfl⟩
    · skip
      have h1 : 1000 ≤ N 53 + n' := by
          rcases Nat.lt_or_ge (N 53 + n') 1000 with q | q
          · exact absurd (nI_lt q (by decide)) h24
          · exact q
      refine z_bipush 29 dX6_days_27 vbm3 rfl ?_
      refine z_iret hq rfl dX6_days_29 rfl rfl ?_
      exact ⟨_, ⟨by rw [vDays, if_pos hi, if_pos (by rw [en]; exact h1)], by rw [dysQ, if_neg (fun q => q.2 (by rw [en]; exact h1))]; exact hc, off1.rf⟩, rfl⟩
  · skip
    refine z_iload_n 1 dX6_days_0 rfl rfl ?_
    refine z_iconst 2 dX6_days_1 vi0 rfl ?_
    refine z_bipush 4 dX6_days_2 vb30 rfl ?_
    refine y_cSs 7 (c_within) cs_X6_73 ⟨by decide, by decide, rfl, rfl⟩ (Nat.le_of_ble_eq_true rfl) dX6_days_4 rfl rfl ?_
    rw [bw]
    refine z_if_ne_f 10 12 dX6_days_7 rfl (bi_f hi) rfl ?_
    refine z_iconst 11 dX6_days_10 vim1 rfl ?_
    refine z_iret hq rfl dX6_days_11 rfl rfl ?_
    exact ⟨_, ⟨by rw [vDays, if_neg hi], by rw [dysQ, if_neg (fun q => hi q.1)]; exact hc, off1.rf⟩, rfl⟩
set_option maxRecDepth 100000 in
theorem r_days {l : Launch} {G : zG} {σ : Nat → Int32} {N : Pg} {n : Int32} (hc : hdk σ 0 N) (ok : okQ N) (hd : N 53 < 1000) : zMet l yX7_days mX7_days [.ref (zGa G 158), .int n] G (zW G σ) (zP G (pR1 σ (vDays N n) (dysQ N n))) := by
  have bw : bi ((0 : Int64) ≤ n.toInt64 ∧ n.toInt64 ≤ 30) = bi (inR n 31) := bi_in7 (n := 30) (by decide)
  refine zMet.of (by decide) rfl (Nat.le_of_ble_eq_true rfl) (Or.inr rfl) fun X hX hq => ?_
  subst hX
  show Y G X mX7_days σ 0 [some (.ref (zGa G 158)), some (.int n), none, none] []
  by_cases hi : inR n 31
  · obtain ⟨n', hn', rfl⟩ := inR_of hi (by decide)
    have en : nN (nI n') = n' := nN_nI (by omega)
    obtain ⟨Q, hQ, eQ⟩ := hdk_full hc
    have oq := ok.eqc eQ
    have m1 := (daysA_54 ok n').1
    by_cases h1 : N 53 + n' < 1000
    · skip
      refine z_iload_n 1 dX7_days_0 rfl rfl ?_
      refine z_i2l 2 dX7_days_1 rfl ?_
      refine z_lconst 3 dX7_days_2 vl0 rfl ?_
      refine z_ldc2 6 kc_X7_206 dX7_days_3 rfl ?_
      refine y_cSs 9 (c_in) cs_X7_55 ⟨by decide, by decide, rfl, rfl⟩ (Nat.le_of_ble_eq_true rfl) dX7_days_6 rfl rfl ?_
      rw [bw]
      refine z_if_ne_t 14 dX7_days_9 rfl (by rw [bi_t hi]; decide) ?_
      refine z_aload_n 15 dX7_days_14 rfl rfl ?_
      refine y_getr 18 _ sh158 rfl fl_X7_7 dX7_days_15 rfl ?_
      refine z_bipush 20 dX7_days_18 vb53 rfl ?_
      refine q_ld 21 (53) hc (show (53 : Int32) = nI 53 from rfl) (by omega) (by omega) (by omega) dX7_days_20 rfl ?_
      refine z_iload_n 22 dX7_days_21 rfl rfl ?_
      refine z_iaddN 23 rfl rfl dX7_days_22 rfl ?_
      refine z_sipush 26 dX7_days_23 vs999 rfl ?_
      refine z_icmp_le_t 32 dX7_days_26 rfl (nI_le (b := 999) (by omega) (by decide)) ?_
      refine z_aload_n 33 dX7_days_32 rfl rfl ?_
      refine y_getr 36 _ sh158 rfl fl_X7_7 dX7_days_33 rfl ?_
      refine z_bipush 38 dX7_days_36 vb54 rfl ?_
      refine q_ld 39 (54) hc (show (54 : Int32) = nI 54 from rfl) (by omega) (by omega) (by omega) dX7_days_38 rfl ?_
      refine z_istore_n 40 [_, _, _, _] dX7_days_39 (by decide) rfl rfl rfl ?_
      refine z_iconst 41 dX7_days_40 vi0 rfl ?_
      refine z_istore_n 42 [_, _, _, _] dX7_days_41 (by decide) rfl rfl rfl ?_
      rw [← rsp_self hQ]
      refine zup (P := fun i => Y G X mX7_days (rsp σ 0 (daysA Q i)) 42 [some (.ref (zGa G 158)), some (.int (nI n')), some (.int (nI (N 54))), some (.int (nI i))] []) n' ?_ (fun i hi ih => ?_) 0 (Nat.zero_le _)
      · have hc2 : hdk (rsp σ 0 (daysA Q n')) 0 (daysA N n') := hdk_rsp (daysA_c eQ ok n')
        refine z_iload_n 43 dX7_days_42 rfl rfl ?_
        refine z_iload_n 44 dX7_days_43 rfl rfl ?_
        refine z_icmp_ge_t 59 dX7_days_44 rfl (Int32.le_refl _) ?_
        refine z_aload_n 60 dX7_days_59 rfl rfl ?_
        refine y_getr 63 _ sh158 rfl fl_X7_7 dX7_days_60 rfl ?_
        refine z_bipush 65 dX7_days_63 vb54 rfl ?_
        refine q_ld 66 (54) hc2 (show (54 : Int32) = nI 54 from rfl) (by omega) (by omega) (by omega) dX7_days_65 rfl ?_
        refine z_iload_n 67 dX7_days_66 rfl rfl ?_
        refine z_isubN 68 rfl rfl m1 dX7_days_67 rfl ?_
        refine z_iret hq rfl dX7_days_68 rfl rfl ?_
        exact ⟨_, ⟨by rw [vDays, if_pos hi, if_neg (by rw [en]; omega), en], by rw [dysQ, if_pos ⟨hi, by rw [en]; omega⟩, en]; exact hc2, offR_rsp (h56 hc ((daysA_56 oq n').1.trans (eQ 56 (by decide)))) (h57 hc ((daysA_56 oq n').2.1.trans (eQ 57 (by decide))))⟩, rfl⟩
      · skip
        refine z_iload_n 43 dX7_days_42 rfl rfl ?_
        refine z_iload_n 44 dX7_days_43 rfl rfl ?_
        refine z_icmp_ge_f 47 59 dX7_days_44 rfl (nI_ge hi (by omega)) rfl ?_
        refine z_aload_n 48 dX7_days_47 rfl rfl ?_
        refine z_iconst 49 dX7_days_48 vi0 rfl ?_
        refine z_iconst 50 dX7_days_49 vi1 rfl ?_
        refine y_cVv 53 _ (c_dayOn (o := 0) (t := 1) (hdr_rsp' (by decide)) (by decide) (okQ_daysA oq i) (by decide)) sh158 cv_X7_208 ⟨by decide, by decide, rfl, rfl⟩ (Nat.le_of_ble_eq_true rfl) dX7_days_50 rfl rfl ?_
        rw [rsp_rsp]
        refine z_iinc 56 [_, _, _, _] dX7_days_53 rfl (show _ + _ = nI (_ + 1) from nI_1 _) (by decide) rfl rfl rfl ?_
        refine z_goto 42 dX7_days_56 rfl ?_
        exact ih
    · skip
      refine z_iload_n 1 dX7_days_0 rfl rfl ?_
      refine z_i2l 2 dX7_days_1 rfl ?_
      refine z_lconst 3 dX7_days_2 vl0 rfl ?_
      refine z_ldc2 6 kc_X7_206 dX7_days_3 rfl ?_
      refine y_cSs 9 (c_in) cs_X7_55 ⟨by decide, by decide, rfl, rfl⟩ (Nat.le_of_ble_eq_true rfl) dX7_days_6 rfl rfl ?_
      rw [bw]
      refine z_if_ne_t 14 dX7_days_9 rfl (by rw [bi_t hi]; decide) ?_
      refine z_aload_n 15 dX7_days_14 rfl rfl ?_
      refine y_getr 18 _ sh158 rfl fl_X7_7 dX7_days_15 rfl ?_
      refine z_bipush 20 dX7_days_18 vb53 rfl ?_
      refine q_ld 21 (53) hc (show (53 : Int32) = nI 53 from rfl) (by omega) (by omega) (by omega) dX7_days_20 rfl ?_
      refine z_iload_n 22 dX7_days_21 rfl rfl ?_
      refine z_iaddN 23 rfl rfl dX7_days_22 rfl ?_
      refine z_sipush 26 dX7_days_23 vs999 rfl ?_
      refine z_icmp_le_f 29 32 dX7_days_26 rfl (nI_ge (a := 999) (by omega) (by omega)) rfl ?_
      refine z_bipush 31 dX7_days_29 vbm3 rfl ?_
      refine z_iret hq rfl dX7_days_31 rfl rfl ?_
      exact ⟨_, ⟨by rw [vDays, if_pos hi, if_pos (by rw [en]; omega)], by rw [dysQ, if_neg (fun q => q.2 (by rw [en]; omega))]; exact hc, offR.rf⟩, rfl⟩
  · skip
    refine z_iload_n 1 dX7_days_0 rfl rfl ?_
    refine z_i2l 2 dX7_days_1 rfl ?_
    refine z_lconst 3 dX7_days_2 vl0 rfl ?_
    refine z_ldc2 6 kc_X7_206 dX7_days_3 rfl ?_
    refine y_cSs 9 (c_in) cs_X7_55 ⟨by decide, by decide, rfl, rfl⟩ (Nat.le_of_ble_eq_true rfl) dX7_days_6 rfl rfl ?_
    rw [bw]
    refine z_if_ne_f 12 14 dX7_days_9 rfl (bi_f hi) rfl ?_
    refine z_iconst 13 dX7_days_12 vim1 rfl ?_
    refine z_iret hq rfl dX7_days_13 rfl rfl ?_
    exact ⟨_, ⟨by rw [vDays, if_neg hi], by rw [dysQ, if_neg (fun q => hi q.1)]; exact hc, offR.rf⟩, rfl⟩

