/-! ===== the reference: distances, loans, what is brought back ===== -/
set_option maxRecDepth 100000 in
theorem c_apart {l : Launch} {G : zG} {σ : Nat → Int32} {a b : Nat} (ha : a < 2 ^ 31) (hb : b < 2 ^ 31) : zMet l yX7_apart mX7_apart [.int (nI a), .int (nI b)] G (zW G σ) (zFn G (some (.int (nI (dst a b)))) σ) := by
  refine zMet.of (by decide) rfl (Nat.le_of_ble_eq_true rfl) (Or.inr rfl) fun X hX hq => ?_
  subst hX
  show Y G X mX7_apart σ 0 [some (.int (nI a)), some (.int (nI b))] []
  refine z_iload_n 1 dX7_apart_0 rfl rfl ?_
  refine z_iload_n 2 dX7_apart_1 rfl rfl ?_
  refine z_icmp_le 11 5 dX7_apart_2 rfl rfl (fun h2 => ?_) (fun h2 => ?_)
  · skip
    have h : a ≤ b := (nI_leI ha hb).mp h2
    have e : dst a b = b - a := by simp only [dst]; omega
    refine z_iload_n 12 dX7_apart_11 rfl rfl ?_
    refine z_iload_n 13 dX7_apart_12 rfl rfl ?_
    refine z_isubN 14 rfl rfl h dX7_apart_13 rfl ?_
    refine z_iret hq rfl dX7_apart_14 rfl rfl ?_
    exact ⟨by rw [e], rfl⟩
  · skip
    have h : b ≤ a := by
        rcases Nat.le_total a b with q | q
        · exact absurd (nI_le q hb) h2
        · exact q
    have e : dst a b = a - b := by simp only [dst]; omega
    refine z_iload_n 6 dX7_apart_5 rfl rfl ?_
    refine z_iload_n 7 dX7_apart_6 rfl rfl ?_
    refine z_isubN 8 rfl rfl h dX7_apart_7 rfl ?_
    refine z_goto 14 dX7_apart_8 rfl ?_
    refine z_iret hq rfl dX7_apart_14 rfl rfl ?_
    exact ⟨by rw [e], rfl⟩
set_option maxRecDepth 100000 in
theorem c_offOf {l : Launch} {G : zG} {σ : Nat → Int32} {a b : Nat} (ha : a < 2 ^ 31) (hb : b < 2 ^ 31) : zMet l yX7_offOf mX7_offOf [.int (nI a), .int (nI b)] G (zW G σ) (zFn G (some (.int (nI (offN a b)))) σ) := by
  refine zMet.of (by decide) rfl (Nat.le_of_ble_eq_true rfl) (Or.inr rfl) fun X hX hq => ?_
  subst hX
  show Y G X mX7_offOf σ 0 [some (.int (nI a)), some (.int (nI b))] []
  refine z_iload_n 1 dX7_offOf_0 rfl rfl ?_
  refine z_bipush 3 dX7_offOf_1 vb100 rfl ?_
  refine z_idivN 4 rfl (show (100 : Int32) = nI 100 from rfl) (by omega) (by omega) dX7_offOf_3 rfl ?_
  refine z_iload_n 5 dX7_offOf_4 rfl rfl ?_
  refine z_bipush 7 dX7_offOf_5 vb100 rfl ?_
  refine z_idivN 8 rfl (show (100 : Int32) = nI 100 from rfl) (by omega) (by omega) dX7_offOf_7 rfl ?_
  refine y_cSs 11 (c_apart (by omega) (by omega)) cs_X7_154 ⟨by decide, by decide, rfl, rfl⟩ (Nat.le_of_ble_eq_true rfl) dX7_offOf_8 rfl rfl ?_
  refine z_iload_n 12 dX7_offOf_11 rfl rfl ?_
  refine z_bipush 14 dX7_offOf_12 vb10 rfl ?_
  refine z_idivN 15 rfl (show (10 : Int32) = nI 10 from rfl) (by omega) (by omega) dX7_offOf_14 rfl ?_
  refine z_bipush 17 dX7_offOf_15 vb10 rfl ?_
  refine z_iremN 18 rfl (show (10 : Int32) = nI 10 from rfl) (by omega) (by omega) dX7_offOf_17 rfl ?_
  refine z_iload_n 19 dX7_offOf_18 rfl rfl ?_
  refine z_bipush 21 dX7_offOf_19 vb10 rfl ?_
  refine z_idivN 22 rfl (show (10 : Int32) = nI 10 from rfl) (by omega) (by omega) dX7_offOf_21 rfl ?_
  refine z_bipush 24 dX7_offOf_22 vb10 rfl ?_
  refine z_iremN 25 rfl (show (10 : Int32) = nI 10 from rfl) (by omega) (by omega) dX7_offOf_24 rfl ?_
  refine y_cSs 28 (c_apart (by omega) (by omega)) cs_X7_154 ⟨by decide, by decide, rfl, rfl⟩ (Nat.le_of_ble_eq_true rfl) dX7_offOf_25 rfl rfl ?_
  refine z_iaddN 29 rfl rfl dX7_offOf_28 rfl ?_
  refine z_iload_n 30 dX7_offOf_29 rfl rfl ?_
  refine z_bipush 32 dX7_offOf_30 vb10 rfl ?_
  refine z_iremN 33 rfl (show (10 : Int32) = nI 10 from rfl) (by omega) (by omega) dX7_offOf_32 rfl ?_
  refine z_iload_n 34 dX7_offOf_33 rfl rfl ?_
  refine z_bipush 36 dX7_offOf_34 vb10 rfl ?_
  refine z_iremN 37 rfl (show (10 : Int32) = nI 10 from rfl) (by omega) (by omega) dX7_offOf_36 rfl ?_
  refine y_cSs 40 (c_apart (by omega) (by omega)) cs_X7_154 ⟨by decide, by decide, rfl, rfl⟩ (Nat.le_of_ble_eq_true rfl) dX7_offOf_37 rfl rfl ?_
  refine z_iaddN 41 rfl rfl dX7_offOf_40 rfl ?_
  refine z_iret hq rfl dX7_offOf_41 rfl rfl ?_
  exact ⟨rfl, rfl⟩
set_option maxRecDepth 100000 in
theorem c_bringsOn {l : Launch} {G : zG} {σ : Nat → Int32} {o p c n : Nat} {Q : Pg} (hQ : hdr σ o Q) (ho : o ≤ 275) (hp : p < 4) (hc : c < 5) (hn : n ≤ Q (33 + 5 * p + c)) (hb : Q (20 + c) + n < 2 ^ 31) : zMet l yX7_bringsOn mX7_bringsOn [.ref (zGa G 158), .int (nI o), .int (nI p), .int (nI c), .int (nI n)] G (zW G σ) (zFn G none (rsp σ o (un (un Q (33 + 5 * p + c) (Q (33 + 5 * p + c) - n)) (20 + c) (min 99 (Q (20 + c) + n))))) := by
  have hdr_rsp : ∀ {R : Pg}, hdr (rsp σ o R) o R := hdr_rsp' ho
  have e1 : ∀ v, un Q (20 + c) v (33 + 5 * p + c) = Q (33 + 5 * p + c) := fun v => un_n (by omega)
  conv => arg 6; rw [← rsp_self hQ]
  rw [un_co (by omega)]
  refine zMet.of (by decide) rfl (Nat.le_of_ble_eq_true rfl) (Or.inr rfl) fun X hX hq => ?_
  subst hX
  show Y G X mX7_bringsOn (rsp σ o Q) 0 [some (.ref (zGa G 158)), some (.int (nI o)), some (.int (nI p)), some (.int (nI c)), some (.int (nI n)), none] []
  refine z_aload_n 1 dX7_bringsOn_0 rfl rfl ?_
  refine y_getr 4 _ sh158 rfl fl_X7_7 dX7_bringsOn_1 rfl ?_
  refine z_iload_n 5 dX7_bringsOn_4 rfl rfl ?_
  refine z_bipush 7 dX7_bringsOn_5 vb20 rfl ?_
  refine z_iaddN 8 rfl (show (20 : Int32) = nI 20 from rfl) dX7_bringsOn_7 rfl ?_
  refine z_iload_n 9 dX7_bringsOn_8 rfl rfl ?_
  refine z_iaddN 10 rfl rfl dX7_bringsOn_9 rfl ?_
  refine m_ld 11 (20 + c) hdr_rsp rfl (by omega) (by omega) (by omega) dX7_bringsOn_10 rfl ?_
  refine z_iload 13 dX7_bringsOn_11 rfl rfl ?_
  refine z_iaddN 14 rfl rfl dX7_bringsOn_13 rfl ?_
  refine z_istore 16 [_, _, _, _, _, _] dX7_bringsOn_14 (by decide) rfl rfl rfl ?_
  refine z_aload_n 17 dX7_bringsOn_16 rfl rfl ?_
  refine y_getr 20 _ sh158 rfl fl_X7_7 dX7_bringsOn_17 rfl ?_
  refine z_iload_n 21 dX7_bringsOn_20 rfl rfl ?_
  refine z_bipush 23 dX7_bringsOn_21 vb20 rfl ?_
  refine z_iaddN 24 rfl (show (20 : Int32) = nI 20 from rfl) dX7_bringsOn_23 rfl ?_
  refine z_iload_n 25 dX7_bringsOn_24 rfl rfl ?_
  refine z_iaddN 26 rfl rfl dX7_bringsOn_25 rfl ?_
  refine z_iload 28 dX7_bringsOn_26 rfl rfl ?_
  refine z_bipush 30 dX7_bringsOn_28 vb99 rfl ?_
  refine z_icmp_le 38 33 dX7_bringsOn_30 rfl rfl (fun h30 => ?_) (fun h30 => ?_)
  · skip
    have em : min 99 (Q (20 + c) + n) = Q (20 + c) + n := by
        have := (nI_leI (b := 99) (by omega) (by decide)).mp h30
        omega
    refine z_iload 40 dX7_bringsOn_38 rfl rfl ?_
    refine w_st 41 (20 + c) rfl (by omega) (by omega) (by omega) rfl dX7_bringsOn_40 rfl ?_
    refine z_aload_n 42 dX7_bringsOn_41 rfl rfl ?_
    refine y_getr 45 _ sh158 rfl fl_X7_7 dX7_bringsOn_42 rfl ?_
    refine z_iload_n 46 dX7_bringsOn_45 rfl rfl ?_
    refine z_bipush 48 dX7_bringsOn_46 vb33 rfl ?_
    refine z_iaddN 49 rfl (show (33 : Int32) = nI 33 from rfl) dX7_bringsOn_48 rfl ?_
    refine z_iconst 50 dX7_bringsOn_49 vi5 rfl ?_
    refine z_iload_n 51 dX7_bringsOn_50 rfl rfl ?_
    refine z_imulN 52 (show (5 : Int32) = nI 5 from rfl) rfl dX7_bringsOn_51 rfl ?_
    refine z_iaddN 53 rfl rfl dX7_bringsOn_52 rfl ?_
    refine z_iload_n 54 dX7_bringsOn_53 rfl rfl ?_
    refine z_iaddN 55 rfl rfl dX7_bringsOn_54 rfl ?_
    refine z_dup2 56 dX7_bringsOn_55 rfl rfl rfl ?_
    refine m_ld 57 (33 + 5 * p + c) hdr_rsp rfl (by omega) (by omega) (by omega) dX7_bringsOn_56 rfl ?_
    rw [e1]
    refine z_iload 59 dX7_bringsOn_57 rfl rfl ?_
    refine z_isubN 60 rfl rfl hn dX7_bringsOn_59 rfl ?_
    refine w_st 61 (33 + 5 * p + c) rfl (by omega) (by omega) (by omega) rfl dX7_bringsOn_60 rfl ?_
    refine z_vret hq rfl dX7_bringsOn_61 rfl rfl ?_
    exact ⟨rfl, by rw [em]⟩
  · skip
    have em : min 99 (Q (20 + c) + n) = 99 := by
        rcases Nat.lt_or_ge 99 (Q (20 + c) + n) with q | q
        · omega
        · exact absurd (nI_le q (by decide)) h30
    refine z_bipush 35 dX7_bringsOn_33 vb99 rfl ?_
    refine z_goto 40 dX7_bringsOn_35 rfl ?_
    refine w_st 41 (20 + c) rfl (by omega) (by omega) (by omega) (show (99 : Int32) = nI 99 from rfl) dX7_bringsOn_40 rfl ?_
    refine z_aload_n 42 dX7_bringsOn_41 rfl rfl ?_
    refine y_getr 45 _ sh158 rfl fl_X7_7 dX7_bringsOn_42 rfl ?_
    refine z_iload_n 46 dX7_bringsOn_45 rfl rfl ?_
    refine z_bipush 48 dX7_bringsOn_46 vb33 rfl ?_
    refine z_iaddN 49 rfl (show (33 : Int32) = nI 33 from rfl) dX7_bringsOn_48 rfl ?_
    refine z_iconst 50 dX7_bringsOn_49 vi5 rfl ?_
    refine z_iload_n 51 dX7_bringsOn_50 rfl rfl ?_
    refine z_imulN 52 (show (5 : Int32) = nI 5 from rfl) rfl dX7_bringsOn_51 rfl ?_
    refine z_iaddN 53 rfl rfl dX7_bringsOn_52 rfl ?_
    refine z_iload_n 54 dX7_bringsOn_53 rfl rfl ?_
    refine z_iaddN 55 rfl rfl dX7_bringsOn_54 rfl ?_
    refine z_dup2 56 dX7_bringsOn_55 rfl rfl rfl ?_
    refine m_ld 57 (33 + 5 * p + c) hdr_rsp rfl (by omega) (by omega) (by omega) dX7_bringsOn_56 rfl ?_
    rw [e1]
    refine z_iload 59 dX7_bringsOn_57 rfl rfl ?_
    refine z_isubN 60 rfl rfl hn dX7_bringsOn_59 rfl ?_
    refine w_st 61 (33 + 5 * p + c) rfl (by omega) (by omega) (by omega) rfl dX7_bringsOn_60 rfl ?_
    refine z_vret hq rfl dX7_bringsOn_61 rfl rfl ?_
    exact ⟨rfl, by rw [em]⟩
set_option maxRecDepth 100000 in
theorem c_lendsOn {l : Launch} {G : zG} {σ : Nat → Int32} {o : Nat} {Q : Pg} {p c n : Int32} (hQ : hdr σ o Q) (ho : o ≤ 275) (ok : okQ Q) : zMet l yX7_lendsOn mX7_lendsOn [.ref (zGa G 158), .int (nI o), .int p, .int c, .int n] G (zW G σ) (zFn G (some (.int (lendV Q p c n))) (rsp σ o (lendQ Q p c n))) := by
  have hdr_rsp : ∀ {R : Pg}, hdr (rsp σ o R) o R := hdr_rsp' ho
  have b1 := ok.nc
  have b2 := ok.np
  have en : ((1 : Int64) ≤ n.toInt64 ∧ n.toInt64 ≤ 99) ↔ ((1 : Int32) ≤ n ∧ n ≤ 99) := by
    rw [Int64.le_iff_toInt_le, Int64.le_iff_toInt_le, Int32.toInt_toInt64, Int32.le_iff_toInt_le, Int32.le_iff_toInt_le]
    exact Iff.rfl
  conv => arg 6; rw [← rsp_self hQ]
  refine zMet.of (by decide) rfl (Nat.le_of_ble_eq_true rfl) (Or.inr rfl) fun X hX hq => ?_
  subst hX
  show Y G X mX7_lendsOn (rsp σ o Q) 0 [some (.ref (zGa G 158)), some (.int (nI o)), some (.int p), some (.int c), some (.int n), none] []
  refine z_aload_n 1 dX7_lendsOn_0 rfl rfl ?_
  refine z_iload_n 2 dX7_lendsOn_1 rfl rfl ?_
  refine y_cVs 5 _ (c_isOne7 hdr_rsp b2) sh158 cv_X7_182 ⟨by decide, by decide, rfl, rfl⟩ (Nat.le_of_ble_eq_true rfl) dX7_lendsOn_2 rfl rfl ?_
  refine z_if_eq 29 8 dX7_lendsOn_5 rfl rfl (fun h5 => ?_) (fun h5 => ?_)
  · skip
    have hno : ¬ lendOk Q p c n := fun h => bi0.mp h5 h.1
    refine z_iconst 30 dX7_lendsOn_29 vim1 rfl ?_
    refine z_iret hq rfl dX7_lendsOn_30 rfl rfl ?_
    exact ⟨by rw [lendV, if_neg hno], by rw [lendQ, if_neg (fun h => hno h.1)]⟩
  · skip
    refine z_aload_n 9 dX7_lendsOn_8 rfl rfl ?_
    refine z_iload_n 10 dX7_lendsOn_9 rfl rfl ?_
    refine y_cVs 13 _ (c_isColour7 hdr_rsp b1) sh158 cv_X7_176 ⟨by decide, by decide, rfl, rfl⟩ (Nat.le_of_ble_eq_true rfl) dX7_lendsOn_10 rfl rfl ?_
    refine z_if_eq 29 16 dX7_lendsOn_13 rfl rfl (fun h13 => ?_) (fun h13 => ?_)
    · skip
      have hno : ¬ lendOk Q p c n := fun h => bi0.mp h13 h.2.1
      refine z_iconst 30 dX7_lendsOn_29 vim1 rfl ?_
      refine z_iret hq rfl dX7_lendsOn_30 rfl rfl ?_
      exact ⟨by rw [lendV, if_neg hno], by rw [lendQ, if_neg (fun h => hno h.1)]⟩
    · skip
      refine z_iload 18 dX7_lendsOn_16 rfl rfl ?_
      refine z_i2l 19 dX7_lendsOn_18 rfl ?_
      refine z_lconst 20 dX7_lendsOn_19 vl1 rfl ?_
      refine z_ldc2 23 kc_X7_197 dX7_lendsOn_20 rfl ?_
      refine y_cSs 26 (c_in) cs_X7_55 ⟨by decide, by decide, rfl, rfl⟩ (Nat.le_of_ble_eq_true rfl) dX7_lendsOn_23 rfl rfl ?_
      refine z_if_ne 31 29 dX7_lendsOn_26 rfl rfl (fun h26 => ?_) (fun h26 => ?_)
      · skip
        have hyes : lendOk Q p c n := ⟨bin0.mp h5, bin0.mp h13, en.mp (bin0.mp h26)⟩
        obtain ⟨p', hp, e⟩ := inR_of hyes.1 (by omega)
        subst e
        obtain ⟨c', hc, e⟩ := inR_of hyes.2.1 (by omega)
        subst e
        obtain ⟨n', hn1, hn2, e⟩ := le_nI1 hyes.2.2
        subst e
        have ep : nN (nI p') = p' := nI_nat (by omega)
        have ec : nN (nI c') = c' := nI_nat (by omega)
        have en : nN (nI n') = n' := nI_nat (by omega)
        have p4 : p' < 4 := by omega
        have c5 : c' < 5 := by omega
        have b3 := ok.vt c5
        have b4 := ok.he p4 c5
        have g1 : ∀ v, un Q (20 + c') v (33 + 5 * p' + c') = Q (33 + 5 * p' + c') := fun v => un_n (by omega)
        refine z_iload_n 32 dX7_lendsOn_31 rfl rfl ?_
        refine z_bipush 34 dX7_lendsOn_32 vb33 rfl ?_
        refine z_iaddN 35 rfl (show (33 : Int32) = nI 33 from rfl) dX7_lendsOn_34 rfl ?_
        refine z_iconst 36 dX7_lendsOn_35 vi5 rfl ?_
        refine z_iload_n 37 dX7_lendsOn_36 rfl rfl ?_
        refine z_imulN 38 (show (5 : Int32) = nI 5 from rfl) rfl dX7_lendsOn_37 rfl ?_
        refine z_iaddN 39 rfl rfl dX7_lendsOn_38 rfl ?_
        refine z_iload_n 40 dX7_lendsOn_39 rfl rfl ?_
        refine z_iaddN 41 rfl rfl dX7_lendsOn_40 rfl ?_
        refine z_istore 43 [_, _, _, _, _, _] dX7_lendsOn_41 (by decide) rfl rfl rfl ?_
        refine z_aload_n 44 dX7_lendsOn_43 rfl rfl ?_
        refine y_getr 47 _ sh158 rfl fl_X7_7 dX7_lendsOn_44 rfl ?_
        refine z_iload_n 48 dX7_lendsOn_47 rfl rfl ?_
        refine z_bipush 50 dX7_lendsOn_48 vb20 rfl ?_
        refine z_iaddN 51 rfl (show (20 : Int32) = nI 20 from rfl) dX7_lendsOn_50 rfl ?_
        refine z_iload_n 52 dX7_lendsOn_51 rfl rfl ?_
        refine z_iaddN 53 rfl rfl dX7_lendsOn_52 rfl ?_
        refine m_ld 54 (20 + c') hdr_rsp rfl (by omega) (by omega) (by omega) dX7_lendsOn_53 rfl ?_
        refine z_iload 56 dX7_lendsOn_54 rfl rfl ?_
        refine z_icmp_lt 74 59 dX7_lendsOn_56 rfl rfl (fun h56 => ?_) (fun h56 => ?_)
        · skip
          have hno : lendNo Q (nI p') (nI c') (nI n') := Or.inl (by rw [ec, en]; exact (nI_ltI (by omega) (by omega)).mp h56)
          refine z_bipush 76 dX7_lendsOn_74 vbm2 rfl ?_
          refine z_iret hq rfl dX7_lendsOn_76 rfl rfl ?_
          exact ⟨by rw [lendV, if_pos hyes, if_pos hno], by rw [lendQ, if_neg (fun h => h.2 hno)]⟩
        · skip
          refine z_aload_n 60 dX7_lendsOn_59 rfl rfl ?_
          refine y_getr 63 _ sh158 rfl fl_X7_7 dX7_lendsOn_60 rfl ?_
          refine z_iload 65 dX7_lendsOn_63 rfl rfl ?_
          refine m_ld 66 (33 + 5 * p' + c') hdr_rsp rfl (by omega) (by omega) (by omega) dX7_lendsOn_65 rfl ?_
          refine z_iload 68 dX7_lendsOn_66 rfl rfl ?_
          refine z_iaddN 69 rfl rfl dX7_lendsOn_68 rfl ?_
          refine z_bipush 71 dX7_lendsOn_69 vb99 rfl ?_
          refine z_icmp_le 77 74 dX7_lendsOn_71 rfl rfl (fun h71 => ?_) (fun h71 => ?_)
          · skip
            have h1 : n' ≤ Q (20 + c') := by
                rcases Nat.lt_or_ge (Q (20 + c')) n' with q | q
                · exact absurd (nI_lt q (by omega)) h56
                · exact q
            have h2 : Q (33 + 5 * p' + c') + n' ≤ 99 := (nI_leI (b := 99) (by omega) (by decide)).mp h71
            have hno : ¬ lendNo Q (nI p') (nI c') (nI n') := by rw [lendNo, ec, en, ep]; omega
            refine z_aload_n 78 dX7_lendsOn_77 rfl rfl ?_
            refine y_getr 81 _ sh158 rfl fl_X7_7 dX7_lendsOn_78 rfl ?_
            refine z_iload_n 82 dX7_lendsOn_81 rfl rfl ?_
            refine z_bipush 84 dX7_lendsOn_82 vb20 rfl ?_
            refine z_iaddN 85 rfl (show (20 : Int32) = nI 20 from rfl) dX7_lendsOn_84 rfl ?_
            refine z_iload_n 86 dX7_lendsOn_85 rfl rfl ?_
            refine z_iaddN 87 rfl rfl dX7_lendsOn_86 rfl ?_
            refine z_dup2 88 dX7_lendsOn_87 rfl rfl rfl ?_
            refine m_ld 89 (20 + c') hdr_rsp rfl (by omega) (by omega) (by omega) dX7_lendsOn_88 rfl ?_
            refine z_iload 91 dX7_lendsOn_89 rfl rfl ?_
            refine z_isubN 92 rfl rfl h1 dX7_lendsOn_91 rfl ?_
            refine w_st 93 (20 + c') rfl (by omega) (by omega) (by omega) rfl dX7_lendsOn_92 rfl ?_
            refine z_aload_n 94 dX7_lendsOn_93 rfl rfl ?_
            refine y_getr 97 _ sh158 rfl fl_X7_7 dX7_lendsOn_94 rfl ?_
            refine z_iload 99 dX7_lendsOn_97 rfl rfl ?_
            refine z_dup2 100 dX7_lendsOn_99 rfl rfl rfl ?_
            refine m_ld 101 (33 + 5 * p' + c') hdr_rsp rfl (by omega) (by omega) (by omega) dX7_lendsOn_100 rfl ?_
            rw [g1]
            refine z_iload 103 dX7_lendsOn_101 rfl rfl ?_
            refine z_iaddN 104 rfl rfl dX7_lendsOn_103 rfl ?_
            refine w_st 105 (33 + 5 * p' + c') rfl (by omega) (by omega) (by omega) rfl dX7_lendsOn_104 rfl ?_
            refine z_aload_n 106 dX7_lendsOn_105 rfl rfl ?_
            refine y_getr 109 _ sh158 rfl fl_X7_7 dX7_lendsOn_106 rfl ?_
            refine z_iload 111 dX7_lendsOn_109 rfl rfl ?_
            refine m_ld 112 (33 + 5 * p' + c') hdr_rsp rfl (by omega) (by omega) (by omega) dX7_lendsOn_111 rfl ?_
            rw [un_s]
            refine z_iret hq rfl dX7_lendsOn_112 rfl rfl ?_
            exact ⟨by rw [lendV, if_pos hyes, if_neg hno, ep, ec, en], by rw [lendQ, if_pos ⟨hyes, hno⟩, ep, ec, en]⟩
          · skip
            have hno : lendNo Q (nI p') (nI c') (nI n') := Or.inr (by rw [ec, en, ep]; rcases Nat.lt_or_ge 99 (Q (33 + 5 * p' + c') + n') with q | q; exact q; exact absurd (nI_le q (by decide)) h71)
            refine z_bipush 76 dX7_lendsOn_74 vbm2 rfl ?_
            refine z_iret hq rfl dX7_lendsOn_76 rfl rfl ?_
            exact ⟨by rw [lendV, if_pos hyes, if_pos hno], by rw [lendQ, if_neg (fun h => h.2 hno)]⟩
      · skip
        have hno : ¬ lendOk Q p c n := fun h => bi0.mp h26 (en.mpr h.2.2)
        refine z_iconst 30 dX7_lendsOn_29 vim1 rfl ?_
        refine z_iret hq rfl dX7_lendsOn_30 rfl rfl ?_
        exact ⟨by rw [lendV, if_neg hno], by rw [lendQ, if_neg (fun h => hno h.1)]⟩
/-! ===== core numbers of a page ===== -/
abbrev cor (i : Nat) : Prop := i < 55 ∨ i = 56 ∨ i = 57
def eqc (Q N : Pg) : Prop := ∀ i, cor i → Q i = N i
def nrm (Q : Pg) : Pg := fun i => if cor i then Q i else 0
theorem nrm_c {Q : Pg} {i : Nat} (h : cor i) : nrm Q i = Q i := if_pos h
theorem nrm_n {Q : Pg} {i : Nat} (h : ¬ cor i) : nrm Q i = 0 := if_neg h
theorem nrm_eq {Q N : Pg} (h : eqc Q N) : nrm Q = nrm N := by
  funext i; simp only [nrm]; split
  · rename_i hi; exact h i hi
  · rfl
theorem eqc_nrm {Q : Pg} : eqc (nrm Q) Q := fun _ h => nrm_c h
theorem eqc.symm {Q N : Pg} (h : eqc Q N) : eqc N Q := fun i hi => (h i hi).symm
theorem eqc.trans {Q N M : Pg} (h : eqc Q N) (h2 : eqc N M) : eqc Q M := fun i hi => (h i hi).trans (h2 i hi)
def hdc (σ : Nat → Int32) (r : Nat) (N : Pg) : Prop := ∀ i, cor i → σ (400 * r + i) = nI (N i)
def hdk (σ : Nat → Int32) (o : Nat) (N : Pg) : Prop := ∀ i, cor i → σ (aR o i) = nI (N i)
theorem hdc_full {σ : Nat → Int32} {r : Nat} {N : Pg} (h : hdc σ r N) : ∃ Q, hds σ r Q ∧ eqc Q N := by
  refine ⟨fun i => if cor i then N i else (nI_all (σ (400 * r + i))).choose, fun i _ => ?_, fun i hi => if_pos hi⟩
  by_cases hc : cor i
  · simp only [if_pos hc]; exact h i hc
  · simp only [if_neg hc]; exact (nI_all (σ (400 * r + i))).choose_spec
theorem hdk_full {σ : Nat → Int32} {o : Nat} {N : Pg} (h : hdk σ o N) : ∃ Q, hdr σ o Q ∧ eqc Q N := by
  refine ⟨fun i => if cor i then N i else (nI_all (σ (aR o i))).choose, fun i _ => ?_, fun i hi => if_pos hi⟩
  by_cases hc : cor i
  · simp only [if_pos hc]; exact h i hc
  · simp only [if_neg hc]; exact (nI_all (σ (aR o i))).choose_spec
theorem hds.c {σ : Nat → Int32} {r : Nat} {Q : Pg} (h : hds σ r Q) : hdc σ r Q := fun i hi => h i (by omega)
theorem hdr.k {σ : Nat → Int32} {o : Nat} {Q : Pg} (h : hdr σ o Q) : hdk σ o Q := fun i hi => h i (by omega)
theorem hdc.eqc {σ : Nat → Int32} {r : Nat} {Q N : Pg} (h : hdc σ r Q) (e : eqc Q N) : hdc σ r N := fun i hi => (h i hi).trans (by rw [e i hi])
theorem hdk.eqc {σ : Nat → Int32} {o : Nat} {Q N : Pg} (h : hdk σ o Q) (e : eqc Q N) : hdk σ o N := fun i hi => (h i hi).trans (by rw [e i hi])
theorem okQ.eqc {Q N : Pg} (h : okQ N) (e : eqc Q N) : okQ Q := okQ_iff.mpr fun i hi => by rw [e i (by omega)]; exact okQ_iff.mp h i hi
theorem okZ.eqc {Q N : Pg} (h : okZ N) (e : eqc Q N) : okZ Q := fun p c hp hc hx => by
  rw [e _ (by omega)]
  exact h p c hp hc (by rw [e 57 (by omega), e 56 (by omega)] at hx; exact hx)
theorem heldQ_c {Q N : Pg} {p : Nat} (e : eqc Q N) (hn : N 56 ≤ 5) (hp : p < 4) : heldQ Q p = heldQ N p := by
  simp only [heldQ]; rw [e 56 (by omega)]; exact sumN_cg fun i hi => e _ (by omega)
theorem heldA_c {Q N : Pg} (e : eqc Q N) (hn : N 56 ≤ 5) (hm : N 57 ≤ 4) : heldA Q = heldA N := by
  simp only [heldA]; rw [e 57 (by omega)]; exact sumN_cg fun i hi => heldQ_c e hn (by omega)
theorem vatsQ_c {Q N : Pg} (e : eqc Q N) (hn : N 56 ≤ 5) : vatsQ Q = vatsQ N := by
  simp only [vatsQ]; rw [e 56 (by omega)]; exact sumN_cg fun i hi => e _ (by omega)
theorem heldC_c {Q N : Pg} {c : Nat} (e : eqc Q N) (hm : N 57 ≤ 4) (hc : c < 5) : heldC Q c = heldC N c := by
  simp only [heldC]; rw [e 57 (by omega)]; exact sumN_cg fun i hi => e _ (by omega)
theorem hueD_c {Q N : Pg} {d f : Nat → Nat} (e : eqc Q N) (hn : N 56 ≤ 5) (hd : ∀ i, i < N 56 → d i = f i) : hueD Q d = hueD N f := by
  simp only [hueD]; rw [e 56 (by omega), sumN_cg hd]
  have h : ∀ l, l < 3 → sumN (fun c => d c * Q (5 + 5 * l + c)) (N 56) = sumN (fun c => f c * N (5 + 5 * l + c)) (N 56) := fun l hl => sumN_cg fun i hi => by rw [hd i hi, e _ (by omega)]
  rw [h 0 (by omega), h 1 (by omega), h 2 (by omega)]
theorem hueQ_c {Q N : Pg} {p : Nat} (e : eqc Q N) (hn : N 56 ≤ 5) (hp : p < 4) : hueQ Q p = hueQ N p := hueD_c e hn fun i hi => e _ (by omega)
theorem un_c {Q N : Pg} {i v : Nat} (e : eqc Q N) : eqc (un Q i v) (un N i v) := fun j hj => by
  simp only [un]; split
  · rfl
  · exact e j hj
theorem un_c' {Q N : Pg} {i v w : Nat} (e : eqc Q N) (h : v = w) : eqc (un Q i v) (un N i w) := h ▸ un_c e
theorem un_x {Q N : Pg} {i v : Nat} (e : eqc Q N) (hi : ¬ cor i) : eqc (un Q i v) N := fun j hj => by
  rw [un_n (fun q : j = i => hi (by rw [← q]; exact hj))]; exact e j hj
theorem un_xx {Q N : Pg} {i v w : Nat} (e : eqc Q N) (hi : ¬ cor i) : eqc (un Q i v) (un N i w) := (un_x e hi).trans (eqc.symm (un_x (fun _ _ => rfl) hi))
theorem colGo_c {Q N : Pg} {p c t : Nat} (e : eqc Q N) (hp : p < 4) (hc : c < 5) : eqc (colGo Q p c t) (colGo N p c t) := by
  simp only [colGo]
  rw [e (33 + 5 * p + c) (by omega), e c (by omega), e (25 + p) (by omega), e (20 + c) (by omega), e 54 (by omega)]
  split
  · exact e
  split
  · exact un_c (un_xx (un_c e) (by omega))
  · exact un_xx (un_c (un_c (un_c e))) (by omega)
theorem cols_c {Q N : Pg} {p t : Nat} (e : eqc Q N) (hp : p < 4) : ∀ n, n ≤ 5 → eqc (cols Q p t n) (cols N p t n)
  | 0, _ => e
  | n + 1, hn => colGo_c (cols_c e hp n (by omega)) hp (by omega)
theorem dayO_c {Q N : Pg} {p t : Nat} (e : eqc Q N) (hp : p < 4) (hn : N 56 ≤ 5) : eqc (dayO Q p t) (dayO N p t) := by
  simp only [dayO]; rw [e 56 (by omega), e (25 + p) (by omega), e (29 + p) (by omega)]
  exact cols_c (un_c e) hp _ hn
theorem ones_c {Q N : Pg} {t : Nat} (e : eqc Q N) (ok : okQ N) : ∀ n, n ≤ 4 → eqc (ones Q t n) (ones N t n)
  | 0, _ => e
  | n + 1, hn => dayO_c (ones_c e ok n (by omega)) (by omega) (okQ_ones ok n (by omega)).nc
theorem dayA_c {Q N : Pg} {t : Nat} (e : eqc Q N) (ok : okQ N) : eqc (dayA Q t) (dayA N t) := by
  have h := ones_c (t := t) e ok (N 57) ok.np
  simp only [dayA]; rw [e 57 (by omega), h 53 (by omega)]
  exact un_c h
theorem daysA_c {Q N : Pg} (e : eqc Q N) (ok : okQ N) : ∀ n, eqc (daysA Q n) (daysA N n)
  | 0 => e
  | n + 1 => dayA_c (daysA_c e ok n) (okQ_daysA ok n)
theorem lendV_c {Q N : Pg} {p c n : Int32} (e : eqc Q N) (ok : okQ N) : lendV Q p c n = lendV N p c n := by
  have h1 := ok.nc
  have h2 := ok.np
  have el : lendOk Q p c n ↔ lendOk N p c n := by simp only [lendOk, e 57 (by omega : cor 57), e 56 (by omega : cor 56)]
  simp only [lendV]
  by_cases h : lendOk N p c n
  · rw [if_pos h, if_pos (el.mpr h)]
    obtain ⟨p', hp, rfl⟩ := inR_of h.1 (by omega)
    obtain ⟨c', hc, rfl⟩ := inR_of h.2.1 (by omega)
    have ep : nN (nI p') = p' := nI_nat (by omega)
    have ec : nN (nI c') = c' := nI_nat (by omega)
    simp only [lendNo, ep, ec]
    rw [e (20 + c') (by omega), e (33 + 5 * p' + c') (by omega)]
  · rw [if_neg h, if_neg (fun q => h (el.mp q))]
theorem lendQ_c {Q N : Pg} {p c n : Int32} (e : eqc Q N) (ok : okQ N) : eqc (lendQ Q p c n) (lendQ N p c n) := by
  have h1 := ok.nc
  have h2 := ok.np
  have el : lendOk Q p c n ↔ lendOk N p c n := by simp only [lendOk, e 57 (by omega : cor 57), e 56 (by omega : cor 56)]
  simp only [lendQ]
  by_cases h : lendOk N p c n
  · obtain ⟨p', hp, rfl⟩ := inR_of h.1 (by omega)
    obtain ⟨c', hc, rfl⟩ := inR_of h.2.1 (by omega)
    have ep : nN (nI p') = p' := nI_nat (by omega)
    have ec : nN (nI c') = c' := nI_nat (by omega)
    have en : lendNo Q (nI p') (nI c') n ↔ lendNo N (nI p') (nI c') n := by
      simp only [lendNo, ep, ec]; rw [e (20 + c') (by omega), e (33 + 5 * p' + c') (by omega)]
    by_cases h3 : lendNo N (nI p') (nI c') n
    · rw [if_neg (fun q => q.2 (en.mpr h3)), if_neg (fun q => q.2 h3)]; exact e
    · rw [if_pos ⟨el.mpr h, fun q => h3 (en.mp q)⟩, if_pos ⟨h, h3⟩, ep, ec, e (20 + c') (by omega), e (33 + 5 * p' + c') (by omega)]
      exact un_c (un_c e)
  · rw [if_neg (fun q => h (el.mp q.1)), if_neg (fun q => h q.1)]; exact e

