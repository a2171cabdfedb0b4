/-! ===== takeFrom, giveLoan ===== -/
theorem ghost_free {r a : Nat} (hk : zBk r) (h : 400 * r + 58 ≤ a ∧ a < 400 * r + 62) : ∀ s ∈ zSh, ¬ zIn s a := by
  have h2 : (zBks.all fun r => (zSh.all fun s => (decide (s.2.1 ≤ 400 * r + 58 ∧ 400 * r + 58 < s.2.1 + s.2.2.1) == false) && (decide (s.2.1 ≤ 400 * r + 59 ∧ 400 * r + 59 < s.2.1 + s.2.2.1) == false) && (decide (s.2.1 ≤ 400 * r + 60 ∧ 400 * r + 60 < s.2.1 + s.2.2.1) == false) && (decide (s.2.1 ≤ 400 * r + 61 ∧ 400 * r + 61 < s.2.1 + s.2.2.1) == false))) = true := by decide +kernel
  have h3 := List.all_eq_true.mp h2 r hk
  intro s hs hin
  have h4 := List.all_eq_true.mp h3 s hs
  simp only [Bool.and_eq_true, beq_iff_eq, decide_eq_false_iff_not] at h4
  simp only [zIn] at hin
  rcases (show a = 400 * r + 58 ∨ a = 400 * r + 59 ∨ a = 400 * r + 60 ∨ a = 400 * r + 61 by omega) with e | e | e | e <;> subst e
  · exact h4.1.1.1 hin
  · exact h4.1.1.2 hin
  · exact h4.1.2 hin
  · exact h4.2 hin
theorem zE_cg {G : zG} {σ σ' : Nat → Int32} {s : zS} (hg : zGood s = true) (h : ∀ a, zIn s a → σ a = σ' a) : zEq (zE G σ s) (zE G σ' s) := by
  obtain ⟨c, lo, m, sl⟩ := s
  simp only [zGood, Bool.and_eq_true, Bool.or_eq_true, decide_eq_true_eq] at hg
  match c with
  | 0 => exact Or.inr ⟨_, _, _, _, rfl, rfl, fun j hj => h _ (by have : j < m := hj; simp only [zIn]; omega)⟩
  | 1 =>
    have hn : m = 15 := by
      rcases hg.2 with q | q
      · exact absurd rfl q
      · exact q
    exact Or.inr ⟨_, _, _, _, rfl, rfl, fun j hj => h _ (by have : j < m := hj; simp only [zIn]; omega)⟩
  | 2 => exact Or.inr ⟨_, _, _, _, rfl, rfl, fun j hj => h _ (by have : j < m := hj; simp only [zIn]; omega)⟩
  | 3 => exact Or.inl rfl
  | 4 => exact Or.inl rfl
  | c + 5 =>
    refine Or.inl ?_
    show Sum.inr (c, sl.map _) = Sum.inr (c, sl.map _)
    congr 2
    refine List.map_congr_left fun q hq => ?_
    have h9 := List.all_eq_true.mp hg.1 q hq
    simp only [Bool.or_eq_true, Bool.and_eq_true, decide_eq_true_eq] at h9
    cases hq1 : q.1 with
    | true => simp
    | false =>
      rw [hq1] at h9
      have : zIn (c + 5, lo, m, sl) q.2 := by simp at h9; simp only [zIn]; omega
      simp [h _ this]
/-- only the numbers that cells hold count -/
theorem y_cg {G : zG} {X : zX} {μ : zM} {σ σ' : Nat → Int32} {pc : Nat} {L : List (Option Value)} {S : List Value} (h : ∀ s ∈ zSh, ∀ a, zIn s a → σ a = σ' a) (k : Y G X μ σ' pc L S) : Y G X μ σ pc L S := by
  refine Z.weq (fun kk q hq => ?_) k
  have hk' : ∃ t, zSh[kk]? = some t := by
    cases h : zSh[kk]? with
    | some t => exact ⟨t, rfl⟩
    | none => rw [zW_def, List.getElem?_mapIdx, h] at hq; cases hq
  obtain ⟨t, ht⟩ := hk'
  rw [zW_at ht] at hq
  cases hq
  exact ⟨_, zW_at ht, zE_cg (List.all_eq_true.mp zSh_good t (List.mem_of_getElem? ht)) (h t (List.mem_of_getElem? ht))⟩
theorem cp_out {σ : Nat → Int32} {f t n a : Nat} (h : a < t ∨ t + n ≤ a) : cp σ f t n a = σ a := by
  simp only [cp]; rw [if_neg (by omega)]
theorem cp_in {σ : Nat → Int32} {f t n a : Nat} (h : t ≤ a ∧ a < t + n) : cp σ f t n a = σ (f + (a - t)) := by
  simp only [cp]; rw [if_pos h]
set_option maxRecDepth 100000 in
set_option maxHeartbeats 4000000 in
theorem c_takeFrom {l : Launch} {G : zG} {σ : Nat → Int32} {r q : Nat} {Q : Pg} (hk : zBk r) (hk2 : zBk q) (hne : q ≠ r) (hQ : hds σ q Q) : zMet l yX0_takeFrom mX0_takeFrom [.ref (zGa G r), .ref (zGa G q)] G (zW G σ) (zFn G none (sp σ r (un Q 55 0))) := by
  refine zMet.of (by decide) rfl (Nat.le_of_ble_eq_true rfl) (Or.inr rfl) fun X hX hq => ?_
  subst hX
  show Y G X mX0_takeFrom σ 0 [some (.ref (zGa G r)), some (.ref (zGa G q))] []
  refine z_aload_n 1 dX0_takeFrom_0 rfl rfl ?_
  refine z_aload_n 2 dX0_takeFrom_1 rfl rfl ?_
  refine y_get 5 _ (bk0 hk2) rfl fl_X0_30 dX0_takeFrom_2 rfl ?_
  refine y_putI 8 _ (bk0 hk) rfl fp_X0_30 dX0_takeFrom_5 rfl ?_
  refine z_aload_n 9 dX0_takeFrom_8 rfl rfl ?_
  refine z_aload_n 10 dX0_takeFrom_9 rfl rfl ?_
  refine y_get 13 _ (bk0 hk2) rfl fl_X0_34 dX0_takeFrom_10 rfl ?_
  refine y_putI 16 _ (bk0 hk) rfl fp_X0_34 dX0_takeFrom_13 rfl ?_
  refine z_aload_n 17 dX0_takeFrom_16 rfl rfl ?_
  refine z_aload_n 18 dX0_takeFrom_17 rfl rfl ?_
  refine y_get 21 _ (bk0 hk2) rfl fl_X0_37 dX0_takeFrom_18 rfl ?_
  refine y_putI 24 _ (bk0 hk) rfl fp_X0_37 dX0_takeFrom_21 rfl ?_
  refine z_aload_n 25 dX0_takeFrom_24 rfl rfl ?_
  refine z_aload_n 26 dX0_takeFrom_25 rfl rfl ?_
  refine y_get 29 _ (bk0 hk2) rfl fl_X0_40 dX0_takeFrom_26 rfl ?_
  refine y_putI 32 _ (bk0 hk) rfl fp_X0_40 dX0_takeFrom_29 rfl ?_
  refine z_aload_n 33 dX0_takeFrom_32 rfl rfl ?_
  refine z_iconst 34 dX0_takeFrom_33 vi0 rfl ?_
  refine y_putI 37 _ (bk0 hk) rfl fp_X0_43 dX0_takeFrom_34 rfl ?_
  refine z_aload_n 38 dX0_takeFrom_37 rfl rfl ?_
  refine y_getr 41 _ (bk0 hk2) rfl fl_X0_9 dX0_takeFrom_38 rfl ?_
  refine z_iconst 42 dX0_takeFrom_41 vi0 rfl ?_
  refine z_aload_n 43 dX0_takeFrom_42 rfl rfl ?_
  refine y_getr 46 _ (bk0 hk) rfl fl_X0_9 dX0_takeFrom_43 rfl ?_
  refine z_iconst 47 dX0_takeFrom_46 vi0 rfl ?_
  refine z_iconst 48 dX0_takeFrom_47 vi5 rfl ?_
  refine y_copy 51 kl_X0_46 (bk1 hk2) (bk1 hk) (by decide) rfl (by decide) dX0_takeFrom_48 rfl ?_
  refine z_aload_n 52 dX0_takeFrom_51 rfl rfl ?_
  refine y_getr 55 _ (bk0 hk2) rfl fl_X0_15 dX0_takeFrom_52 rfl ?_
  refine z_iconst 56 dX0_takeFrom_55 vi0 rfl ?_
  refine z_aload_n 57 dX0_takeFrom_56 rfl rfl ?_
  refine y_getr 60 _ (bk0 hk) rfl fl_X0_15 dX0_takeFrom_57 rfl ?_
  refine z_iconst 61 dX0_takeFrom_60 vi0 rfl ?_
  refine z_bipush 63 dX0_takeFrom_61 vb15 rfl ?_
  refine y_copyL 66 kl_X0_46 (bk2 hk2) (bk2 hk) (by decide) rfl (by decide) dX0_takeFrom_63 rfl ?_
  refine z_aload_n 67 dX0_takeFrom_66 rfl rfl ?_
  refine y_getr 70 _ (bk0 hk2) rfl fl_X0_18 dX0_takeFrom_67 rfl ?_
  refine z_iconst 71 dX0_takeFrom_70 vi0 rfl ?_
  refine z_aload_n 72 dX0_takeFrom_71 rfl rfl ?_
  refine y_getr 75 _ (bk0 hk) rfl fl_X0_18 dX0_takeFrom_72 rfl ?_
  refine z_iconst 76 dX0_takeFrom_75 vi0 rfl ?_
  refine z_iconst 77 dX0_takeFrom_76 vi5 rfl ?_
  refine y_copy 80 kl_X0_46 (bk3 hk2) (bk3 hk) (by decide) rfl (by decide) dX0_takeFrom_77 rfl ?_
  refine z_aload_n 81 dX0_takeFrom_80 rfl rfl ?_
  refine y_getr 84 _ (bk0 hk2) rfl fl_X0_21 dX0_takeFrom_81 rfl ?_
  refine z_iconst 85 dX0_takeFrom_84 vi0 rfl ?_
  refine z_aload_n 86 dX0_takeFrom_85 rfl rfl ?_
  refine y_getr 89 _ (bk0 hk) rfl fl_X0_21 dX0_takeFrom_86 rfl ?_
  refine z_iconst 90 dX0_takeFrom_89 vi0 rfl ?_
  refine z_iconst 91 dX0_takeFrom_90 vi4 rfl ?_
  refine y_copy 94 kl_X0_46 (bk4 hk2) (bk4 hk) (by decide) rfl (by decide) dX0_takeFrom_91 rfl ?_
  refine z_aload_n 95 dX0_takeFrom_94 rfl rfl ?_
  refine y_getr 98 _ (bk0 hk2) rfl fl_X0_24 dX0_takeFrom_95 rfl ?_
  refine z_iconst 99 dX0_takeFrom_98 vi0 rfl ?_
  refine z_aload_n 100 dX0_takeFrom_99 rfl rfl ?_
  refine y_getr 103 _ (bk0 hk) rfl fl_X0_24 dX0_takeFrom_100 rfl ?_
  refine z_iconst 104 dX0_takeFrom_103 vi0 rfl ?_
  refine z_iconst 105 dX0_takeFrom_104 vi4 rfl ?_
  refine y_copy 108 kl_X0_46 (bk5 hk2) (bk5 hk) (by decide) rfl (by decide) dX0_takeFrom_105 rfl ?_
  refine z_aload_n 109 dX0_takeFrom_108 rfl rfl ?_
  refine y_getr 112 _ (bk0 hk2) rfl fl_X0_27 dX0_takeFrom_109 rfl ?_
  refine z_iconst 113 dX0_takeFrom_112 vi0 rfl ?_
  refine z_aload_n 114 dX0_takeFrom_113 rfl rfl ?_
  refine y_getr 117 _ (bk0 hk) rfl fl_X0_27 dX0_takeFrom_114 rfl ?_
  refine z_iconst 118 dX0_takeFrom_117 vi0 rfl ?_
  refine z_bipush 120 dX0_takeFrom_118 vb20 rfl ?_
  refine y_copy 123 kl_X0_46 (bk6 hk2) (bk6 hk) (by decide) rfl (by decide) dX0_takeFrom_120 rfl ?_
  skip
  refine y_cg (σ' := sp σ r (un Q 55 0)) (fun s hs a hin => ?_) ?_
  · have hg : ¬ (400 * r + 58 ≤ a ∧ a < 400 * r + 62) := fun h => ghost_free hk h s hs hin
    by_cases h1 : 400 * r ≤ a ∧ a < 400 * r + 58
    · obtain ⟨i, rfl⟩ : ∃ i, a = 400 * r + i := ⟨a - 400 * r, by omega⟩
      have hi : i < 58 := by omega
      clear h1 hg hin
      rw [sp_at rfl (by omega)]
      have hq := hQ i (by omega)
      rcases (show i < 5 ∨ (5 ≤ i ∧ i < 20) ∨ (20 ≤ i ∧ i < 25) ∨ (25 ≤ i ∧ i < 29) ∨ (29 ≤ i ∧ i < 33) ∨ (33 ≤ i ∧ i < 53) ∨ i = 53 ∨ i = 54 ∨ i = 55 ∨ i = 56 ∨ i = 57 by omega) with c | c | c | c | c | c | c | c | c | c | c
      · simp (disch := omega) only [cp_out, cp_in, pk_un, un_n]
        rw [← hq]; congr 1; omega
      · simp (disch := omega) only [cp_out, cp_in, pk_un, un_n]
        rw [← hq]; congr 1; omega
      · simp (disch := omega) only [cp_out, cp_in, pk_un, un_n]
        rw [← hq]; congr 1; omega
      · simp (disch := omega) only [cp_out, cp_in, pk_un, un_n]
        rw [← hq]; congr 1; omega
      · simp (disch := omega) only [cp_out, cp_in, pk_un, un_n]
        rw [← hq]; congr 1; omega
      · simp (disch := omega) only [cp_out, cp_in, pk_un, un_n]
        rw [← hq]; congr 1; omega
      all_goals subst c
      all_goals simp (disch := omega) only [cp_out, pk_un, pk_us, un_n, un_s]
      · exact hq
      · exact hq
      · rfl
      · exact hq
      · exact hq
    · rw [sp_off (by omega)]
      simp (disch := omega) only [cp_out, pk_un]
  refine z_vret hq rfl dX0_takeFrom_123 rfl rfl ?_
  exact ⟨rfl, rfl⟩
theorem nI_nat {j : Nat} (h : j < 2 ^ 31) : (nI j).toInt.toNat = j := by rw [nI_toInt h]; omega
abbrev nN (x : Int32) : Nat := x.toInt.toNat
theorem le_nI1 {n : Int32} (h : (1 : Int32) ≤ n ∧ n ≤ 99) : ∃ j, 1 ≤ j ∧ j ≤ 99 ∧ n = nI j := by
  obtain ⟨h1, h2⟩ := h
  rw [Int32.le_iff_toInt_le] at h1 h2
  have e1 : (1 : Int32).toInt = 1 := by decide
  have e2 : (99 : Int32).toInt = 99 := by decide
  obtain ⟨j, hj, e⟩ := inR_of (x := n) (n := 100) ⟨by omega, by omega⟩ (by decide)
  refine ⟨j, ?_, by omega, e⟩
  rw [e, nI_toInt (by omega)] at h1
  omega
abbrev lendOk (Q : Pg) (p c n : Int32) : Prop := inR p (Q 57) ∧ inR c (Q 56) ∧ ((1 : Int32) ≤ n ∧ n ≤ 99)
abbrev lendNo (Q : Pg) (p c n : Int32) : Prop := Q (20 + nN c) < nN n ∨ 99 < Q (33 + 5 * nN p + nN c) + nN n
def lendV (Q : Pg) (p c n : Int32) : Int32 := if lendOk Q p c n then (if lendNo Q p c n then -2 else nI (Q (33 + 5 * nN p + nN c) + nN n)) else -1
def lendQ (Q : Pg) (p c n : Int32) : Pg := if lendOk Q p c n ∧ ¬ lendNo Q p c n then un (un Q (20 + nN c) (Q (20 + nN c) - nN n)) (33 + 5 * nN p + nN c) (Q (33 + 5 * nN p + nN c) + nN n) else Q
set_option maxRecDepth 100000 in
theorem c_giveLoan {l : Launch} {G : zG} {σ : Nat → Int32} {r : Nat} {Q : Pg} {p c n : Int32} (hk : zBk r) (hQ : hds σ r Q) (ok : okQ Q) : zMet l yX0_giveLoan mX0_giveLoan [.ref (zGa G r), .int p, .int c, .int n] G (zW G σ) (zFn G (some (.int (lendV Q p c n))) (sp σ r (lendQ Q p c n))) := by
  have b1 := ok.nc
  have b2 := ok.np
  conv => arg 6; rw [← sp_self hQ]
  refine zMet.of (by decide) rfl (Nat.le_of_ble_eq_true rfl) (Or.inr rfl) fun X hX hq => ?_
  subst hX
  show Y G X mX0_giveLoan (sp σ r Q) 0 [some (.ref (zGa G r)), some (.int p), some (.int c), some (.int n), none] []
  refine z_aload_n 1 dX0_giveLoan_0 rfl rfl ?_
  refine z_iload_n 2 dX0_giveLoan_1 rfl rfl ?_
  refine y_cVs 5 _ (c_hasOne hk hds_sp b2) (bk0 hk) cv_X0_71 ⟨by decide, by decide, rfl, rfl⟩ (Nat.le_of_ble_eq_true rfl) dX0_giveLoan_2 rfl rfl ?_
  refine z_if_eq 26 8 dX0_giveLoan_5 rfl rfl (fun h5 => ?_) (fun h5 => ?_)
  · skip
    have hno : ¬ lendOk Q p c n := fun h => bi0.mp h5 h.1
    refine z_iconst 27 dX0_giveLoan_26 vim1 rfl ?_
    refine z_iret hq rfl dX0_giveLoan_27 rfl rfl ?_
    exact ⟨by rw [lendV, if_neg hno], by rw [lendQ, if_neg (fun h => hno h.1)]⟩
  · skip
    refine z_aload_n 9 dX0_giveLoan_8 rfl rfl ?_
    refine z_iload_n 10 dX0_giveLoan_9 rfl rfl ?_
    refine y_cVs 13 _ (c_hasColour hk hds_sp b1) (bk0 hk) cv_X0_75 ⟨by decide, by decide, rfl, rfl⟩ (Nat.le_of_ble_eq_true rfl) dX0_giveLoan_10 rfl rfl ?_
    refine z_if_eq 26 16 dX0_giveLoan_13 rfl rfl (fun h13 => ?_) (fun h13 => ?_)
    · skip
      have hno : ¬ lendOk Q p c n := fun h => bi0.mp h13 h.2.1
      refine z_iconst 27 dX0_giveLoan_26 vim1 rfl ?_
      refine z_iret hq rfl dX0_giveLoan_27 rfl rfl ?_
      exact ⟨by rw [lendV, if_neg hno], by rw [lendQ, if_neg (fun h => hno h.1)]⟩
    · skip
      refine z_iload_n 17 dX0_giveLoan_16 rfl rfl ?_
      refine z_iconst 18 dX0_giveLoan_17 vi1 rfl ?_
      refine z_bipush 20 dX0_giveLoan_18 vb99 rfl ?_
      refine y_cNs 23 (c_within) cn_X0_52 ⟨by decide, by decide, rfl, rfl⟩ (Nat.le_of_ble_eq_true rfl) dX0_giveLoan_20 rfl rfl ?_
      refine z_if_ne 28 26 dX0_giveLoan_23 rfl rfl (fun h23 => ?_) (fun h23 => ?_)
      · skip
        have hyes : lendOk Q p c n := ⟨bin0.mp h5, bin0.mp h13, bin0.mp h23⟩
        obtain ⟨p', hp, e⟩ := inR_of hyes.1 (by omega)
        subst e
        obtain ⟨c', hc, e⟩ := inR_of hyes.2.1 (by omega)
        subst e
        obtain ⟨n', hn1, hn2, e⟩ := le_nI1 hyes.2.2
        subst e
        have ep : nN (nI p') = p' := nI_nat (by omega)
        have ec : nN (nI c') = c' := nI_nat (by omega)
        have en : nN (nI n') = n' := nI_nat (by omega)
        have p4 : p' < 4 := by omega
        have c5 : c' < 5 := by omega
        have e0 : 33 + (p' * 5 + c') = 33 + 5 * p' + c' := by omega
        have b3 := ok.vt c5
        have b4 := ok.he p4 c5
        have g1 : ∀ v, un Q (20 + c') v (33 + 5 * p' + c') = Q (33 + 5 * p' + c') := fun v => un_n (by omega)
        refine z_iload_n 29 dX0_giveLoan_28 rfl rfl ?_
        refine z_iconst 30 dX0_giveLoan_29 vi5 rfl ?_
        refine z_imulN 31 rfl (show (5 : Int32) = nI 5 from rfl) dX0_giveLoan_30 rfl ?_
        refine z_iload_n 32 dX0_giveLoan_31 rfl rfl ?_
        refine z_iaddN 33 rfl rfl dX0_giveLoan_32 rfl ?_
        refine z_istore 35 [_, _, _, _, _] dX0_giveLoan_33 (by decide) rfl rfl rfl ?_
        refine z_aload_n 36 dX0_giveLoan_35 rfl rfl ?_
        refine y_getr 39 _ (bk0 hk) rfl fl_X0_18 dX0_giveLoan_36 rfl ?_
        refine z_iload_n 40 dX0_giveLoan_39 rfl rfl ?_
        refine p_ld 41 _ (bk3 hk) rfl (by omega) (by decide) dX0_giveLoan_40 rfl ?_
        refine z_iload_n 42 dX0_giveLoan_41 rfl rfl ?_
        refine z_icmp_lt 59 45 dX0_giveLoan_42 rfl rfl (fun h42 => ?_) (fun h42 => ?_)
        · skip
          have hno : lendNo Q (nI p') (nI c') (nI n') := Or.inl (by rw [ec, en]; exact (nI_ltI (by omega) (by omega)).mp h42)
          refine z_bipush 61 dX0_giveLoan_59 vbm2 rfl ?_
          refine z_iret hq rfl dX0_giveLoan_61 rfl rfl ?_
          exact ⟨by rw [lendV, if_pos hyes, if_pos hno], by rw [lendQ, if_neg (fun h => h.2 hno)]⟩
        · skip
          refine z_aload_n 46 dX0_giveLoan_45 rfl rfl ?_
          refine y_getr 49 _ (bk0 hk) rfl fl_X0_27 dX0_giveLoan_46 rfl ?_
          refine z_iload 51 dX0_giveLoan_49 rfl rfl ?_
          refine p_ld 52 _ (bk6 hk) rfl (by omega) (by decide) dX0_giveLoan_51 rfl ?_
          rw [e0]
          refine z_iload_n 53 dX0_giveLoan_52 rfl rfl ?_
          refine z_iaddN 54 rfl rfl dX0_giveLoan_53 rfl ?_
          refine z_bipush 56 dX0_giveLoan_54 vb99 rfl ?_
          refine z_icmp_le 62 59 dX0_giveLoan_56 rfl rfl (fun h56 => ?_) (fun h56 => ?_)
          · skip
            have h1 : n' ≤ Q (20 + c') := by
                rcases Nat.lt_or_ge (Q (20 + c')) n' with q | q
                · exact absurd (nI_lt q (by omega)) h42
                · exact q
            have h2 : Q (33 + 5 * p' + c') + n' ≤ 99 := (nI_leI (b := 99) (by omega) (by decide)).mp h56
            have hno : ¬ lendNo Q (nI p') (nI c') (nI n') := by rw [lendNo, ec, en, ep]; omega
            refine z_aload_n 63 dX0_giveLoan_62 rfl rfl ?_
            refine y_getr 66 _ (bk0 hk) rfl fl_X0_18 dX0_giveLoan_63 rfl ?_
            refine z_iload_n 67 dX0_giveLoan_66 rfl rfl ?_
            refine z_dup2 68 dX0_giveLoan_67 rfl rfl rfl ?_
            refine p_ld 69 _ (bk3 hk) rfl (by omega) (by decide) dX0_giveLoan_68 rfl ?_
            refine z_iload_n 70 dX0_giveLoan_69 rfl rfl ?_
            refine z_isubN 71 rfl rfl h1 dX0_giveLoan_70 rfl ?_
            refine p_st 72 _ (bk3 hk) rfl (by omega) rfl (by decide) dX0_giveLoan_71 rfl ?_
            refine z_aload_n 73 dX0_giveLoan_72 rfl rfl ?_
            refine y_getr 76 _ (bk0 hk) rfl fl_X0_27 dX0_giveLoan_73 rfl ?_
            refine z_iload 78 dX0_giveLoan_76 rfl rfl ?_
            refine z_dup2 79 dX0_giveLoan_78 rfl rfl rfl ?_
            refine p_ld 80 _ (bk6 hk) rfl (by omega) (by decide) dX0_giveLoan_79 rfl ?_
            rw [e0, g1]
            refine z_iload_n 81 dX0_giveLoan_80 rfl rfl ?_
            refine z_iaddN 82 rfl rfl dX0_giveLoan_81 rfl ?_
            refine p_st 83 _ (bk6 hk) rfl (by omega) rfl (by decide) dX0_giveLoan_82 rfl ?_
            rw [e0]
            refine z_aload_n 84 dX0_giveLoan_83 rfl rfl ?_
            refine y_getr 87 _ (bk0 hk) rfl fl_X0_27 dX0_giveLoan_84 rfl ?_
            refine z_iload 89 dX0_giveLoan_87 rfl rfl ?_
            refine p_ld 90 _ (bk6 hk) rfl (by omega) (by decide) dX0_giveLoan_89 rfl ?_
            rw [e0, un_s]
            refine z_iret hq rfl dX0_giveLoan_90 rfl rfl ?_
            exact ⟨by rw [lendV, if_pos hyes, if_neg hno, ep, ec, en], by rw [lendQ, if_pos ⟨hyes, hno⟩, ep, ec, en]⟩
          · skip
            have hno : lendNo Q (nI p') (nI c') (nI n') := Or.inr (by rw [ec, en, ep]; rcases Nat.lt_or_ge 99 (Q (33 + 5 * p' + c') + n') with q | q; exact q; exact absurd (nI_le q (by decide)) h56)
            refine z_bipush 61 dX0_giveLoan_59 vbm2 rfl ?_
            refine z_iret hq rfl dX0_giveLoan_61 rfl rfl ?_
            exact ⟨by rw [lendV, if_pos hyes, if_pos hno], by rw [lendQ, if_neg (fun h => h.2 hno)]⟩
      · skip
        have hno : ¬ lendOk Q p c n := fun h => bi0.mp h23 h.2.2
        refine z_iconst 27 dX0_giveLoan_26 vim1 rfl ?_
        refine z_iret hq rfl dX0_giveLoan_27 rfl rfl ?_
        exact ⟨by rw [lendV, if_neg hno], by rw [lendQ, if_neg (fun h => hno h.1)]⟩

