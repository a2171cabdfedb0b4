/-! ===== swap ===== -/
def exch (R N : Pg) (p q : Nat) : Nat → Pg
  | 0 => R
  | c + 1 => un (un (exch R N p q c) (33 + 5 * p + c) (N (33 + 5 * q + c))) (33 + 5 * q + c) (N (33 + 5 * p + c))
theorem exch_off {R N : Pg} {p q i : Nat} : ∀ n, (∀ c, c < n → i ≠ 33 + 5 * p + c ∧ i ≠ 33 + 5 * q + c) → exch R N p q n i = R i
  | 0, _ => rfl
  | n + 1, h => by rw [exch, un_n (h n (by omega)).2, un_n (h n (by omega)).1]; exact exch_off n (fun c hc => h c (by omega))
theorem exch_c {R R' N : Pg} {p q : Nat} (e : eqc R R') : ∀ n, eqc (exch R N p q n) (exch R' N p q n)
  | 0 => e
  | n + 1 => un_c (un_c (exch_c e n))
theorem okQ_exch {R N : Pg} {p q : Nat} (ok : okQ N) (okr : okQ R) (hp : p < 4) (hq : q < 4) : ∀ n, n ≤ 5 → okQ (exch R N p q n)
  | 0, _ => okr
  | n + 1, hn => okQ_un (okQ_un (okQ_exch ok okr hp hq n (by omega)) (fun _ => by rw [bnd_h' hp (by omega)]; exact ok.he hq (by omega))) (fun _ => by rw [bnd_h' hq (by omega)]; exact ok.he hp (by omega))
theorem exch_self {R N : Pg} {p : Nat} (e : ∀ c, c < 5 → R (33 + 5 * p + c) = N (33 + 5 * p + c)) : ∀ n, n ≤ 5 → exch R N p p n = R
  | 0, _ => rfl
  | n + 1, hn => by rw [exch, exch_self e n (by omega), un_un, ← e n (by omega)]; exact un_self
theorem exch_z {R N : Pg} {p q : Nat} (oz : okZ N) (e : eqc R N) (hp : p < 4) (hq : q < 4) (hpq : p ≠ q) : ∀ d n, N 56 ≤ n → n + d = 5 → eqc (exch R N p q 5) (exch R N p q n)
  | 0, n, _, h => by rw [show n = 5 by omega]; exact fun _ _ => rfl
  | d + 1, n, hn, h => by
    refine (exch_z oz e hp hq hpq d (n + 1) (by omega) (by omega)).trans ?_
    have zp : N (33 + 5 * p + n) = 0 := oz p n hp (by omega) (Or.inr hn)
    have zq : N (33 + 5 * q + n) = 0 := oz q n hq (by omega) (Or.inr hn)
    have rp : exch R N p q n (33 + 5 * p + n) = 0 := by rw [exch_off n (fun c hc => by omega), e _ (by omega)]; exact zp
    have rq : exch R N p q n (33 + 5 * q + n) = 0 := by rw [exch_off n (fun c hc => by omega), e _ (by omega)]; exact zq
    have e1 : un (exch R N p q n) (33 + 5 * p + n) 0 = exch R N p q n := by rw [← rp]; exact un_self
    have e2 : un (exch R N p q n) (33 + 5 * q + n) 0 = exch R N p q n := by rw [← rq]; exact un_self
    rw [exch, zp, zq, e1, e2]
    exact fun _ _ => rfl
def exD (N : Pg) (p q : Nat) : Nat := daysA (exch (nrm N) N p q 5) 20 54 - N 54
theorem exch_54 {R N : Pg} {p q n i : Nat} (hp : p < 4) (hq : q < 4) (hn : n ≤ 5) (hi : 53 ≤ i) : exch R N p q n i = R i := exch_off n (fun c hc => by omega)
def swS (N : Pg) (p q : Nat) (s : Int32 × Int32) : Int32 × Int32 := if nI (exD N p q) < s.2 then (nI (10 * p + q), nI (exD N p q)) else s
def swI (N : Pg) (p : Nat) (s : Int32 × Int32) : Nat → Int32 × Int32
  | 0 => s
  | j + 1 => swS N p (p + 1 + j) (swI N p s j)
def swO (N : Pg) : Nat → Int32 × Int32
  | 0 => (-4, nI (exD N 0 0))
  | p + 1 => swI N p (swO N p) (N 57 - (p + 1))
def vSwap (N : Pg) (w : Int32) : Int32 := if inR w 2 then (if (swO N (N 57)).1 = -4 ∨ w = 0 then (swO N (N 57)).1 else (swO N (N 57)).2) else -1
set_option maxRecDepth 100000 in
set_option maxHeartbeats 2000000 in
theorem c_seizuresIfExchanged {l : Launch} {G : zG} {σ : Nat → Int32} {N : Pg} {p q : Nat} (hc : hdc σ 1 N) (ok : okQ N) (hp : p < 4) (hq4 : q < 4) : zMet l yX6_seizuresIfExchanged mX6_seizuresIfExchanged [.ref (zGa G 0), .int (nI p), .int (nI q)] G (zW G σ) (zFn G (some (.int (nI (exD N p q)))) (sp σ 8 (daysA (exch (nrm N) N p q 5) 20))) := by
  have okn := okQ_nrm ok
  have okx := okQ_exch ok okn hp hq4 5 (Nat.le_refl _)
  have hc8 : ∀ {R : Pg}, hdc (sp σ 8 R) 1 N := hdc_off hc (by decide)
  have m := (daysA_54 okx 20).1
  have e2 : exch (nrm N) N p q 5 54 = N 54 := (exch_54 hp hq4 (Nat.le_refl _) (by decide)).trans (nrm_c (by decide))
  rw [e2] at m
  refine zMet.of (by decide) rfl (Nat.le_of_ble_eq_true rfl) (Or.inr rfl) fun X hX hq => ?_
  subst hX
  show Y G X mX6_seizuresIfExchanged σ 0 [some (.ref (zGa G 0)), some (.int (nI p)), some (.int (nI q)), none] []
  refine z_aload_n 1 dX6_seizuresIfExchanged_0 rfl rfl ?_
  refine y_getr 4 _ sh0 rfl fl_X6_16 dX6_seizuresIfExchanged_1 rfl ?_
  refine z_aload_n 5 dX6_seizuresIfExchanged_4 rfl rfl ?_
  refine y_getr 8 _ sh0 rfl fl_X6_10 dX6_seizuresIfExchanged_5 rfl ?_
  refine y_cVv 11 _ (n_takeFrom bkm8 bkm1 (by decide) hc) (bk0 bkm8) cv_X6_96 ⟨by decide, by decide, rfl, rfl⟩ (Nat.le_of_ble_eq_true rfl) dX6_seizuresIfExchanged_8 rfl rfl ?_
  refine z_iconst 12 dX6_seizuresIfExchanged_11 vi0 rfl ?_
  refine z_istore_n 13 [_, _, _, _] dX6_seizuresIfExchanged_12 (by decide) rfl rfl rfl ?_
  refine zup (P := fun c => Y G X mX6_seizuresIfExchanged (sp σ 8 (exch (nrm N) N p q c)) 13 [some (.ref (zGa G 0)), some (.int (nI p)), some (.int (nI q)), some (.int (nI c))] []) 5 ?_ (fun c h5 ih => ?_) 0 (Nat.zero_le _)
  · skip
    refine z_iload_n 14 dX6_seizuresIfExchanged_13 rfl rfl ?_
    refine z_iconst 15 dX6_seizuresIfExchanged_14 vi5 rfl ?_
    refine z_icmp_ge_t 76 dX6_seizuresIfExchanged_15 rfl (Int32.le_refl _) ?_
    refine z_aload_n 77 dX6_seizuresIfExchanged_76 rfl rfl ?_
    refine y_getr 80 _ sh0 rfl fl_X6_16 dX6_seizuresIfExchanged_77 rfl ?_
    refine z_bipush 82 dX6_seizuresIfExchanged_80 vb20 rfl ?_
    refine y_cVv 85 _ (c_passDays (n := 20) bkm8 hds_sp okx (by decide)) (bk0 bkm8) cv_X6_187 ⟨by decide, by decide, rfl, rfl⟩ (Nat.le_of_ble_eq_true rfl) dX6_seizuresIfExchanged_82 rfl rfl ?_
    rw [sp_sp]
    refine z_aload_n 86 dX6_seizuresIfExchanged_85 rfl rfl ?_
    refine y_getr 89 _ sh0 rfl fl_X6_16 dX6_seizuresIfExchanged_86 rfl ?_
    refine p_get 92 bkm8 rfl fl_X6_112 dX6_seizuresIfExchanged_89 rfl ?_
    refine z_aload_n 93 dX6_seizuresIfExchanged_92 rfl rfl ?_
    refine y_getr 96 _ sh0 rfl fl_X6_10 dX6_seizuresIfExchanged_93 rfl ?_
    refine k_get 99 bkm1 hc8 rfl (by decide) fl_X6_112 dX6_seizuresIfExchanged_96 rfl ?_
    refine z_isubN 100 rfl rfl m dX6_seizuresIfExchanged_99 rfl ?_
    refine z_iret hq rfl dX6_seizuresIfExchanged_100 rfl rfl ?_
    exact ⟨rfl, rfl⟩
  · have ep : 33 + (p * 5 + c) = 33 + 5 * p + c := by omega
    have eq : 33 + (q * 5 + c) = 33 + 5 * q + c := by omega
    refine z_iload_n 14 dX6_seizuresIfExchanged_13 rfl rfl ?_
    refine z_iconst 15 dX6_seizuresIfExchanged_14 vi5 rfl ?_
    refine z_icmp_ge_f 18 76 dX6_seizuresIfExchanged_15 rfl (nI_ge (b := 5) h5 (by decide)) rfl ?_
    refine z_aload_n 19 dX6_seizuresIfExchanged_18 rfl rfl ?_
    refine y_getr 22 _ sh0 rfl fl_X6_16 dX6_seizuresIfExchanged_19 rfl ?_
    refine y_getr 25 _ (bk0 bkm8) rfl fl_X6_156 dX6_seizuresIfExchanged_22 rfl ?_
    refine z_iload_n 26 dX6_seizuresIfExchanged_25 rfl rfl ?_
    refine z_iconst 27 dX6_seizuresIfExchanged_26 vi5 rfl ?_
    refine z_imulN 28 rfl (show (5 : Int32) = nI 5 from rfl) dX6_seizuresIfExchanged_27 rfl ?_
    refine z_iload_n 29 dX6_seizuresIfExchanged_28 rfl rfl ?_
    refine z_iaddN 30 rfl rfl dX6_seizuresIfExchanged_29 rfl ?_
    refine z_aload_n 31 dX6_seizuresIfExchanged_30 rfl rfl ?_
    refine y_getr 34 _ sh0 rfl fl_X6_10 dX6_seizuresIfExchanged_31 rfl ?_
    refine y_getr 37 _ (bk0 bkm1) rfl fl_X6_156 dX6_seizuresIfExchanged_34 rfl ?_
    refine z_iload_n 38 dX6_seizuresIfExchanged_37 rfl rfl ?_
    refine z_iconst 39 dX6_seizuresIfExchanged_38 vi5 rfl ?_
    refine z_imulN 40 rfl (show (5 : Int32) = nI 5 from rfl) dX6_seizuresIfExchanged_39 rfl ?_
    refine z_iload_n 41 dX6_seizuresIfExchanged_40 rfl rfl ?_
    refine z_iaddN 42 rfl rfl dX6_seizuresIfExchanged_41 rfl ?_
    refine k_ld 43 _ hc8 (bk6 bkm1) rfl (by omega) (by decide) dX6_seizuresIfExchanged_42 rfl ?_
    rw [eq]
    refine p_st 44 _ (bk6 bkm8) rfl (by omega) rfl (by decide) dX6_seizuresIfExchanged_43 rfl ?_
    rw [ep]
    refine z_aload_n 45 dX6_seizuresIfExchanged_44 rfl rfl ?_
    refine y_getr 48 _ sh0 rfl fl_X6_16 dX6_seizuresIfExchanged_45 rfl ?_
    refine y_getr 51 _ (bk0 bkm8) rfl fl_X6_156 dX6_seizuresIfExchanged_48 rfl ?_
    refine z_iload_n 52 dX6_seizuresIfExchanged_51 rfl rfl ?_
    refine z_iconst 53 dX6_seizuresIfExchanged_52 vi5 rfl ?_
    refine z_imulN 54 rfl (show (5 : Int32) = nI 5 from rfl) dX6_seizuresIfExchanged_53 rfl ?_
    refine z_iload_n 55 dX6_seizuresIfExchanged_54 rfl rfl ?_
    refine z_iaddN 56 rfl rfl dX6_seizuresIfExchanged_55 rfl ?_
    refine z_aload_n 57 dX6_seizuresIfExchanged_56 rfl rfl ?_
    refine y_getr 60 _ sh0 rfl fl_X6_10 dX6_seizuresIfExchanged_57 rfl ?_
    refine y_getr 63 _ (bk0 bkm1) rfl fl_X6_156 dX6_seizuresIfExchanged_60 rfl ?_
    refine z_iload_n 64 dX6_seizuresIfExchanged_63 rfl rfl ?_
    refine z_iconst 65 dX6_seizuresIfExchanged_64 vi5 rfl ?_
    refine z_imulN 66 rfl (show (5 : Int32) = nI 5 from rfl) dX6_seizuresIfExchanged_65 rfl ?_
    refine z_iload_n 67 dX6_seizuresIfExchanged_66 rfl rfl ?_
    refine z_iaddN 68 rfl rfl dX6_seizuresIfExchanged_67 rfl ?_
    refine k_ld 69 _ hc8 (bk6 bkm1) rfl (by omega) (by decide) dX6_seizuresIfExchanged_68 rfl ?_
    rw [ep]
    refine p_st 70 _ (bk6 bkm8) rfl (by omega) rfl (by decide) dX6_seizuresIfExchanged_69 rfl ?_
    rw [eq]
    refine z_iinc 73 [_, _, _, _] dX6_seizuresIfExchanged_70 rfl (show _ + _ = nI (_ + 1) from nI_1 _) (by decide) rfl rfl rfl ?_
    refine z_goto 13 dX6_seizuresIfExchanged_73 rfl ?_
    exact ih
set_option maxRecDepth 100000 in
set_option maxHeartbeats 2000000 in
theorem x_swap {l : Launch} {G : zG} {σ : Nat → Int32} {N : Pg} {w : Int32} (hc : hdc σ 1 N) (ok : okQ N) : zMet l yX6_swap mX6_swap [.ref (zGa G 0), .int w] G (zW G σ) (zP G (pQ σ (vSwap N w))) := by
  have b4 := ok.np
  have bw : bi ((0 : Int32) ≤ w ∧ w ≤ 1) = bi (inR w 2) := bi_cg (le_inR (n := 1) (by decide))
  refine zMet.of (by decide) rfl (Nat.le_of_ble_eq_true rfl) (Or.inr rfl) fun X hX hq => ?_
  subst hX
  show Y G X mX6_swap σ 0 [some (.ref (zGa G 0)), some (.int w), none, none, none, none, none] []
  by_cases hw : inR w 2
  · obtain ⟨w', hw', rfl⟩ := inR_of hw (by decide)
    have val : vSwap N (nI w') = if (swO N (N 57)).1 = -4 ∨ nI w' = 0 then (swO N (N 57)).1 else (swO N (N 57)).2 := by rw [vSwap, if_pos hw]
    refine z_iload_n 1 dX6_swap_0 rfl rfl ?_
    refine z_iconst 2 dX6_swap_1 vi0 rfl ?_
    refine z_iconst 3 dX6_swap_2 vi1 rfl ?_
    refine y_cSs 6 (c_within) cs_X6_73 ⟨by decide, by decide, rfl, rfl⟩ (Nat.le_of_ble_eq_true rfl) dX6_swap_3 rfl rfl ?_
    rw [bw]
    refine z_if_ne_t 11 dX6_swap_6 rfl (by rw [bi_t hw]; decide) ?_
    refine z_aload_n 12 dX6_swap_11 rfl rfl ?_
    refine z_iconst 13 dX6_swap_12 vi0 rfl ?_
    refine z_iconst 14 dX6_swap_13 vi0 rfl ?_
    refine y_cVs 17 _ (c_seizuresIfExchanged (p := 0) (q := 0) hc ok (by decide) (by decide)) sh0 cv_X6_225 ⟨by decide, by decide, rfl, rfl⟩ (Nat.le_of_ble_eq_true rfl) dX6_swap_14 rfl rfl ?_
    refine z_istore_n 18 [_, _, _, _, _, _, _] dX6_swap_17 (by decide) rfl rfl rfl ?_
    refine z_bipush 20 dX6_swap_18 vbm4 rfl ?_
    refine z_istore_n 21 [_, _, _, _, _, _, _] dX6_swap_20 (by decide) rfl rfl rfl ?_
    refine z_iconst 22 dX6_swap_21 vi0 rfl ?_
    refine z_istore 24 [_, _, _, _, _, _, _] dX6_swap_22 (by decide) rfl rfl rfl ?_
    refine zup (P := fun p => ∀ τ, same τ σ → ∀ u v, Y G X mX6_swap τ 24 [some (.ref (zGa G 0)), some (.int (nI w')), some (.int (swO N p).2), some (.int (swO N p).1), some (.int (nI p)), u, v] []) (N 57) ?_ (fun p hp ihp => ?_) 0 (Nat.zero_le _) _ (same_sp8 same.rf) _ _
    · intro τ hτ u v
      have hcτ := hdc1 hc hτ
      have fin : ∀ V, V = vSwap N (nI w') → zP G (pQ σ (vSwap N (nI w'))) (some (.int V)) (zW G τ) := fun V hV => ⟨_, ⟨by rw [hV], hτ⟩, rfl⟩
      refine z_iload 26 dX6_swap_24 rfl rfl ?_
      refine z_aload_n 27 dX6_swap_26 rfl rfl ?_
      refine y_getr 30 _ sh0 rfl fl_X6_10 dX6_swap_27 rfl ?_
      refine k_get 33 bkm1 hcτ rfl (by decide) fl_X6_106 dX6_swap_30 rfl ?_
      refine z_icmp_ge_t 94 dX6_swap_33 rfl (Int32.le_refl _) ?_
      refine z_iload_n 95 dX6_swap_94 rfl rfl ?_
      refine z_bipush 97 dX6_swap_95 vbm4 rfl ?_
      refine z_icmp_eq 104 100 dX6_swap_97 rfl rfl (fun h97 => ?_) (fun h97 => ?_)
      · skip
        refine z_iload_n 105 dX6_swap_104 rfl rfl ?_
        refine z_goto 109 dX6_swap_105 rfl ?_
        refine z_iret hq rfl dX6_swap_109 rfl rfl ?_
        exact fin _ (by rw [val, if_pos (Or.inl h97)])
      · skip
        refine z_iload_n 101 dX6_swap_100 rfl rfl ?_
        refine z_if_ne 108 104 dX6_swap_101 rfl rfl (fun h101 => ?_) (fun h101 => ?_)
        · skip
          refine z_iload_n 109 dX6_swap_108 rfl rfl ?_
          refine z_iret hq rfl dX6_swap_109 rfl rfl ?_
          exact fin _ (by rw [val, if_neg (fun q => q.elim h97 h101)])
        · skip
          refine z_iload_n 105 dX6_swap_104 rfl rfl ?_
          refine z_goto 109 dX6_swap_105 rfl ?_
          refine z_iret hq rfl dX6_swap_109 rfl rfl ?_
          exact fin _ (by rw [val, if_pos (Or.inr h101)])
    · intro τ hτ u v
      have hcτ := hdc1 hc hτ
      refine z_iload 26 dX6_swap_24 rfl rfl ?_
      refine z_aload_n 27 dX6_swap_26 rfl rfl ?_
      refine y_getr 30 _ sh0 rfl fl_X6_10 dX6_swap_27 rfl ?_
      refine k_get 33 bkm1 hcτ rfl (by decide) fl_X6_106 dX6_swap_30 rfl ?_
      refine z_icmp_ge_f 36 94 dX6_swap_33 rfl (nI_ge hp (by omega)) rfl ?_
      refine z_iload 38 dX6_swap_36 rfl rfl ?_
      refine z_iconst 39 dX6_swap_38 vi1 rfl ?_
      refine z_iaddN 40 rfl (show (1 : Int32) = nI 1 from rfl) dX6_swap_39 rfl ?_
      refine z_istore 42 [_, _, _, _, _, _, _] dX6_swap_40 (by decide) rfl rfl rfl ?_
      refine zup (P := fun j => ∀ τ, same τ σ → ∀ v, Y G X mX6_swap τ 42 [some (.ref (zGa G 0)), some (.int (nI w')), some (.int (swI N p (swO N p) j).2), some (.int (swI N p (swO N p) j).1), some (.int (nI p)), some (.int (nI (p + 1 + j))), v] []) (N 57 - (p + 1)) ?_ (fun j hj ih => ?_) 0 (Nat.zero_le _) _ hτ _
      · intro τ hτ v
        have hcτ := hdc1 hc hτ
        refine z_iload 44 dX6_swap_42 rfl rfl ?_
        refine z_aload_n 45 dX6_swap_44 rfl rfl ?_
        refine y_getr 48 _ sh0 rfl fl_X6_10 dX6_swap_45 rfl ?_
        refine k_get 51 bkm1 hcτ rfl (by decide) fl_X6_106 dX6_swap_48 rfl ?_
        refine z_icmp_ge_t 88 dX6_swap_51 rfl (nI_le (by omega) (by omega)) ?_
        refine z_iinc 91 [_, _, _, _, _, _, _] dX6_swap_88 rfl (show _ + _ = nI (_ + 1) from nI_1 _) (by decide) rfl rfl rfl ?_
        refine z_goto 24 dX6_swap_91 rfl ?_
        exact ihp _ hτ _ _
      · intro τ hτ v
        have hcτ := hdc1 hc hτ
        refine z_iload 44 dX6_swap_42 rfl rfl ?_
        refine z_aload_n 45 dX6_swap_44 rfl rfl ?_
        refine y_getr 48 _ sh0 rfl fl_X6_10 dX6_swap_45 rfl ?_
        refine k_get 51 bkm1 hcτ rfl (by decide) fl_X6_106 dX6_swap_48 rfl ?_
        refine z_icmp_ge_f 54 88 dX6_swap_51 rfl (nI_ge (by omega) (by omega)) rfl ?_
        refine z_aload_n 55 dX6_swap_54 rfl rfl ?_
        refine z_iload 57 dX6_swap_55 rfl rfl ?_
        refine z_iload 59 dX6_swap_57 rfl rfl ?_
        refine y_cVs 62 _ (c_seizuresIfExchanged hcτ ok (by omega) (by omega)) sh0 cv_X6_225 ⟨by decide, by decide, rfl, rfl⟩ (Nat.le_of_ble_eq_true rfl) dX6_swap_59 rfl rfl ?_
        refine z_istore 64 [_, _, _, _, _, _, _] dX6_swap_62 (by decide) rfl rfl rfl ?_
        refine z_iload 66 dX6_swap_64 rfl rfl ?_
        refine z_iload_n 67 dX6_swap_66 rfl rfl ?_
        refine z_icmp_ge 82 70 dX6_swap_67 rfl rfl (fun h67 => ?_) (fun h67 => ?_)
        · skip
          have e : swI N p (swO N p) (j + 1) = swI N p (swO N p) j := if_neg (Int32.not_lt.mpr h67)
          refine z_iinc 85 [_, _, _, _, _, _, _] dX6_swap_82 rfl (show _ + _ = nI (_ + 1) from nI_1 _) (by decide) rfl rfl rfl ?_
          refine z_goto 42 dX6_swap_85 rfl ?_
          rw [e] at ih
          exact ih _ (same_sp8 hτ) _
        · skip
          have e : swI N p (swO N p) (j + 1) = (nI (10 * p + (p + 1 + j)), nI (exD N p (p + 1 + j))) := if_pos (Int32.not_le.mp h67)
          refine z_iload 72 dX6_swap_70 rfl rfl ?_
          refine z_istore_n 73 [_, _, _, _, _, _, _] dX6_swap_72 (by decide) rfl rfl rfl ?_
          refine z_bipush 75 dX6_swap_73 vb10 rfl ?_
          refine z_iload 77 dX6_swap_75 rfl rfl ?_
          refine z_imulN 78 (show (10 : Int32) = nI 10 from rfl) rfl dX6_swap_77 rfl ?_
          refine z_iload 80 dX6_swap_78 rfl rfl ?_
          refine z_iaddN 81 rfl rfl dX6_swap_80 rfl ?_
          refine z_istore_n 82 [_, _, _, _, _, _, _] dX6_swap_81 (by decide) rfl rfl rfl ?_
          refine z_iinc 85 [_, _, _, _, _, _, _] dX6_swap_82 rfl (show _ + _ = nI (_ + 1) from nI_1 _) (by decide) rfl rfl rfl ?_
          refine z_goto 42 dX6_swap_85 rfl ?_
          rw [e] at ih
          exact ih _ (same_sp8 hτ) _
  · skip
    refine z_iload_n 1 dX6_swap_0 rfl rfl ?_
    refine z_iconst 2 dX6_swap_1 vi0 rfl ?_
    refine z_iconst 3 dX6_swap_2 vi1 rfl ?_
    refine y_cSs 6 (c_within) cs_X6_73 ⟨by decide, by decide, rfl, rfl⟩ (Nat.le_of_ble_eq_true rfl) dX6_swap_3 rfl rfl ?_
    rw [bw]
    refine z_if_ne_f 9 11 dX6_swap_6 rfl (bi_f hw) rfl ?_
    refine z_iconst 10 dX6_swap_9 vim1 rfl ?_
    refine z_iret hq rfl dX6_swap_10 rfl rfl ?_
    exact ⟨_, ⟨by rw [vSwap, if_neg hw], same.rf⟩, rfl⟩
set_option maxRecDepth 100000 in
set_option maxHeartbeats 4000000 in
theorem r_swap {l : Launch} {G : zG} {σ : Nat → Int32} {N : Pg} {w : Int32} (hc : hdk σ 0 N) (ok : okQ N) (oz : okZ N) (hs : N 54 ≤ 1000000) : zMet l yX7_swap mX7_swap [.ref (zGa G 158), .int w] G (zW G σ) (zP G (pQ σ (vSwap N w))) := by
  have b4 := ok.np
  have b5 := ok.nc
  have bw : bi ((0 : Int64) ≤ w.toInt64 ∧ w.toInt64 ≤ 1) = bi (inR w 2) := bi_in7 (n := 1) (by decide)
  have okn := okQ_nrm ok
  have hdr_rsp : ∀ {τ : Nat → Int32} {R : Pg}, hdr (rsp τ 275 R) 275 R := hdr_rsp' (by decide)
  refine zMet.of (by decide) rfl (Nat.le_of_ble_eq_true rfl) (Or.inr rfl) fun X hX hq => ?_
  subst hX
  show Y G X mX7_swap σ 0 [some (.ref (zGa G 158)), some (.int w), none, none, none, none, none] []
  by_cases hw : inR w 2
  · obtain ⟨w', hw', rfl⟩ := inR_of hw (by decide)
    have val : vSwap N (nI w') = if (swO N (N 57)).1 = -4 ∨ nI w' = 0 then (swO N (N 57)).1 else (swO N (N 57)).2 := by rw [vSwap, if_pos hw]
    have base : daysA (nrm N) 20 54 - N 54 = exD N 0 0 := by rw [exD, exch_self (fun c hc => nrm_c (by omega)) 5 (Nat.le_refl _)]
    have cnt : daysA (nrm N) 20 56 = N 56 ∧ daysA (nrm N) 20 57 = N 57 := ⟨(daysA_56 okn 20).1.trans (nrm_c (by decide)), (daysA_56 okn 20).2.1.trans (nrm_c (by decide))⟩
    refine z_iload_n 1 dX7_swap_0 rfl rfl ?_
    refine z_i2l 2 dX7_swap_1 rfl ?_
    refine z_lconst 3 dX7_swap_2 vl0 rfl ?_
    refine z_lconst 4 dX7_swap_3 vl1 rfl ?_
    refine y_cSs 7 (c_in) cs_X7_55 ⟨by decide, by decide, rfl, rfl⟩ (Nat.le_of_ble_eq_true rfl) dX7_swap_4 rfl rfl ?_
    rw [bw]
    refine z_if_ne_t 12 dX7_swap_7 rfl (by rw [bi_t hw]; decide) ?_
    refine z_aload_n 13 dX7_swap_12 rfl rfl ?_
    refine z_iconst 14 dX7_swap_13 vi0 rfl ?_
    refine z_bipush 16 dX7_swap_14 vb20 rfl ?_
    refine y_cVs 19 _ (c_daysGo (o := 0) (n := 20) hc (by decide) ok (by decide) hs) sh158 cv_X7_222 ⟨by decide, by decide, rfl, rfl⟩ (Nat.le_of_ble_eq_true rfl) dX7_swap_16 rfl rfl ?_
    rw [base]
    refine z_istore_n 20 [_, _, _, _, _, _, _] dX7_swap_19 (by decide) rfl rfl rfl ?_
    refine z_bipush 22 dX7_swap_20 vbm4 rfl ?_
    refine z_istore_n 23 [_, _, _, _, _, _, _] dX7_swap_22 (by decide) rfl rfl rfl ?_
    refine z_iconst 24 dX7_swap_23 vi0 rfl ?_
    refine z_istore 26 [_, _, _, _, _, _, _] dX7_swap_24 (by decide) rfl rfl rfl ?_
    refine zup (P := fun p => ∀ τ, same τ σ → ∀ u v, Y G X mX7_swap τ 26 [some (.ref (zGa G 158)), some (.int (nI w')), some (.int (swO N p).2), some (.int (swO N p).1), some (.int (nI p)), u, v] []) (N 57) ?_ (fun p hp ihp => ?_) 0 (Nat.zero_le _) _ (same_dg hc cnt.1 cnt.2) _ _
    · intro τ hτ u v
      have hcτ := hdk0 hc hτ
      have fin : ∀ V, V = vSwap N (nI w') → zP G (pQ σ (vSwap N (nI w'))) (some (.int V)) (zW G τ) := fun V hV => ⟨_, ⟨by rw [hV], hτ⟩, rfl⟩
      refine z_iload 28 dX7_swap_26 rfl rfl ?_
      refine z_aload_n 29 dX7_swap_28 rfl rfl ?_
      refine q_get 32 hcτ rfl (by decide) fl_X7_145 dX7_swap_29 rfl ?_
      refine z_icmp_ge_t 193 dX7_swap_32 rfl (Int32.le_refl _) ?_
      refine z_iload_n 194 dX7_swap_193 rfl rfl ?_
      refine z_bipush 196 dX7_swap_194 vbm4 rfl ?_
      refine z_icmp_eq 203 199 dX7_swap_196 rfl rfl (fun h196 => ?_) (fun h196 => ?_)
      · skip
        refine z_iload_n 204 dX7_swap_203 rfl rfl ?_
        refine z_goto 208 dX7_swap_204 rfl ?_
        refine z_iret hq rfl dX7_swap_208 rfl rfl ?_
        exact fin _ (by rw [val, if_pos (Or.inl h196)])
      · skip
        refine z_iload_n 200 dX7_swap_199 rfl rfl ?_
        refine z_if_ne 207 203 dX7_swap_200 rfl rfl (fun h200 => ?_) (fun h200 => ?_)
        · skip
          refine z_iload_n 208 dX7_swap_207 rfl rfl ?_
          refine z_iret hq rfl dX7_swap_208 rfl rfl ?_
          exact fin _ (by rw [val, if_neg (fun q => q.elim h196 h200)])
        · skip
          refine z_iload_n 204 dX7_swap_203 rfl rfl ?_
          refine z_goto 208 dX7_swap_204 rfl ?_
          refine z_iret hq rfl dX7_swap_208 rfl rfl ?_
          exact fin _ (by rw [val, if_pos (Or.inr h200)])
    · intro τ hτ u v
      have hcτ := hdk0 hc hτ
      refine z_iload 28 dX7_swap_26 rfl rfl ?_
      refine z_aload_n 29 dX7_swap_28 rfl rfl ?_
      refine q_get 32 hcτ rfl (by decide) fl_X7_145 dX7_swap_29 rfl ?_
      refine z_icmp_ge_f 35 193 dX7_swap_32 rfl (nI_ge hp (by omega)) rfl ?_
      refine z_iload 37 dX7_swap_35 rfl rfl ?_
      refine z_iconst 38 dX7_swap_37 vi1 rfl ?_
      refine z_iaddN 39 rfl (show (1 : Int32) = nI 1 from rfl) dX7_swap_38 rfl ?_
      refine z_istore 41 [_, _, _, _, _, _, _] dX7_swap_39 (by decide) rfl rfl rfl ?_
      refine zup (P := fun j => ∀ τ, same τ σ → ∀ v, Y G X mX7_swap τ 41 [some (.ref (zGa G 158)), some (.int (nI w')), some (.int (swI N p (swO N p) j).2), some (.int (swI N p (swO N p) j).1), some (.int (nI p)), some (.int (nI (p + 1 + j))), v] []) (N 57 - (p + 1)) ?_ (fun j hj ih => ?_) 0 (Nat.zero_le _) _ hτ _
      · intro τ hτ v
        have hcτ := hdk0 hc hτ
        refine z_iload 43 dX7_swap_41 rfl rfl ?_
        refine z_aload_n 44 dX7_swap_43 rfl rfl ?_
        refine q_get 47 hcτ rfl (by decide) fl_X7_145 dX7_swap_44 rfl ?_
        refine z_icmp_ge_t 187 dX7_swap_47 rfl (nI_le (by omega) (by omega)) ?_
        refine z_iinc 190 [_, _, _, _, _, _, _] dX7_swap_187 rfl (show _ + _ = nI (_ + 1) from nI_1 _) (by decide) rfl rfl rfl ?_
        refine z_goto 26 dX7_swap_190 rfl ?_
        exact ihp _ hτ _ _
      · intro τ hτ v
        have hcτ := hdk0 hc hτ
        have eE : eqc (exq τ 275 N) N := exq_c
        have cpe := cp_rsp hcτ (t := 275) (by decide) (by decide) (by decide)
        generalize exq τ 275 N = E at eE cpe
        have okE := ok.eqc eE
        obtain ⟨q, hq⟩ : ∃ q, q = p + 1 + j := ⟨_, rfl⟩
        have eI : swI N p (swO N p) (j + 1) = swS N p q (swI N p (swO N p) j) := by rw [hq]; rfl
        have eQ1 : nI (p + 1 + (j + 1)) = nI (q + 1) := by rw [hq]; congr 1
        rw [eQ1] at ih
        rw [← hq]
        have hq4 : q < 4 := by omega
        have okx := okQ_exch ok okE (show p < 4 by omega) hq4 (N 56) b5
        have oky := okQ_exch ok okn (show p < 4 by omega) hq4 5 (Nat.le_refl _)
        have e4 : eqc (nrm (exch E N p q (N 56))) (exch (nrm N) N p q 5) := eqc_nrm.trans ((exch_c (eE.trans eqc_nrm.symm) (N 56)).trans (exch_z oz eqc_nrm (by omega) hq4 (by omega) (5 - N 56) (N 56) (Nat.le_refl _) (by omega)).symm)
        have l54 : exch E N p q (N 56) 54 = N 54 := (exch_54 (by omega) hq4 b5 (by decide)).trans (eE 54 (by decide))
        have l56 : exch E N p q (N 56) 56 = N 56 := (exch_54 (by omega) hq4 b5 (by decide)).trans (eE 56 (by decide))
        have l57 : exch E N p q (N 56) 57 = N 57 := (exch_54 (by omega) hq4 b5 (by decide)).trans (eE 57 (by decide))
        have hv : daysA (nrm (exch E N p q (N 56))) 20 54 - N 54 = exD N p q := by rw [exD, daysA_c e4 oky 20 54 (by decide)]
        have s1 : same (rsp τ 275 (exch E N p q (N 56))) σ := same_rsp hτ (by decide) (by rw [l56]; exact hcτ 56 (by decide)) (by rw [l57]; exact hcτ 57 (by decide))
        have s2 : ∀ x, same (rsp (upd (rsp τ 275 (exch E N p q (N 56))) (400 * 158 + 22) x) 220 (daysA (nrm (exch E N p q (N 56))) 20)) σ := fun x => same_d220 s1 (by rw [(rsp_56 (by decide)).1, (daysA_56 (okQ_nrm okx) 20).1, nrm_c (by decide)]) (by rw [(rsp_56 (by decide)).2, (daysA_56 (okQ_nrm okx) 20).2.1, nrm_c (by decide)])
        have hcx : ∀ n, n ≤ 5 → hdk (rsp τ 275 (exch E N p q n)) 0 N := fun n hn => hdk_rsp_off hcτ (by decide) (by decide) ((exch_54 (by omega) hq4 hn (by decide)).trans (eE 56 (by decide))) ((exch_54 (by omega) hq4 hn (by decide)).trans (eE 57 (by decide)))
        refine z_iload 43 dX7_swap_41 rfl rfl ?_
        refine z_aload_n 44 dX7_swap_43 rfl rfl ?_
        refine q_get 47 hcτ rfl (by decide) fl_X7_145 dX7_swap_44 rfl ?_
        refine z_icmp_ge_f 50 187 dX7_swap_47 rfl (nI_ge (by omega) (by omega)) rfl ?_
        refine z_aload_n 51 dX7_swap_50 rfl rfl ?_
        refine z_iconst 52 dX7_swap_51 vi0 rfl ?_
        refine z_sipush 55 dX7_swap_52 vs275 rfl ?_
        refine y_cVv 58 _ (c_copies (f := 0) (t := 275) (by decide) (by decide) (by decide)) sh158 cv_X7_212 ⟨by decide, by decide, rfl, rfl⟩ (Nat.le_of_ble_eq_true rfl) dX7_swap_55 rfl rfl ?_
        rw [cpe]
        refine z_iconst 59 dX7_swap_58 vi0 rfl ?_
        refine z_istore 61 [_, _, _, _, _, _, _] dX7_swap_59 (by decide) rfl rfl rfl ?_
        refine zup (P := fun c => Y G X mX7_swap (rsp τ 275 (exch E N p q c)) 61 [some (.ref (zGa G 158)), some (.int (nI w')), some (.int (swI N p (swO N p) j).2), some (.int (swI N p (swO N p) j).1), some (.int (nI p)), some (.int (nI q)), some (.int (nI c))] []) (N 56) ?_ (fun c h5 ihc => ?_) 0 (Nat.zero_le _)
        · skip
          refine z_iload 63 dX7_swap_61 rfl rfl ?_
          refine z_aload_n 64 dX7_swap_63 rfl rfl ?_
          refine q_get 67 (hcx _ b5) rfl (by decide) fl_X7_142 dX7_swap_64 rfl ?_
          refine z_icmp_ge_t 138 dX7_swap_67 rfl (Int32.le_refl _) ?_
          refine z_aload_n 139 dX7_swap_138 rfl rfl ?_
          refine z_sipush 142 dX7_swap_139 vs275 rfl ?_
          refine z_bipush 144 dX7_swap_142 vb20 rfl ?_
          refine y_cVs 147 _ (c_daysGo (o := 275) (n := 20) hdr_rsp.k (by decide) okx (by decide) (by omega)) sh158 cv_X7_222 ⟨by decide, by decide, rfl, rfl⟩ (Nat.le_of_ble_eq_true rfl) dX7_swap_144 rfl rfl ?_
          rw [l54, hv]
          refine z_istore 149 [_, _, _, _, _, _, _] dX7_swap_147 (by decide) rfl rfl rfl ?_
          refine z_iload 151 dX7_swap_149 rfl rfl ?_
          refine z_iload_n 152 dX7_swap_151 rfl rfl ?_
          refine z_icmp_ge 166 155 dX7_swap_152 rfl rfl (fun h152 => ?_) (fun h152 => ?_)
          · skip
            rw [swS, if_neg (Int32.not_lt.mpr h152)] at eI
            refine z_iload_n 167 dX7_swap_166 rfl rfl ?_
            refine z_istore_n 168 [_, _, _, _, _, _, _] dX7_swap_167 (by decide) rfl rfl rfl ?_
            refine z_iload 170 dX7_swap_168 rfl rfl ?_
            refine z_iload_n 171 dX7_swap_170 rfl rfl ?_
            refine z_icmp_ge_t 179 dX7_swap_171 rfl (h152) ?_
            refine z_iload_n 180 dX7_swap_179 rfl rfl ?_
            refine z_istore_n 181 [_, _, _, _, _, _, _] dX7_swap_180 (by decide) rfl rfl rfl ?_
            refine z_iinc 184 [_, _, _, _, _, _, _] dX7_swap_181 rfl (show _ + _ = nI (_ + 1) from nI_1 _) (by decide) rfl rfl rfl ?_
            refine z_goto 41 dX7_swap_184 rfl ?_
            rw [eI] at ih
            exact ih _ (s2 _) _
          · skip
            rw [swS, if_pos (Int32.not_le.mp h152)] at eI
            refine z_bipush 157 dX7_swap_155 vb10 rfl ?_
            refine z_iload 159 dX7_swap_157 rfl rfl ?_
            refine z_imulN 160 (show (10 : Int32) = nI 10 from rfl) rfl dX7_swap_159 rfl ?_
            refine z_iload 162 dX7_swap_160 rfl rfl ?_
            refine z_iaddN 163 rfl rfl dX7_swap_162 rfl ?_
            refine z_goto 167 dX7_swap_163 rfl ?_
            refine z_istore_n 168 [_, _, _, _, _, _, _] dX7_swap_167 (by decide) rfl rfl rfl ?_
            refine z_iload 170 dX7_swap_168 rfl rfl ?_
            refine z_iload_n 171 dX7_swap_170 rfl rfl ?_
            refine z_icmp_ge_f 174 179 dX7_swap_171 rfl (h152) rfl ?_
            refine z_iload 176 dX7_swap_174 rfl rfl ?_
            refine z_goto 180 dX7_swap_176 rfl ?_
            refine z_istore_n 181 [_, _, _, _, _, _, _] dX7_swap_180 (by decide) rfl rfl rfl ?_
            refine z_iinc 184 [_, _, _, _, _, _, _] dX7_swap_181 rfl (show _ + _ = nI (_ + 1) from nI_1 _) (by decide) rfl rfl rfl ?_
            refine z_goto 41 dX7_swap_184 rfl ?_
            rw [eI] at ih
            exact ih _ (s2 _) _
        · have hcc := hcx c (by omega)
          have hcd : ∀ v, hdk (rsp τ 275 (un (exch E N p q c) (33 + 5 * p + c) v)) 0 N := fun v => hdk_rsp_off hcτ (by decide) (by decide) (by rw [un_n (by omega)]; exact (exch_54 (by omega) hq4 (by omega) (by decide)).trans (eE 56 (by decide))) (by rw [un_n (by omega)]; exact (exch_54 (by omega) hq4 (by omega) (by decide)).trans (eE 57 (by decide)))
          refine z_iload 63 dX7_swap_61 rfl rfl ?_
          refine z_aload_n 64 dX7_swap_63 rfl rfl ?_
          refine m_get 67 hdr_rsp rfl (by decide) fl_X7_142 dX7_swap_64 rfl ?_
          refine z_icmp_ge_f 70 138 dX7_swap_67 rfl (by rw [(show exch E N p q c 56 = N 56 from (exch_54 (by omega) hq4 (by omega) (by decide)).trans (eE 56 (by decide)))]; exact nI_ge h5 (by omega)) rfl ?_
          refine z_aload_n 71 dX7_swap_70 rfl rfl ?_
          refine y_getr 74 _ sh158 rfl fl_X7_7 dX7_swap_71 rfl ?_
          refine z_sipush 77 dX7_swap_74 vs308 rfl ?_
          refine z_iconst 78 dX7_swap_77 vi5 rfl ?_
          refine z_iload 80 dX7_swap_78 rfl rfl ?_
          refine z_imulN 81 (show (5 : Int32) = nI 5 from rfl) rfl dX7_swap_80 rfl ?_
          refine z_iaddN 82 (show (308 : Int32) = nI 308 from rfl) rfl dX7_swap_81 rfl ?_
          refine z_iload 84 dX7_swap_82 rfl rfl ?_
          refine z_iaddN 85 rfl rfl dX7_swap_84 rfl ?_
          refine z_aload_n 86 dX7_swap_85 rfl rfl ?_
          refine y_getr 89 _ sh158 rfl fl_X7_7 dX7_swap_86 rfl ?_
          refine z_bipush 91 dX7_swap_89 vb33 rfl ?_
          refine z_iconst 92 dX7_swap_91 vi5 rfl ?_
          refine z_iload 94 dX7_swap_92 rfl rfl ?_
          refine z_imulN 95 (show (5 : Int32) = nI 5 from rfl) rfl dX7_swap_94 rfl ?_
          refine z_iaddN 96 (show (33 : Int32) = nI 33 from rfl) rfl dX7_swap_95 rfl ?_
          refine z_iload 98 dX7_swap_96 rfl rfl ?_
          refine z_iaddN 99 rfl rfl dX7_swap_98 rfl ?_
          refine q_ld 100 (33 + 5 * q + c) hcc rfl (by omega) (by omega) (by omega) dX7_swap_99 rfl ?_
          refine w_st 101 (33 + 5 * p + c) rfl (by omega) (by omega) (by omega) rfl dX7_swap_100 rfl ?_
          refine z_aload_n 102 dX7_swap_101 rfl rfl ?_
          refine y_getr 105 _ sh158 rfl fl_X7_7 dX7_swap_102 rfl ?_
          refine z_sipush 108 dX7_swap_105 vs308 rfl ?_
          refine z_iconst 109 dX7_swap_108 vi5 rfl ?_
          refine z_iload 111 dX7_swap_109 rfl rfl ?_
          refine z_imulN 112 (show (5 : Int32) = nI 5 from rfl) rfl dX7_swap_111 rfl ?_
          refine z_iaddN 113 (show (308 : Int32) = nI 308 from rfl) rfl dX7_swap_112 rfl ?_
          refine z_iload 115 dX7_swap_113 rfl rfl ?_
          refine z_iaddN 116 rfl rfl dX7_swap_115 rfl ?_
          refine z_aload_n 117 dX7_swap_116 rfl rfl ?_
          refine y_getr 120 _ sh158 rfl fl_X7_7 dX7_swap_117 rfl ?_
          refine z_bipush 122 dX7_swap_120 vb33 rfl ?_
          refine z_iconst 123 dX7_swap_122 vi5 rfl ?_
          refine z_iload 125 dX7_swap_123 rfl rfl ?_
          refine z_imulN 126 (show (5 : Int32) = nI 5 from rfl) rfl dX7_swap_125 rfl ?_
          refine z_iaddN 127 (show (33 : Int32) = nI 33 from rfl) rfl dX7_swap_126 rfl ?_
          refine z_iload 129 dX7_swap_127 rfl rfl ?_
          refine z_iaddN 130 rfl rfl dX7_swap_129 rfl ?_
          refine q_ld 131 (33 + 5 * p + c) (hcd _) rfl (by omega) (by omega) (by omega) dX7_swap_130 rfl ?_
          refine w_st 132 (33 + 5 * q + c) rfl (by omega) (by omega) (by omega) rfl dX7_swap_131 rfl ?_
          refine z_iinc 135 [_, _, _, _, _, _, _] dX7_swap_132 rfl (show _ + _ = nI (_ + 1) from nI_1 _) (by decide) rfl rfl rfl ?_
          refine z_goto 61 dX7_swap_135 rfl ?_
          exact ihc
  · skip
    refine z_iload_n 1 dX7_swap_0 rfl rfl ?_
    refine z_i2l 2 dX7_swap_1 rfl ?_
    refine z_lconst 3 dX7_swap_2 vl0 rfl ?_
    refine z_lconst 4 dX7_swap_3 vl1 rfl ?_
    refine y_cSs 7 (c_in) cs_X7_55 ⟨by decide, by decide, rfl, rfl⟩ (Nat.le_of_ble_eq_true rfl) dX7_swap_4 rfl rfl ?_
    rw [bw]
    refine z_if_ne_f 10 12 dX7_swap_7 rfl (bi_f hw) rfl ?_
    refine z_iconst 11 dX7_swap_10 vim1 rfl ?_
    refine z_iret hq rfl dX7_swap_11 rfl rfl ?_
    exact ⟨_, ⟨by rw [vSwap, if_neg hw], same.rf⟩, rfl⟩

