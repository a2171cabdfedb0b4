/-! ===== more, need ===== -/
theorem colGo_58 {Q : Pg} {p c t : Nat} (hp : p < 4) (hc : c < 5) : colGo Q p c t (58 + p) - Q (58 + p) = colGo Q p c t 54 - Q 54 ∧ Q (58 + p) ≤ colGo Q p c t (58 + p) := by
  simp only [colGo]
  split
  · omega
  split
  · rw [un_n (by omega), un_n (by omega), un_n (by omega), un_n (by omega), un_n (by omega), un_n (by omega)]; omega
  · rw [un_s, un_n (by omega), un_s]; omega
theorem cols_58 {Q : Pg} {p t : Nat} (hp : p < 4) : ∀ n, n ≤ 5 → cols Q p t n (58 + p) - Q (58 + p) = cols Q p t n 54 - Q 54 ∧ Q (58 + p) ≤ cols Q p t n (58 + p)
  | 0, _ => by simp only [cols]; omega
  | n + 1, hn => by
    have h1 := cols_58 (Q := Q) (t := t) hp n (by omega)
    have h2 := colGo_58 (Q := cols Q p t n) (t := t) hp (show n < 5 by omega)
    have a1 := cols_54 (Q := Q) (t := t) hp n (by omega)
    have a3 := colGo_54 (Q := cols Q p t n) (t := t) hp (show n < 5 by omega)
    simp only [cols]; omega
theorem dayO_58 {Q : Pg} {p t : Nat} (ok : okQ Q) (hp : p < 4) : dayO Q p t (58 + p) = Q (58 + p) + inc Q p t := by
  have h1 := cols_58 (Q := un Q (25 + p) (min 999 (Q (25 + p) + Q (29 + p)))) (t := t) hp (Q 56) ok.nc
  rw [un_n (by omega), un_n (by omega)] at h1
  simp only [dayO, inc]; omega
theorem ones_58 {Q : Pg} {p t : Nat} (ok : okQ Q) (hp : p < 4) : ∀ n, n ≤ 4 → ones Q t n (58 + p) = Q (58 + p) + (if p < n then inc Q p t else 0)
  | 0, _ => by rw [if_neg (by omega)]; rfl
  | n + 1, hn => by
    have ih := ones_58 (t := t) ok hp n (by omega)
    have okn := okQ_ones (t := t) ok n (by omega)
    rw [ones]
    by_cases e : p = n
    · subst e
      have h := ones_S (p := p) (t := t) ok hp p (by omega)
      rw [if_neg (by omega)] at h ih
      have h2 := (dayO_S (t := t) h hp ok.nc).2
      rw [dayO_58 okn hp, if_pos (by omega), ih]
      simp only [inc]; omega
    · rw [dayO_off okn (by omega) (by omega) (by omega) (by omega) (fun c hc => by omega), ih]
      by_cases h : p < n
      · rw [if_pos h, if_pos (by omega)]
      · rw [if_neg h, if_neg (by omega)]
theorem daysA_58 {Q : Pg} {p : Nat} (ok : okQ Q) (hp : p < Q 57) : ∀ n, daysA Q n (58 + p) = Q (58 + p) + sz Q p n
  | 0 => by simp only [daysA, sz, daysO]; omega
  | n + 1 => by
    have h4 := ok.np
    have ih := daysA_58 ok hp n
    have okn := okQ_daysA ok n
    have h5 : daysA Q n 57 = Q 57 := (daysA_56 ok n).2.1
    have h1 := (dayO_S (t := 1) (daysA_S ok hp n) (by omega) (okQ_daysO ok (by omega) n).nc).2
    have a1 := daysO_54 (p := p) ok (by omega) n
    have a3 := dayO_54 (t := 1) (okQ_daysO (p := p) ok (by omega) n) (show p < 4 by omega)
    rw [daysA, dayA, un_n (by omega), h5, ones_58 okn (by omega) _ h4, if_pos hp, ih]
    simp only [sz, inc, daysO] at *; omega
theorem same_d220 {σ τ : Nat → Int32} {R : Pg} {x : Int32} (h : same τ σ) (h6 : τ 63201 = nI (R 56)) (h7 : τ 63202 = nI (R 57)) : same (rsp (upd τ (400 * 158 + 22) x) 220 R) σ :=
  same_rsp (same_upd h scr_fs) (by decide) (by rw [pk_un (by decide)]; exact h6) (by rw [pk_un (by decide)]; exact h7)
/-- the greatest of so many for which g holds; 0 -/
def mostG (g : Nat → Bool) : Nat → Nat
  | 0 => 0
  | n + 1 => if g (n + 1) then n + 1 else mostG g n
theorem mostG_le {g g' : Nat → Bool} {m : Nat} (h1 : ∀ n, 1 ≤ n → n ≤ m → g' n = g n) : ∀ k, k ≤ m → mostG g' k = mostG g k
  | 0, _ => rfl
  | k + 1, hk => by rw [mostG, mostG, h1 (k + 1) (by omega) hk, mostG_le h1 k (by omega)]
theorem mostG_cut {g g' : Nat → Bool} {m : Nat} (h1 : ∀ n, 1 ≤ n → n ≤ m → g' n = g n) (h2 : ∀ n, m < n → g' n = false) : ∀ k, m ≤ k → mostG g' k = mostG g m
  | k, hk => by
    induction k with
    | zero => rw [show m = 0 by omega]; rfl
    | succ k ih =>
      by_cases e : m = k + 1
      · rw [e]; exact mostG_le h1 _ (by omega)
      · rw [mostG, h2 (k + 1) (by omega)]; exact ih (by omega)
/-- the page with n drops more with one -/
def lentQ (N : Pg) (p c n : Nat) : Pg := un (nrm N) (33 + 5 * p + c) (N (33 + 5 * p + c) + n)
def moreB (N : Pg) (p c n : Nat) : Bool := decide (sz (lentQ N p c n) p 10 ≤ sz (nrm N) p 10)
def moreV (N : Pg) (p c : Nat) : Nat := mostG (moreB N p c) (min (N (20 + c)) (99 - N (33 + 5 * p + c)))
def vMore (N : Pg) (p c : Int32) : Int32 := if inR p (N 57) ∧ inR c (N 56) then nI (moreV N (nN p) (nN c)) else -1
theorem okQ_lent {N : Pg} {p c n : Nat} (ok : okQ N) (hp : p < 4) (hc : c < 5) (h : N (33 + 5 * p + c) + n ≤ 99) : okQ (lentQ N p c n) := okQ_un (okQ_nrm ok) (fun _ => by rw [bnd_h' hp hc]; exact h)
theorem lentQ_0 {N : Pg} {p c : Nat} (hp : p < 4) (hc : c < 5) : lentQ N p c 0 = nrm N := by
  simp only [lentQ, Nat.add_zero]
  have e : N (33 + 5 * p + c) = nrm N (33 + 5 * p + c) := (nrm_c (by omega)).symm
  rw [e]; exact un_self
theorem lent_54 {N : Pg} {p c n : Nat} (hp : p < 4) (hc : c < 5) : lentQ N p c n 54 = N 54 := by rw [lentQ, un_n (by omega)]; exact nrm_c (by decide)
set_option maxRecDepth 100000 in
theorem c_seizuresIfLent {l : Launch} {G : zG} {σ : Nat → Int32} {N : Pg} {p c n : Nat} (hc : hdc σ 1 N) (ok : okQ N) (hp : p < 4) (h5 : c < 5) (hn : N (33 + 5 * p + c) + n ≤ 99) : zMet l yX6_seizuresIfLent mX6_seizuresIfLent [.ref (zGa G 0), .int (nI p), .int (nI c), .int (nI n)] G (zW G σ) (zFn G (some (.int (nI (sz (lentQ N p c n) p 10)))) (sp σ 8 (daysO (lentQ N p c n) p 10))) := by
  have e0 : 33 + (p * 5 + c) = 33 + 5 * p + c := by omega
  have e1 : nrm N (33 + 5 * p + c) = N (33 + 5 * p + c) := nrm_c (by omega)
  have okl := okQ_lent ok hp h5 hn
  have hc8 : ∀ {R : Pg}, hdc (sp σ 8 R) 1 N := hdc_off hc (by decide)
  have m := (daysO_54 okl hp 10).1
  have e2 := lent_54 (N := N) (n := n) hp h5
  refine zMet.of (by decide) rfl (Nat.le_of_ble_eq_true rfl) (Or.inr rfl) fun X hX hq => ?_
  subst hX
  show Y G X mX6_seizuresIfLent σ 0 [some (.ref (zGa G 0)), some (.int (nI p)), some (.int (nI c)), some (.int (nI n))] []
  refine z_aload_n 1 dX6_seizuresIfLent_0 rfl rfl ?_
  refine y_getr 4 _ sh0 rfl fl_X6_16 dX6_seizuresIfLent_1 rfl ?_
  refine z_aload_n 5 dX6_seizuresIfLent_4 rfl rfl ?_
  refine y_getr 8 _ sh0 rfl fl_X6_10 dX6_seizuresIfLent_5 rfl ?_
  refine y_cVv 11 _ (n_takeFrom bkm8 bkm1 (by decide) hc) (bk0 bkm8) cv_X6_96 ⟨by decide, by decide, rfl, rfl⟩ (Nat.le_of_ble_eq_true rfl) dX6_seizuresIfLent_8 rfl rfl ?_
  refine z_aload_n 12 dX6_seizuresIfLent_11 rfl rfl ?_
  refine y_getr 15 _ sh0 rfl fl_X6_16 dX6_seizuresIfLent_12 rfl ?_
  refine y_getr 18 _ (bk0 bkm8) rfl fl_X6_156 dX6_seizuresIfLent_15 rfl ?_
  refine z_iload_n 19 dX6_seizuresIfLent_18 rfl rfl ?_
  refine z_iconst 20 dX6_seizuresIfLent_19 vi5 rfl ?_
  refine z_imulN 21 rfl (show (5 : Int32) = nI 5 from rfl) dX6_seizuresIfLent_20 rfl ?_
  refine z_iload_n 22 dX6_seizuresIfLent_21 rfl rfl ?_
  refine z_iaddN 23 rfl rfl dX6_seizuresIfLent_22 rfl ?_
  refine z_dup2 24 dX6_seizuresIfLent_23 rfl rfl rfl ?_
  refine p_ld 25 _ (bk6 bkm8) rfl (by omega) (by decide) dX6_seizuresIfLent_24 rfl ?_
  rw [e0, e1]
  refine z_iload_n 26 dX6_seizuresIfLent_25 rfl rfl ?_
  refine z_iaddN 27 rfl rfl dX6_seizuresIfLent_26 rfl ?_
  refine p_st 28 _ (bk6 bkm8) rfl (by omega) rfl (by decide) dX6_seizuresIfLent_27 rfl ?_
  rw [e0]
  show Y G X mX6_seizuresIfLent (sp σ 8 (lentQ N p c n)) 28 _ _
  refine z_aload_n 29 dX6_seizuresIfLent_28 rfl rfl ?_
  refine y_getr 32 _ sh0 rfl fl_X6_16 dX6_seizuresIfLent_29 rfl ?_
  refine z_iload_n 33 dX6_seizuresIfLent_32 rfl rfl ?_
  refine z_bipush 35 dX6_seizuresIfLent_33 vb10 rfl ?_
  refine y_cVv 38 _ (c_passDaysOfOne (n := 10) bkm8 hds_sp okl hp (by decide)) (bk0 bkm8) cv_X6_197 ⟨by decide, by decide, rfl, rfl⟩ (Nat.le_of_ble_eq_true rfl) dX6_seizuresIfLent_35 rfl rfl ?_
  rw [sp_sp]
  refine z_aload_n 39 dX6_seizuresIfLent_38 rfl rfl ?_
  refine y_getr 42 _ sh0 rfl fl_X6_16 dX6_seizuresIfLent_39 rfl ?_
  refine p_get 45 bkm8 rfl fl_X6_112 dX6_seizuresIfLent_42 rfl ?_
  refine z_aload_n 46 dX6_seizuresIfLent_45 rfl rfl ?_
  refine y_getr 49 _ sh0 rfl fl_X6_10 dX6_seizuresIfLent_46 rfl ?_
  refine k_get 52 bkm1 hc8 rfl (by decide) fl_X6_112 dX6_seizuresIfLent_49 rfl ?_
  refine z_isubN 53 rfl rfl (by rw [e2] at m; exact m) dX6_seizuresIfLent_52 rfl ?_
  refine z_iret hq rfl dX6_seizuresIfLent_53 rfl rfl ?_
  exact ⟨by rw [sz, e2], rfl⟩
set_option maxRecDepth 100000 in
theorem x_more {l : Launch} {G : zG} {σ : Nat → Int32} {N : Pg} {p c : Int32} (hc : hdc σ 1 N) (ok : okQ N) : zMet l yX6_more mX6_more [.ref (zGa G 0), .int p, .int c] G (zW G σ) (zP G (pQ σ (vMore N p c))) := by
  have b5 := ok.nc
  have b4 := ok.np
  have no : ¬ (inR p (N 57) ∧ inR c (N 56)) → pQ σ (vMore N p c) (some (.int (-1))) σ := fun h => ⟨by rw [vMore, if_neg h], same.rf⟩
  have hc8 : ∀ {R : Pg}, hdc (sp σ 8 R) 1 N := hdc_off hc (by decide)
  refine zMet.of (by decide) rfl (Nat.le_of_ble_eq_true rfl) (Or.inr rfl) fun X hX hq => ?_
  subst hX
  show Y G X mX6_more σ 0 [some (.ref (zGa G 0)), some (.int p), some (.int c), none, none, none] []
  by_cases hp : inR p (N 57)
  · by_cases hi : inR c (N 56)
    · obtain ⟨p', hp', rfl⟩ := inR_of hp (by omega)
      obtain ⟨c', hc', rfl⟩ := inR_of hi (by omega)
      have p4 : p' < 4 := by omega
      have c5 : c' < 5 := by omega
      have e0 : 33 + (p' * 5 + c') = 33 + 5 * p' + c' := by omega
      have b3 := ok.vt c5
      have b9 := ok.he p4 c5
      have val : vMore N (nI p') (nI c') = nI (mostG (moreB N p' c') (min (N (20 + c')) (99 - N (33 + 5 * p' + c')))) := by rw [vMore, if_pos ⟨hp, hi⟩, nN_nI (by omega), nN_nI (by omega)]; rfl
      have szb : ∀ n, N (33 + 5 * p' + c') + n ≤ 99 → sz (lentQ N p' c' n) p' 10 ≤ 50 := fun n h => by
        have := daysO_54 (okQ_lent ok p4 c5 h) p4 10
        simp only [sz]; omega
      have l0 := lentQ_0 (N := N) p4 c5
      have sz0 := szb 0 (by omega)
      rw [l0] at sz0
      refine z_aload_n 1 dX6_more_0 rfl rfl ?_
      refine y_getr 4 _ sh0 rfl fl_X6_10 dX6_more_1 rfl ?_
      refine z_iload_n 5 dX6_more_4 rfl rfl ?_
      refine y_cVs 8 _ (n_hasOne bkm1 hc ok) (bk0 bkm1) cv_X6_141 ⟨by decide, by decide, rfl, rfl⟩ (Nat.le_of_ble_eq_true rfl) dX6_more_5 rfl rfl ?_
      refine z_if_eq_f 11 22 dX6_more_8 rfl (by rw [bi_t hp]; decide) rfl ?_
      refine z_aload_n 12 dX6_more_11 rfl rfl ?_
      refine y_getr 15 _ sh0 rfl fl_X6_10 dX6_more_12 rfl ?_
      refine z_iload_n 16 dX6_more_15 rfl rfl ?_
      refine y_cVs 19 _ (n_hasColour bkm1 hc ok) (bk0 bkm1) cv_X6_121 ⟨by decide, by decide, rfl, rfl⟩ (Nat.le_of_ble_eq_true rfl) dX6_more_16 rfl rfl ?_
      refine z_if_ne_t 24 dX6_more_19 rfl (by rw [bi_t hi]; decide) ?_
      refine z_aload_n 25 dX6_more_24 rfl rfl ?_
      refine z_iload_n 26 dX6_more_25 rfl rfl ?_
      refine z_iload_n 27 dX6_more_26 rfl rfl ?_
      refine z_iconst 28 dX6_more_27 vi0 rfl ?_
      refine y_cVs 31 _ (c_seizuresIfLent (n := 0) hc ok p4 c5 (by omega)) sh0 cv_X6_217 ⟨by decide, by decide, rfl, rfl⟩ (Nat.le_of_ble_eq_true rfl) dX6_more_28 rfl rfl ?_
      rw [l0]
      refine z_istore_n 32 [_, _, _, _, _, _] dX6_more_31 (by decide) rfl rfl rfl ?_
      refine z_aload_n 33 dX6_more_32 rfl rfl ?_
      refine y_getr 36 _ sh0 rfl fl_X6_10 dX6_more_33 rfl ?_
      refine y_getr 39 _ (bk0 bkm1) rfl fl_X6_131 dX6_more_36 rfl ?_
      refine z_iload_n 40 dX6_more_39 rfl rfl ?_
      refine k_ld 41 _ (by first | exact hc | exact hc8) (bk3 bkm1) rfl (by omega) (by decide) dX6_more_40 rfl ?_
      refine z_bipush 43 dX6_more_41 vb99 rfl ?_
      refine z_aload_n 44 dX6_more_43 rfl rfl ?_
      refine y_getr 47 _ sh0 rfl fl_X6_10 dX6_more_44 rfl ?_
      refine y_getr 50 _ (bk0 bkm1) rfl fl_X6_156 dX6_more_47 rfl ?_
      refine z_iload_n 51 dX6_more_50 rfl rfl ?_
      refine z_iconst 52 dX6_more_51 vi5 rfl ?_
      refine z_imulN 53 rfl (show (5 : Int32) = nI 5 from rfl) dX6_more_52 rfl ?_
      refine z_iload_n 54 dX6_more_53 rfl rfl ?_
      refine z_iaddN 55 rfl rfl dX6_more_54 rfl ?_
      refine k_ld 56 _ (by first | exact hc | exact hc8) (bk6 bkm1) rfl (by omega) (by decide) dX6_more_55 rfl ?_
      rw [e0]
      refine z_isubN 57 (show (99 : Int32) = nI 99 from rfl) rfl b9 dX6_more_56 rfl ?_
      refine y_mn 60 kl_X6_220 (by decide) (Nat.le_of_ble_eq_true rfl) dX6_more_57 rfl ?_
      rw [zmin rfl rfl (by omega) (by omega)]
      refine z_istore 62 [_, _, _, _, _, _] dX6_more_60 (by decide) rfl rfl rfl ?_
      refine z_iload 64 dX6_more_62 rfl rfl ?_
      refine z_istore 66 [_, _, _, _, _, _] dX6_more_64 (by decide) rfl rfl rfl ?_
      suffices main : ∀ k, k ≤ 99 - N (33 + 5 * p' + c') → ∀ R u, vMore N (nI p') (nI c') = nI (mostG (moreB N p' c') k) → Y G X mX6_more (sp σ 8 R) 66 [some (.ref (zGa G 0)), some (.int (nI p')), some (.int (nI c')), some (.int (nI (sz (nrm N) p' 10))), some (.int u), some (.int (nI k))] [] by exact main _ (by omega) _ _ val
      intro k
      induction k with
      | zero =>
        intro _ R u hv
        refine z_iload 68 dX6_more_66 rfl rfl ?_
        refine z_if_le_t 92 dX6_more_68 rfl (by decide) ?_
        refine z_iconst 93 dX6_more_92 vi0 rfl ?_
        refine z_iret hq rfl dX6_more_93 rfl rfl ?_
        exact ⟨_, ⟨by rw [hv]; rfl, same_sp8 same.rf⟩, rfl⟩
      | succ k ih =>
        intro hk R u hv
        have sk := szb (k + 1) (by omega)
        refine z_iload 68 dX6_more_66 rfl rfl ?_
        refine z_if_le_f 71 92 dX6_more_68 rfl (fun q => absurd ((nI_leI (b := 0) (by omega) (by decide)).mp q) (by omega)) rfl ?_
        refine z_aload_n 72 dX6_more_71 rfl rfl ?_
        refine z_iload_n 73 dX6_more_72 rfl rfl ?_
        refine z_iload_n 74 dX6_more_73 rfl rfl ?_
        refine z_iload 76 dX6_more_74 rfl rfl ?_
        refine y_cVs 79 _ (c_seizuresIfLent hc8 ok p4 c5 (by omega)) sh0 cv_X6_217 ⟨by decide, by decide, rfl, rfl⟩ (Nat.le_of_ble_eq_true rfl) dX6_more_76 rfl rfl ?_
        rw [sp_sp]
        refine z_iload_n 80 dX6_more_79 rfl rfl ?_
        refine z_icmp_gt 86 83 dX6_more_80 rfl rfl (fun h80 => ?_) (fun h80 => ?_)
        · skip
          have hb : ¬ moreB N p' c' (k + 1) = true := by
              have q := (nI_ltI (by omega) (by omega)).mp h80
              simp only [moreB, decide_eq_true_eq]; omega
          rw [mostG, if_neg hb] at hv
          refine z_iinc 89 [_, _, _, _, _, _] dX6_more_86 rfl (show _ + Int32.ofInt (-1) = _ + (-1) from congrArg _ vim1) (by decide) rfl rfl rfl ?_
          rw [pk_m1]
          refine z_goto 66 dX6_more_89 rfl ?_
          exact ih (by omega) _ _ hv
        · skip
          have hb : moreB N p' c' (k + 1) = true := by
              rcases Nat.lt_or_ge (sz (nrm N) p' 10) (sz (lentQ N p' c' (k + 1)) p' 10) with q | q
              · exact absurd (nI_lt q (by omega)) h80
              · exact decide_eq_true q
          rw [mostG, if_pos hb] at hv
          refine z_iload 85 dX6_more_83 rfl rfl ?_
          refine z_iret hq rfl dX6_more_85 rfl rfl ?_
          exact ⟨_, ⟨by rw [hv], same_sp8 same.rf⟩, rfl⟩
    · have no := no (fun h => hi h.2)
      refine z_aload_n 1 dX6_more_0 rfl rfl ?_
      refine y_getr 4 _ sh0 rfl fl_X6_10 dX6_more_1 rfl ?_
      refine z_iload_n 5 dX6_more_4 rfl rfl ?_
      refine y_cVs 8 _ (n_hasOne bkm1 hc ok) (bk0 bkm1) cv_X6_141 ⟨by decide, by decide, rfl, rfl⟩ (Nat.le_of_ble_eq_true rfl) dX6_more_5 rfl rfl ?_
      refine z_if_eq_f 11 22 dX6_more_8 rfl (by rw [bi_t hp]; decide) rfl ?_
      refine z_aload_n 12 dX6_more_11 rfl rfl ?_
      refine y_getr 15 _ sh0 rfl fl_X6_10 dX6_more_12 rfl ?_
      refine z_iload_n 16 dX6_more_15 rfl rfl ?_
      refine y_cVs 19 _ (n_hasColour bkm1 hc ok) (bk0 bkm1) cv_X6_121 ⟨by decide, by decide, rfl, rfl⟩ (Nat.le_of_ble_eq_true rfl) dX6_more_16 rfl rfl ?_
      refine z_if_ne_f 22 24 dX6_more_19 rfl (bi_f hi) rfl ?_
      refine z_iconst 23 dX6_more_22 vim1 rfl ?_
      refine z_iret hq rfl dX6_more_23 rfl rfl ?_
      exact ⟨_, no, rfl⟩
  · have no := no (fun h => hp h.1)
    refine z_aload_n 1 dX6_more_0 rfl rfl ?_
    refine y_getr 4 _ sh0 rfl fl_X6_10 dX6_more_1 rfl ?_
    refine z_iload_n 5 dX6_more_4 rfl rfl ?_
    refine y_cVs 8 _ (n_hasOne bkm1 hc ok) (bk0 bkm1) cv_X6_141 ⟨by decide, by decide, rfl, rfl⟩ (Nat.le_of_ble_eq_true rfl) dX6_more_5 rfl rfl ?_
    refine z_if_eq_t 22 dX6_more_8 rfl (bi_f hp) ?_
    refine z_iconst 23 dX6_more_22 vim1 rfl ?_
    refine z_iret hq rfl dX6_more_23 rfl rfl ?_
    exact ⟨_, no, rfl⟩

