/-! ===== numbers, stops, names: the class ===== -/
theorem bR_ne {α β : Type} {x : β} : ¬ bi (isR (Sum.inr x : Sum α β) = true) = 0 := by
  show ¬ (1 : Int32) = 0
  decide
def numF (tn : Nat) (B : Nat → Nat) (a most : Nat) : Sum (Nat × Nat) Tk := match tokF tn B a with
  | .inl q => .inl q
  | .inr (so, s, e) => if so = 2 then (if vlN B s (e - s) ≤ most then .inr (vlN B s (e - s), s, e) else .inl (3, s)) else .inl (2, s)
def stopF (tn : Nat) (B : Nat → Nat) (a : Nat) : Sum (Nat × Nat) Nat := match tokF tn B a with
  | .inl q => .inl q
  | .inr (so, s, e) => if so = 3 then .inr e else .inl (2, s)
def aNum (τ' : Nat → Int32) (r : Sum (Nat × Nat) Tk) : Prop := match r with
  | .inl (c, s) => τ' (400 * 19 + 2) = nI c ∧ τ' (400 * 19 + 3) = nI s
  | .inr (v, s, e) => τ' (400 * 19 + 2) = 0 ∧ τ' (400 * 19 + 10) = nI v ∧ τ' (400 * 19 + 9) = nI s ∧ τ' (400 * 19 + 7) = nI e
def aStop (τ' : Nat → Int32) (r : Sum (Nat × Nat) Nat) : Prop := match r with
  | .inl (c, s) => τ' (400 * 19 + 2) = nI c ∧ τ' (400 * 19 + 3) = nI s
  | .inr e => τ' (400 * 19 + 2) = 0 ∧ τ' (400 * 19 + 7) = nI e
def offK8 (τ' τ : Nat → Int32) : Prop := ∀ a, a ≠ 7602 → a ≠ 7603 → a ≠ 7607 → a ≠ 7608 → a ≠ 7609 → a ≠ 7610 → τ' a = τ a
theorem offK7.k8 {τ τ' : Nat → Int32} (h : offK7 τ' τ) : offK8 τ' τ := fun a h1 h2 h3 h4 h5 _ => h a h1 h2 h3 h4 h5
theorem offK8.tr {τ τ' τ'' : Nat → Int32} (h : offK8 τ'' τ') (h2 : offK8 τ' τ) : offK8 τ'' τ := fun a h1 h3 h4 h5 h6 h7 => (h a h1 h3 h4 h5 h6 h7).trans (h2 a h1 h3 h4 h5 h6 h7)
theorem hTa.off8 {τ τ' : Nat → Int32} {tn : Nat} {B : Nat → Nat} (h : hTa τ tn B) (ho : offK8 τ' τ) : hTa τ' tn B := ⟨(ho _ (by omega) (by omega) (by omega) (by omega) (by omega) (by omega)).trans h.1, fun i hi => (ho _ (by omega) (by omega) (by omega) (by omega) (by omega) (by omega)).trans (h.2 i hi)⟩
theorem vl_le {B : Nat → Nat} {s : Nat} : ∀ k, (∀ i, s ≤ i → i < s + k → 48 ≤ B i ∧ B i ≤ 57) → vlN B s k < 10 ^ k
  | 0, _ => by rw [vlN]; decide
  | k + 1, h => by
    have h1 := vl_le k (fun i a b => h i a (by omega))
    have h2 := h (s + k) (by omega) (by omega)
    rw [vlN, Nat.pow_succ]; omega
theorem numF_ok {tn : Nat} {B : Nat → Nat} {a most v s e : Nat} (ha : a ≤ tn) (h : numF tn B a most = .inr (v, s, e)) : a ≤ s ∧ s ≤ tn ∧ a < e ∧ e ≤ tn ∧ v ≤ most ∧ v < 100 := by
  rw [numF] at h
  cases hk : tokF tn B a with
  | inl q => rw [hk] at h; cases h
  | inr q =>
    obtain ⟨so, s', e'⟩ := q
    rw [hk] at h
    have hk2 := tokF_ok ha hk
    simp only at h
    split at h
    · rename_i q1
      have h3 := hk2.2.2.2.2.2.1 q1
      have h4 : vlN B s' (e' - s') < 10 ^ (e' - s') := vl_le (e' - s') (fun i a b => h3.2.2 i a (by omega))
      have h5 : 10 ^ (e' - s') ≤ 10 ^ 2 := Nat.pow_le_pow_right (by decide) h3.2.1
      split at h
      · rename_i q2
        have hh := Sum.inr.inj h
        simp only [Prod.mk.injEq] at hh
        have h6 := hk2.2.2.2.2.1 (by omega)
        omega
      · cases h
    · cases h
theorem numF_l {tn : Nat} {B : Nat → Nat} {a most c s : Nat} (ha : a ≤ tn) (h : numF tn B a most = .inl (c, s)) : 1 ≤ c ∧ c ≤ 3 ∧ s ≤ tn := by
  rw [numF] at h
  cases hk : tokF tn B a with
  | inl q =>
    obtain ⟨c', s'⟩ := q
    rw [hk] at h
    have hh := Sum.inl.inj h
    simp only [Prod.mk.injEq] at hh
    have := tokF_l ha hk
    omega
  | inr q =>
    obtain ⟨so, s', e'⟩ := q
    rw [hk] at h
    have hk2 := tokF_ok ha hk
    simp only at h
    split at h
    · split at h
      · cases h
      · have hh := Sum.inl.inj h
        simp only [Prod.mk.injEq] at hh
        omega
    · have hh := Sum.inl.inj h
      simp only [Prod.mk.injEq] at hh
      omega
theorem stopF_ok {tn : Nat} {B : Nat → Nat} {a e : Nat} (ha : a ≤ tn) (h : stopF tn B a = .inr e) : a < e ∧ e ≤ tn := by
  rw [stopF] at h
  cases hk : tokF tn B a with
  | inl q => rw [hk] at h; cases h
  | inr q =>
    obtain ⟨so, s', e'⟩ := q
    rw [hk] at h
    have hk2 := tokF_ok ha hk
    simp only at h
    split at h
    · have hh := Sum.inr.inj h
      have := hk2.2.2.2.2.1 (by omega)
      omega
    · cases h
theorem stopF_l {tn : Nat} {B : Nat → Nat} {a c s : Nat} (ha : a ≤ tn) (h : stopF tn B a = .inl (c, s)) : 1 ≤ c ∧ c ≤ 3 ∧ s ≤ tn := by
  rw [stopF] at h
  cases hk : tokF tn B a with
  | inl q =>
    obtain ⟨c', s'⟩ := q
    rw [hk] at h
    have hh := Sum.inl.inj h
    simp only [Prod.mk.injEq] at hh
    have := tokF_l ha hk
    omega
  | inr q =>
    obtain ⟨so, s', e'⟩ := q
    rw [hk] at h
    have hk2 := tokF_ok ha hk
    simp only at h
    split at h
    · cases h
    · have hh := Sum.inl.inj h
      simp only [Prod.mk.injEq] at hh
      omega
set_option maxRecDepth 100000 in
set_option maxHeartbeats 2000000 in
theorem c_readNumber {l : Launch} {G : zG} {τ : Nat → Int32} {tn a most : Nat} {B : Nat → Nat} (hT : hTa τ tn B) (ok : okT tn B) (ha : a ≤ tn) (hA : τ (400 * 19 + 7) = nI a) (hF : τ (400 * 19 + 2) = 0) (hm : most < 1000) : zMet l yX4_readNumber mX4_readNumber [.ref (zGa G 19), .int (nI most)] G (zW G τ) (zP G (fun v τ' => v = some (.int (bi (isR (numF tn B a most) = true))) ∧ aNum τ' (numF tn B a most) ∧ offK8 τ' τ)) := by
  have h6 := ok.1
  generalize hR : numF tn B a most = R
  rw [numF] at hR
  refine zMet.of (by decide) rfl (Nat.le_of_ble_eq_true rfl) (Or.inr rfl) fun X hX hq => ?_
  subst hX
  show Y G X mX4_readNumber τ 0 [some (.ref (zGa G 19)), some (.int (nI most)), none] []
  refine z_aload_n 1 dX4_readNumber_0 rfl rfl ?_
  refine y_cVP 4 _ (c_readToken hT ok ha hA hF) sh19 cv_X4_39 ⟨by decide, by decide, rfl, rfl⟩ (Nat.le_of_ble_eq_true rfl) dX4_readNumber_1 rfl rfl (fun v1 σ1 hp1 => ?_)
  obtain ⟨rfl, g1, g2⟩ := hp1
  show Y G X mX4_readNumber _ 4 _ [.int _]
  skip
  cases hk : tokF tn B a with
  | inl q =>
    obtain ⟨c, s⟩ := q
    rw [hk] at g1 hR
    refine z_if_ne_f 7 9 dX4_readNumber_4 rfl (rfl) rfl ?_
    refine z_iconst 8 dX4_readNumber_7 vi0 rfl ?_
    refine z_zret hq rfl rfl dX4_readNumber_8 rfl rfl ?_
    rw [← hR]
    exact ⟨_, ⟨rfl, g1, g2.k8⟩, rfl⟩
  | inr q =>
    obtain ⟨so, s, e⟩ := q
    rw [hk] at g1 hR
    obtain ⟨f0, f1, f2, f3⟩ := g1
    simp only at hR
    have hk2 := tokF_ok ha hk
    have hT1 := hT.off g2
    by_cases c1 : so = 2
    · rw [if_pos c1] at hR
      have h3 := hk2.2.2.2.2.2.1 c1
      have vl : ∀ k, k ≤ e - s → vlN B s k < 100 := fun k hk' => by
        have h4 := vl_le (B := B) (s := s) k (fun i a b => h3.2.2 i a (by omega))
        have h5 : 10 ^ k ≤ 10 ^ 2 := Nat.pow_le_pow_right (by decide) (by omega)
        omega
      refine z_if_ne_t 9 dX4_readNumber_4 rfl (bR_ne) ?_
      refine z_aload_n 10 dX4_readNumber_9 rfl rfl ?_
      refine y_get 13 _ sh19 rfl fl_X4_43 dX4_readNumber_10 rfl ?_
      rw [f1]
      refine z_iconst 14 dX4_readNumber_13 vi2 rfl ?_
      refine z_icmp_eq_t 27 dX4_readNumber_14 rfl (by rw [c1]; rfl) ?_
      refine z_aload_n 28 dX4_readNumber_27 rfl rfl ?_
      refine z_iconst 29 dX4_readNumber_28 vi0 rfl ?_
      refine y_putI 32 _ sh19 rfl fp_X4_91 dX4_readNumber_29 rfl ?_
      skip
      have g3 : upd σ1 (400 * 19 + 10) 0 (400 * 19 + 9) = nI s := (pk_un (by omega)).trans f2
      refine z_aload_n 33 dX4_readNumber_32 rfl rfl ?_
      refine y_get 36 _ sh19 rfl fl_X4_66 dX4_readNumber_33 rfl ?_
      rw [g3]
      refine z_istore_n 37 [_, _, _] dX4_readNumber_36 (by decide) rfl rfl rfl ?_
      refine zup (P := fun k => ∀ τ2, offK8 τ2 σ1 → τ2 (400 * 19 + 2) = 0 → τ2 (400 * 19 + 10) = nI (vlN B s k) → τ2 (400 * 19 + 9) = nI s → τ2 (400 * 19 + 7) = nI e → Y G X mX4_readNumber τ2 37 [some (.ref (zGa G 19)), some (.int (nI most)), some (.int (nI (s + k)))] []) (e - s) ?_ (fun k hk' ih => ?_) 0 (Nat.zero_le _) _ (fun a h1 h2 h3 h4 h5 h6 => pk_un h6) ((pk_un (by omega)).trans f0) pk_us g3 ((pk_un (by omega)).trans f3)
      · intro τ2 o1 o0 o2 o3 o4
        have hv := vl (e - s) (Nat.le_refl _)
        rw [show s + (e - s) = e by omega]
        by_cases c2 : vlN B s (e - s) ≤ most
        · rw [if_pos c2] at hR
          refine z_iload_n 38 dX4_readNumber_37 rfl rfl ?_
          refine z_aload_n 39 dX4_readNumber_38 rfl rfl ?_
          refine y_get 42 _ sh19 rfl fl_X4_36 dX4_readNumber_39 rfl ?_
          rw [o4]
          refine z_icmp_ge_t 72 dX4_readNumber_42 rfl (Int32.le_refl _) ?_
          refine z_aload_n 73 dX4_readNumber_72 rfl rfl ?_
          refine y_get 76 _ sh19 rfl fl_X4_91 dX4_readNumber_73 rfl ?_
          rw [o2]
          refine z_iload_n 77 dX4_readNumber_76 rfl rfl ?_
          refine z_icmp_le_t 92 dX4_readNumber_77 rfl (nI_le c2 (by omega)) ?_
          refine z_iconst 93 dX4_readNumber_92 vi1 rfl ?_
          refine z_goto 97 dX4_readNumber_93 rfl ?_
          refine z_zret hq rfl rfl dX4_readNumber_97 rfl rfl ?_
          rw [← hR]
          exact ⟨_, ⟨rfl, ⟨o0, o2, o3, o4⟩, o1.tr g2.k8⟩, rfl⟩
        · rw [if_neg c2] at hR
          refine z_iload_n 38 dX4_readNumber_37 rfl rfl ?_
          refine z_aload_n 39 dX4_readNumber_38 rfl rfl ?_
          refine y_get 42 _ sh19 rfl fl_X4_36 dX4_readNumber_39 rfl ?_
          rw [o4]
          refine z_icmp_ge_t 72 dX4_readNumber_42 rfl (Int32.le_refl _) ?_
          refine z_aload_n 73 dX4_readNumber_72 rfl rfl ?_
          refine y_get 76 _ sh19 rfl fl_X4_91 dX4_readNumber_73 rfl ?_
          rw [o2]
          refine z_iload_n 77 dX4_readNumber_76 rfl rfl ?_
          refine z_icmp_le_f 80 92 dX4_readNumber_77 rfl (nI_ge (by omega) (by omega)) rfl ?_
          refine z_aload_n 81 dX4_readNumber_80 rfl rfl ?_
          refine z_iconst 82 dX4_readNumber_81 vi3 rfl ?_
          refine z_aload_n 83 dX4_readNumber_82 rfl rfl ?_
          refine y_get 86 _ sh19 rfl fl_X4_66 dX4_readNumber_83 rfl ?_
          rw [o3]
          refine y_cVs 89 _ (c_refuse) sh19 cv_X4_55 ⟨by decide, by decide, rfl, rfl⟩ (Nat.le_of_ble_eq_true rfl) dX4_readNumber_86 rfl rfl ?_
          refine z_if_eq_t 96 dX4_readNumber_89 rfl (rfl) ?_
          refine z_iconst 97 dX4_readNumber_96 vi0 rfl ?_
          refine z_zret hq rfl rfl dX4_readNumber_97 rfl rfl ?_
          rw [← hR]
          exact ⟨_, ⟨rfl, ⟨by rw [pk_un (by omega), pk_us]; rfl, by rw [pk_us]⟩, fun a h1 h2 h3 h4 h5 h6 => by rw [pk_un h2, pk_un h1]; exact (o1.tr g2.k8) a h1 h2 h3 h4 h5 h6⟩, rfl⟩
      · intro τ2 o1 o0 o2 o3 o4
        have hT2 := (hT1.off8 o1)
        have hv := vl k (by omega)
        have hb := h3.2.2 (s + k) (by omega) (by omega)
        refine z_iload_n 38 dX4_readNumber_37 rfl rfl ?_
        refine z_aload_n 39 dX4_readNumber_38 rfl rfl ?_
        refine y_get 42 _ sh19 rfl fl_X4_36 dX4_readNumber_39 rfl ?_
        rw [o4]
        refine z_icmp_ge_f 45 72 dX4_readNumber_42 rfl (nI_ge (by omega) (by omega)) rfl ?_
        refine z_aload_n 46 dX4_readNumber_45 rfl rfl ?_
        refine z_bipush 48 dX4_readNumber_46 vb10 rfl ?_
        refine z_aload_n 49 dX4_readNumber_48 rfl rfl ?_
        refine y_get 52 _ sh19 rfl fl_X4_91 dX4_readNumber_49 rfl ?_
        rw [o2]
        refine z_imulN 53 (show (10 : Int32) = nI 10 from rfl) rfl dX4_readNumber_52 rfl ?_
        refine z_aload_n 54 dX4_readNumber_53 rfl rfl ?_
        refine y_getr 57 _ sh19 rfl fl_X4_9 dX4_readNumber_54 rfl ?_
        refine z_iload_n 58 dX4_readNumber_57 rfl rfl ?_
        refine y_ld 59 _ (s + k) sh20 rfl (by omega) (by omega) dX4_readNumber_58 rfl ?_
        rw [hT2.2 (s + k) (by omega)]
        refine z_iaddN 60 rfl rfl dX4_readNumber_59 rfl ?_
        refine z_bipush 62 dX4_readNumber_60 vb48 rfl ?_
        refine z_isubN 63 rfl (show (48 : Int32) = nI 48 from rfl) (show 48 ≤ 10 * vlN B s k + B (s + k) by omega) dX4_readNumber_62 rfl ?_
        refine y_putI 66 _ sh19 rfl fp_X4_91 dX4_readNumber_63 rfl ?_
        refine z_iinc 69 [_, _, _] dX4_readNumber_66 rfl (show _ + _ = nI (_ + 1) from nI_1 _) (by decide) rfl rfl rfl ?_
        refine z_goto 37 dX4_readNumber_69 rfl ?_
        exact ih _ (offK8.tr (fun a h1 h2 h3 h4 h5 h6 => pk_un h6) o1) ((pk_un (by omega)).trans o0) pk_us ((pk_un (by omega)).trans o3) ((pk_un (by omega)).trans o4)
    · rw [if_neg c1] at hR
      refine z_if_ne_t 9 dX4_readNumber_4 rfl (bR_ne) ?_
      refine z_aload_n 10 dX4_readNumber_9 rfl rfl ?_
      refine y_get 13 _ sh19 rfl fl_X4_43 dX4_readNumber_10 rfl ?_
      rw [f1]
      refine z_iconst 14 dX4_readNumber_13 vi2 rfl ?_
      refine z_icmp_eq_f 17 27 dX4_readNumber_14 rfl (fun q => c1 (nI_eqL (b := 2) (by omega) (by decide) q)) rfl ?_
      refine z_aload_n 18 dX4_readNumber_17 rfl rfl ?_
      refine z_iconst 19 dX4_readNumber_18 vi2 rfl ?_
      refine z_aload_n 20 dX4_readNumber_19 rfl rfl ?_
      refine y_get 23 _ sh19 rfl fl_X4_66 dX4_readNumber_20 rfl ?_
      rw [f2]
      refine y_cVs 26 _ (c_refuse) sh19 cv_X4_55 ⟨by decide, by decide, rfl, rfl⟩ (Nat.le_of_ble_eq_true rfl) dX4_readNumber_23 rfl rfl ?_
      refine z_zret hq rfl rfl dX4_readNumber_26 rfl rfl ?_
      rw [← hR]
      exact ⟨_, ⟨rfl, ⟨by rw [pk_un (by omega), pk_us]; rfl, by rw [pk_us]⟩, fun a h1 h2 h3 h4 h5 h6 => by rw [pk_un h2, pk_un h1]; exact g2 a h1 h2 h3 h4 h5⟩, rfl⟩
set_option maxRecDepth 100000 in
theorem c_readStop {l : Launch} {G : zG} {τ : Nat → Int32} {tn a : Nat} {B : Nat → Nat} (hT : hTa τ tn B) (ok : okT tn B) (ha : a ≤ tn) (hA : τ (400 * 19 + 7) = nI a) (hF : τ (400 * 19 + 2) = 0) : zMet l yX4_readStop mX4_readStop [.ref (zGa G 19)] G (zW G τ) (zP G (fun v τ' => v = some (.int (bi (isR (stopF tn B a) = true))) ∧ aStop τ' (stopF tn B a) ∧ offK8 τ' τ)) := by
  have h6 := ok.1
  generalize hR : stopF tn B a = R
  rw [stopF] at hR
  refine zMet.of (by decide) rfl (Nat.le_of_ble_eq_true rfl) (Or.inr rfl) fun X hX hq => ?_
  subst hX
  show Y G X mX4_readStop τ 0 [some (.ref (zGa G 19))] []
  refine z_aload_n 1 dX4_readStop_0 rfl rfl ?_
  refine y_cVP 4 _ (c_readToken hT ok ha hA hF) sh19 cv_X4_39 ⟨by decide, by decide, rfl, rfl⟩ (Nat.le_of_ble_eq_true rfl) dX4_readStop_1 rfl rfl (fun v1 σ1 hp1 => ?_)
  obtain ⟨rfl, g1, g2⟩ := hp1
  show Y G X mX4_readStop _ 4 _ [.int _]
  skip
  cases hk : tokF tn B a with
  | inl q =>
    obtain ⟨c, s⟩ := q
    rw [hk] at g1 hR
    refine z_if_eq_t 31 dX4_readStop_4 rfl (rfl) ?_
    refine z_iconst 32 dX4_readStop_31 vi0 rfl ?_
    refine z_zret hq rfl rfl dX4_readStop_32 rfl rfl ?_
    rw [← hR]
    exact ⟨_, ⟨rfl, g1, g2.k8⟩, rfl⟩
  | inr q =>
    obtain ⟨so, s, e⟩ := q
    rw [hk] at g1 hR
    obtain ⟨f0, f1, f2, f3⟩ := g1
    simp only at hR
    have hk2 := tokF_ok ha hk
    by_cases c1 : so = 3
    · rw [if_pos c1] at hR
      refine z_if_eq_f 7 31 dX4_readStop_4 rfl (bR_ne) rfl ?_
      refine z_aload_n 8 dX4_readStop_7 rfl rfl ?_
      refine y_get 11 _ sh19 rfl fl_X4_43 dX4_readStop_8 rfl ?_
      rw [f1]
      refine z_iconst 12 dX4_readStop_11 vi3 rfl ?_
      refine z_icmp_eq_t 27 dX4_readStop_12 rfl (by rw [c1]; rfl) ?_
      refine z_iconst 28 dX4_readStop_27 vi1 rfl ?_
      refine z_goto 32 dX4_readStop_28 rfl ?_
      refine z_zret hq rfl rfl dX4_readStop_32 rfl rfl ?_
      rw [← hR]
      exact ⟨_, ⟨rfl, ⟨f0, f3⟩, g2.k8⟩, rfl⟩
    · rw [if_neg c1] at hR
      refine z_if_eq_f 7 31 dX4_readStop_4 rfl (bR_ne) rfl ?_
      refine z_aload_n 8 dX4_readStop_7 rfl rfl ?_
      refine y_get 11 _ sh19 rfl fl_X4_43 dX4_readStop_8 rfl ?_
      rw [f1]
      refine z_iconst 12 dX4_readStop_11 vi3 rfl ?_
      refine z_icmp_eq_f 15 27 dX4_readStop_12 rfl (fun q => c1 (nI_eqL (b := 3) (by omega) (by decide) q)) rfl ?_
      refine z_aload_n 16 dX4_readStop_15 rfl rfl ?_
      refine z_iconst 17 dX4_readStop_16 vi2 rfl ?_
      refine z_aload_n 18 dX4_readStop_17 rfl rfl ?_
      refine y_get 21 _ sh19 rfl fl_X4_66 dX4_readStop_18 rfl ?_
      rw [f2]
      refine y_cVs 24 _ (c_refuse) sh19 cv_X4_55 ⟨by decide, by decide, rfl, rfl⟩ (Nat.le_of_ble_eq_true rfl) dX4_readStop_21 rfl rfl ?_
      refine z_if_eq_t 31 dX4_readStop_24 rfl (rfl) ?_
      refine z_iconst 32 dX4_readStop_31 vi0 rfl ?_
      refine z_zret hq rfl rfl dX4_readStop_32 rfl rfl ?_
      rw [← hR]
      exact ⟨_, ⟨rfl, ⟨by rw [pk_un (by omega), pk_us]; rfl, by rw [pk_us]⟩, fun a h1 h2 h3 h4 h5 h6 => by rw [pk_un h2, pk_un h1]; exact g2 a h1 h2 h3 h4 h5⟩, rfl⟩
abbrev nmP (B : Nat → Nat) (s e i : Nat) : Prop := e - s = zLen.getD i 0 ∧ ∀ j, j < zLen.getD i 0 → B (s + j) = nmC i j
set_option maxRecDepth 100000 in
theorem c_isName {l : Launch} {G : zG} {τ : Nat → Int32} {tn s e i : Nat} {B : Nat → Nat} (hT : hTa τ tn B) (ok : okT tn B) (hse : s ≤ e) (he : e ≤ tn) (hS : τ (400 * 19 + 9) = nI s) (hE : τ (400 * 19 + 7) = nI e) (hi : i < 6) : zMet l yX4_isName mX4_isName [.ref (zGa G 19), .ref (zGK G i)] G (zW G τ) (zFn G (some (.int (bi (nmP B s e i)))) τ) := by
  have h6 := ok.1
  have l8 := zLen_lt i hi
  refine zMet.of (by decide) rfl (Nat.le_of_ble_eq_true rfl) (Or.inr rfl) fun X hX hq => ?_
  subst hX
  show Y G X mX4_isName τ 0 [some (.ref (zGa G 19)), some (.ref (zGK G i)), none] []
  refine z_aload_n 1 dX4_isName_0 rfl rfl ?_
  refine y_cT 4 i hi (c_length hi) ct_length ⟨by decide, by decide, rfl, rfl⟩ (Nat.le_of_ble_eq_true rfl) dX4_isName_1 rfl rfl ?_
  by_cases h1 : e - s = zLen.getD i 0
  · skip
    refine z_aload_n 5 dX4_isName_4 rfl rfl ?_
    refine y_get 8 _ sh19 rfl fl_X4_36 dX4_isName_5 rfl ?_
    rw [hE]
    refine z_aload_n 9 dX4_isName_8 rfl rfl ?_
    refine y_get 12 _ sh19 rfl fl_X4_66 dX4_isName_9 rfl ?_
    rw [hS]
    refine z_isubN 13 rfl rfl hse dX4_isName_12 rfl ?_
    refine z_icmp_eq_t 18 dX4_isName_13 rfl (by rw [h1]) ?_
    refine z_iconst 19 dX4_isName_18 vi0 rfl ?_
    refine z_istore_n 20 [_, _, _] dX4_isName_19 (by decide) rfl rfl rfl ?_
    refine zup (P := fun j => (∀ j', j' < j → B (s + j') = nmC i j') → Y G X mX4_isName τ 20 [some (.ref (zGa G 19)), some (.ref (zGK G i)), some (.int (nI j))] []) (zLen.getD i 0) ?_ (fun j hj ih => ?_) 0 (Nat.zero_le _) (fun j hj => by omega)
    · intro hj
      refine z_iload_n 21 dX4_isName_20 rfl rfl ?_
      refine z_aload_n 22 dX4_isName_21 rfl rfl ?_
      refine y_cT 25 i hi (c_length hi) ct_length ⟨by decide, by decide, rfl, rfl⟩ (Nat.le_of_ble_eq_true rfl) dX4_isName_22 rfl rfl ?_
      refine z_icmp_ge_t 55 dX4_isName_25 rfl (Int32.le_refl _) ?_
      refine z_iconst 56 dX4_isName_55 vi1 rfl ?_
      refine z_zret hq rfl rfl dX4_isName_56 rfl rfl ?_
      exact ⟨by rw [bi_t ⟨h1, hj⟩], rfl⟩
    · intro hp
      have hc := nmC_lt i hi j (by omega)
      have hb := ok.2 (s + j) (by omega)
      refine z_iload_n 21 dX4_isName_20 rfl rfl ?_
      refine z_aload_n 22 dX4_isName_21 rfl rfl ?_
      refine y_cT 25 i hi (c_length hi) ct_length ⟨by decide, by decide, rfl, rfl⟩ (Nat.le_of_ble_eq_true rfl) dX4_isName_22 rfl rfl ?_
      refine z_icmp_ge_f 28 55 dX4_isName_25 rfl (nI_ge hj (by omega)) rfl ?_
      refine z_aload_n 29 dX4_isName_28 rfl rfl ?_
      refine y_getr 32 _ sh19 rfl fl_X4_9 dX4_isName_29 rfl ?_
      refine z_aload_n 33 dX4_isName_32 rfl rfl ?_
      refine y_get 36 _ sh19 rfl fl_X4_66 dX4_isName_33 rfl ?_
      rw [hS]
      refine z_iload_n 37 dX4_isName_36 rfl rfl ?_
      refine z_iaddN 38 rfl rfl dX4_isName_37 rfl ?_
      refine y_ld 39 _ (s + j) sh20 rfl (by omega) (by omega) dX4_isName_38 rfl ?_
      rw [hT.2 (s + j) (by omega)]
      refine z_aload_n 40 dX4_isName_39 rfl rfl ?_
      refine z_iload_n 41 dX4_isName_40 rfl rfl ?_
      refine y_cT 44 i hi (c_charAt hi hj) ct_charAt ⟨by decide, by decide, rfl, rfl⟩ (Nat.le_of_ble_eq_true rfl) dX4_isName_41 rfl rfl ?_
      refine z_icmp_eq 49 47 dX4_isName_44 rfl rfl (fun h44 => ?_) (fun h44 => ?_)
      · skip
        have q := nI_eqL (by omega) (by omega) h44
        refine z_iinc 52 [_, _, _] dX4_isName_49 rfl (show _ + _ = nI (_ + 1) from nI_1 _) (by decide) rfl rfl rfl ?_
        refine z_goto 20 dX4_isName_52 rfl ?_
        exact ih (fun j' hj' => by
            by_cases z : j' = j
            · rw [z]; exact q
            · exact hp j' (by omega))
      · skip
        have q : ¬ B (s + j) = nmC i j := fun z => h44 (by rw [z])
        refine z_iconst 48 dX4_isName_47 vi0 rfl ?_
        refine z_zret hq rfl rfl dX4_isName_48 rfl rfl ?_
        exact ⟨by rw [bi_f (fun z => q (z.2 j hj))], rfl⟩
  · skip
    refine z_aload_n 5 dX4_isName_4 rfl rfl ?_
    refine y_get 8 _ sh19 rfl fl_X4_36 dX4_isName_5 rfl ?_
    rw [hE]
    refine z_aload_n 9 dX4_isName_8 rfl rfl ?_
    refine y_get 12 _ sh19 rfl fl_X4_66 dX4_isName_9 rfl ?_
    rw [hS]
    refine z_isubN 13 rfl rfl hse dX4_isName_12 rfl ?_
    refine z_icmp_eq_f 16 18 dX4_isName_13 rfl (fun q => h1 (nI_eqL (by omega) (by omega) q).symm) rfl ?_
    refine z_iconst 17 dX4_isName_16 vi0 rfl ?_
    refine z_zret hq rfl rfl dX4_isName_17 rfl rfl ?_
    exact ⟨by rw [bi_f (fun z => h1 z.1)], rfl⟩
/-- the first name that it is, of 0 to 5; 6: of none -/
def frK (B : Nat → Nat) (s e : Nat) : Nat → Nat → Nat
  | 0, _ => 6
  | f + 1, i => if nmP B s e i then i else frK B s e f (i + 1)
theorem frK_le {B : Nat → Nat} {s e : Nat} : ∀ f i, f + i ≤ 6 → frK B s e f i ≤ 6
  | 0, _, _ => Nat.le_refl _
  | f + 1, i, h => by
    rw [frK]; split
    · omega
    · exact frK_le f (i + 1) (by omega)
def lnV (k : Nat) : Int32 := if k = 6 then -1 else nI k
set_option maxRecDepth 100000 in
theorem c_lineOfName {l : Launch} {G : zG} {τ : Nat → Int32} {tn s e : Nat} {B : Nat → Nat} (hT : hTa τ tn B) (ok : okT tn B) (hse : s ≤ e) (he : e ≤ tn) (hS : τ (400 * 19 + 9) = nI s) (hE : τ (400 * 19 + 7) = nI e) : zMet l yX4_lineOfName mX4_lineOfName [.ref (zGa G 19)] G (zW G τ) (zFn G (some (.int (lnV (frK B s e 6 0)))) τ) := by
  have e0 : frK B s e 6 0 = if nmP B s e 0 then 0 else frK B s e 5 1 := rfl
  have e1 : frK B s e 5 1 = if nmP B s e 1 then 1 else frK B s e 4 2 := rfl
  have e2 : frK B s e 4 2 = if nmP B s e 2 then 2 else frK B s e 3 3 := rfl
  have e3 : frK B s e 3 3 = if nmP B s e 3 then 3 else frK B s e 2 4 := rfl
  have e4 : frK B s e 2 4 = if nmP B s e 4 then 4 else frK B s e 1 5 := rfl
  have e5 : frK B s e 1 5 = if nmP B s e 5 then 5 else 6 := rfl
  refine zMet.of (by decide) rfl (Nat.le_of_ble_eq_true rfl) (Or.inr rfl) fun X hX hq => ?_
  subst hX
  show Y G X mX4_lineOfName τ 0 [some (.ref (zGa G 19))] []
  refine z_aload_n 1 dX4_lineOfName_0 rfl rfl ?_
  refine z_ldcS 3 0 (by decide) rfl dX4_lineOfName_1 rfl ?_
  refine y_cVs 6 _ (c_isName hT ok hse he hS hE (show 0 < 6 by decide)) sh19 cv_X4_131 ⟨by decide, by decide, rfl, rfl⟩ (Nat.le_of_ble_eq_true rfl) dX4_lineOfName_3 rfl rfl ?_
  by_cases q0 : nmP B s e 0
  · skip
    refine z_if_eq_f 9 11 dX4_lineOfName_6 rfl (by rw [bi_t q0]; decide) rfl ?_
    refine z_iconst 10 dX4_lineOfName_9 vi0 rfl ?_
    refine z_iret hq rfl dX4_lineOfName_10 rfl rfl ?_
    exact ⟨by rw [e0, if_pos q0]; rfl, rfl⟩
  refine z_if_eq_t 11 dX4_lineOfName_6 rfl (bi_f q0) ?_
  refine z_aload_n 12 dX4_lineOfName_11 rfl rfl ?_
  refine z_ldcS 14 1 (by decide) rfl dX4_lineOfName_12 rfl ?_
  refine y_cVs 17 _ (c_isName hT ok hse he hS hE (show 1 < 6 by decide)) sh19 cv_X4_131 ⟨by decide, by decide, rfl, rfl⟩ (Nat.le_of_ble_eq_true rfl) dX4_lineOfName_14 rfl rfl ?_
  by_cases q1 : nmP B s e 1
  · skip
    refine z_if_eq_f 20 22 dX4_lineOfName_17 rfl (by rw [bi_t q1]; decide) rfl ?_
    refine z_iconst 21 dX4_lineOfName_20 vi1 rfl ?_
    refine z_iret hq rfl dX4_lineOfName_21 rfl rfl ?_
    exact ⟨by rw [e0, if_neg q0, e1, if_pos q1]; rfl, rfl⟩
  refine z_if_eq_t 22 dX4_lineOfName_17 rfl (bi_f q1) ?_
  refine z_aload_n 23 dX4_lineOfName_22 rfl rfl ?_
  refine z_ldcS 25 2 (by decide) rfl dX4_lineOfName_23 rfl ?_
  refine y_cVs 28 _ (c_isName hT ok hse he hS hE (show 2 < 6 by decide)) sh19 cv_X4_131 ⟨by decide, by decide, rfl, rfl⟩ (Nat.le_of_ble_eq_true rfl) dX4_lineOfName_25 rfl rfl ?_
  by_cases q2 : nmP B s e 2
  · skip
    refine z_if_eq_f 31 33 dX4_lineOfName_28 rfl (by rw [bi_t q2]; decide) rfl ?_
    refine z_iconst 32 dX4_lineOfName_31 vi2 rfl ?_
    refine z_iret hq rfl dX4_lineOfName_32 rfl rfl ?_
    exact ⟨by rw [e0, if_neg q0, e1, if_neg q1, e2, if_pos q2]; rfl, rfl⟩
  refine z_if_eq_t 33 dX4_lineOfName_28 rfl (bi_f q2) ?_
  refine z_aload_n 34 dX4_lineOfName_33 rfl rfl ?_
  refine z_ldcS 36 3 (by decide) rfl dX4_lineOfName_34 rfl ?_
  refine y_cVs 39 _ (c_isName hT ok hse he hS hE (show 3 < 6 by decide)) sh19 cv_X4_131 ⟨by decide, by decide, rfl, rfl⟩ (Nat.le_of_ble_eq_true rfl) dX4_lineOfName_36 rfl rfl ?_
  by_cases q3 : nmP B s e 3
  · skip
    refine z_if_eq_f 42 44 dX4_lineOfName_39 rfl (by rw [bi_t q3]; decide) rfl ?_
    refine z_iconst 43 dX4_lineOfName_42 vi3 rfl ?_
    refine z_iret hq rfl dX4_lineOfName_43 rfl rfl ?_
    exact ⟨by rw [e0, if_neg q0, e1, if_neg q1, e2, if_neg q2, e3, if_pos q3]; rfl, rfl⟩
  refine z_if_eq_t 44 dX4_lineOfName_39 rfl (bi_f q3) ?_
  refine z_aload_n 45 dX4_lineOfName_44 rfl rfl ?_
  refine z_ldcS 47 4 (by decide) rfl dX4_lineOfName_45 rfl ?_
  refine y_cVs 50 _ (c_isName hT ok hse he hS hE (show 4 < 6 by decide)) sh19 cv_X4_131 ⟨by decide, by decide, rfl, rfl⟩ (Nat.le_of_ble_eq_true rfl) dX4_lineOfName_47 rfl rfl ?_
  by_cases q4 : nmP B s e 4
  · skip
    refine z_if_eq_f 53 55 dX4_lineOfName_50 rfl (by rw [bi_t q4]; decide) rfl ?_
    refine z_iconst 54 dX4_lineOfName_53 vi4 rfl ?_
    refine z_iret hq rfl dX4_lineOfName_54 rfl rfl ?_
    exact ⟨by rw [e0, if_neg q0, e1, if_neg q1, e2, if_neg q2, e3, if_neg q3, e4, if_pos q4]; rfl, rfl⟩
  refine z_if_eq_t 55 dX4_lineOfName_50 rfl (bi_f q4) ?_
  refine z_aload_n 56 dX4_lineOfName_55 rfl rfl ?_
  refine z_ldcS 58 5 (by decide) rfl dX4_lineOfName_56 rfl ?_
  refine y_cVs 61 _ (c_isName hT ok hse he hS hE (show 5 < 6 by decide)) sh19 cv_X4_131 ⟨by decide, by decide, rfl, rfl⟩ (Nat.le_of_ble_eq_true rfl) dX4_lineOfName_58 rfl rfl ?_
  by_cases q5 : nmP B s e 5
  · skip
    refine z_if_eq_f 64 68 dX4_lineOfName_61 rfl (by rw [bi_t q5]; decide) rfl ?_
    refine z_iconst 65 dX4_lineOfName_64 vi5 rfl ?_
    refine z_goto 69 dX4_lineOfName_65 rfl ?_
    refine z_iret hq rfl dX4_lineOfName_69 rfl rfl ?_
    exact ⟨by rw [e0, if_neg q0, e1, if_neg q1, e2, if_neg q2, e3, if_neg q3, e4, if_neg q4, e5, if_pos q5]; rfl, rfl⟩
  refine z_if_eq_t 68 dX4_lineOfName_61 rfl (bi_f q5) ?_
  refine z_iconst 69 dX4_lineOfName_68 vim1 rfl ?_
  refine z_iret hq rfl dX4_lineOfName_69 rfl rfl ?_
  exact ⟨by rw [e0, if_neg q0, e1, if_neg q1, e2, if_neg q2, e3, if_neg q3, e4, if_neg q4, e5, if_neg q5]; rfl, rfl⟩

