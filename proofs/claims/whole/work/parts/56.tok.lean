/-! ===== the text: what its tokens are ===== -/
/-- the first place from a on whose byte isn't from lo to hi, or the end -/
def rn (tn : Nat) (B : Nat → Nat) (lo hi : Nat) : Nat → Nat → Nat
  | 0, a => a
  | f + 1, a => if a < tn ∧ lo ≤ B a ∧ B a ≤ hi then rn tn B lo hi f (a + 1) else a
def rnA (tn : Nat) (B : Nat → Nat) (lo hi a : Nat) : Nat := rn tn B lo hi (tn - a) a
theorem rnA_t {tn : Nat} {B : Nat → Nat} {lo hi a : Nat} (h : a < tn ∧ lo ≤ B a ∧ B a ≤ hi) : rnA tn B lo hi a = rnA tn B lo hi (a + 1) := by
  rw [rnA, rnA, show tn - a = (tn - (a + 1)) + 1 by omega, rn, if_pos h]
theorem rnA_f {tn : Nat} {B : Nat → Nat} {lo hi a : Nat} (h : ¬ (a < tn ∧ lo ≤ B a ∧ B a ≤ hi)) : rnA tn B lo hi a = a := by
  rw [rnA]
  cases hf : tn - a with
  | zero => rfl
  | succ f => rw [rn, if_neg h]
theorem rnA_ge {tn : Nat} {B : Nat → Nat} {lo hi : Nat} : ∀ d a, tn - a ≤ d → a ≤ rnA tn B lo hi a ∧ (a ≤ tn → rnA tn B lo hi a ≤ tn)
  | 0, a, h => by rw [rnA_f (by omega)]; exact ⟨Nat.le_refl _, id⟩
  | d + 1, a, h => by
    by_cases q : a < tn ∧ lo ≤ B a ∧ B a ≤ hi
    · have := rnA_ge (tn := tn) (lo := lo) (hi := hi) (B := B) d (a + 1) (by omega)
      rw [rnA_t q]; omega
    · rw [rnA_f q]; exact ⟨Nat.le_refl _, id⟩
theorem rnA_le {tn : Nat} {B : Nat → Nat} {lo hi a : Nat} (h : a ≤ tn) : a ≤ rnA tn B lo hi a ∧ rnA tn B lo hi a ≤ tn := ⟨(rnA_ge _ a (Nat.le_refl _)).1, (rnA_ge _ a (Nat.le_refl _)).2 h⟩
/-- all bytes on the way are from lo to hi -/
theorem rnA_in {tn : Nat} {B : Nat → Nat} {lo hi : Nat} : ∀ d a, tn - a ≤ d → ∀ i, a ≤ i → i < rnA tn B lo hi a → i < tn ∧ lo ≤ B i ∧ B i ≤ hi
  | 0, a, h, i, h1, h2 => by rw [rnA_f (by omega)] at h2; omega
  | d + 1, a, h, i, h1, h2 => by
    by_cases q : a < tn ∧ lo ≤ B a ∧ B a ≤ hi
    · rw [rnA_t q] at h2
      by_cases e : i = a
      · rw [e]; exact q
      · exact rnA_in d (a + 1) (by omega) i (by omega) h2
    · rw [rnA_f q] at h2; omega
abbrev Tk : Type := Nat × Nat × Nat
/-- the token from a on: its sort (0 end, 1 name, 2 number, 3 stop), start and end; or a fault -/
def tokF (tn : Nat) (B : Nat → Nat) (a : Nat) : Sum (Nat × Nat) Tk :=
  if tn ≤ rnA tn B 32 32 a then .inr (0, rnA tn B 32 32 a, rnA tn B 32 32 a)
  else if B (rnA tn B 32 32 a) = 59 then .inr (3, rnA tn B 32 32 a, rnA tn B 32 32 a + 1)
  else if 97 ≤ B (rnA tn B 32 32 a) ∧ B (rnA tn B 32 32 a) ≤ 122 then .inr (1, rnA tn B 32 32 a, rnA tn B 97 122 (rnA tn B 32 32 a))
  else if 1 ≤ rnA tn B 48 57 (rnA tn B 32 32 a) - rnA tn B 32 32 a ∧ rnA tn B 48 57 (rnA tn B 32 32 a) - rnA tn B 32 32 a ≤ 2 then .inr (2, rnA tn B 32 32 a, rnA tn B 48 57 (rnA tn B 32 32 a))
  else .inl (1, rnA tn B 32 32 a)
theorem tokF_ok {tn : Nat} {B : Nat → Nat} {a so s e : Nat} (ha : a ≤ tn) (h : tokF tn B a = .inr (so, s, e)) : a ≤ s ∧ s ≤ e ∧ e ≤ tn ∧ so ≤ 3 ∧ (so ≠ 0 → a < e) ∧ (so = 2 → 1 ≤ e - s ∧ e - s ≤ 2 ∧ ∀ i, s ≤ i → i < e → 48 ≤ B i ∧ B i ≤ 57) ∧ (so = 0 → s = tn) := by
  have h1 := rnA_le (B := B) (lo := 32) (hi := 32) ha
  rw [tokF] at h
  generalize rnA tn B 32 32 a = r at h h1
  split at h
  · cases h; refine ⟨h1.1, Nat.le_refl _, h1.2, by omega, by omega, by omega, by omega⟩
  rename_i q1
  split at h
  · cases h; refine ⟨h1.1, by omega, by omega, by omega, by omega, by omega, by omega⟩
  split at h
  · rename_i q3
    cases h
    have h2 := rnA_le (B := B) (lo := 97) (hi := 122) h1.2
    have h3 := rnA_le (B := B) (lo := 97) (hi := 122) (a := s + 1) (tn := tn) (by omega)
    rw [rnA_t ⟨by omega, q3.1, q3.2⟩] at h2 ⊢
    refine ⟨h1.1, by omega, by omega, by omega, by omega, by omega, by omega⟩
  split at h
  · rename_i q4
    cases h
    have h2 := rnA_le (B := B) (lo := 48) (hi := 57) h1.2
    refine ⟨h1.1, by omega, by omega, by omega, by omega, fun _ => ⟨q4.1, q4.2, fun i hi1 hi2 => ?_⟩, by omega⟩
    have := rnA_in (tn := tn) (B := B) (lo := 48) (hi := 57) _ s (Nat.le_refl _) i hi1 hi2
    exact ⟨this.2.1, this.2.2⟩
  · cases h
theorem tokF_l {tn : Nat} {B : Nat → Nat} {a c s : Nat} (ha : a ≤ tn) (h : tokF tn B a = .inl (c, s)) : c = 1 ∧ s ≤ tn := by
  have h1 := rnA_le (B := B) (lo := 32) (hi := 32) ha
  rw [tokF] at h
  generalize rnA tn B 32 32 a = r at h h1
  split at h
  · cases h
  split at h
  · cases h
  split at h
  · cases h
  split at h
  · cases h
  · cases h; exact ⟨rfl, h1.2⟩
/-- the number that so many bytes tell -/
def vlN (B : Nat → Nat) (s : Nat) : Nat → Nat
  | 0 => 0
  | k + 1 => 10 * vlN B s k + B (s + k) - 48
/-- the class's tape -/
def hTa (τ : Nat → Int32) (tn : Nat) (B : Nat → Nat) : Prop := τ (400 * 19 + 1) = nI tn ∧ ∀ i, i < tn → τ (400 * 20 + 0 + i) = nI (B i)
def okT (tn : Nat) (B : Nat → Nat) : Prop := tn ≤ 160 ∧ ∀ i, i < tn → B i ≤ 127
def offK7 (τ' τ : Nat → Int32) : Prop := ∀ a, a ≠ 7602 → a ≠ 7603 → a ≠ 7607 → a ≠ 7608 → a ≠ 7609 → τ' a = τ a
theorem offK7.rf {τ : Nat → Int32} : offK7 τ τ := fun _ _ _ _ _ _ => rfl
theorem offK7.tr {τ τ' τ'' : Nat → Int32} (h : offK7 τ'' τ') (h2 : offK7 τ' τ) : offK7 τ'' τ := fun a h1 h3 h4 h5 h6 => (h a h1 h3 h4 h5 h6).trans (h2 a h1 h3 h4 h5 h6)
theorem hTa.off {τ τ' : Nat → Int32} {tn : Nat} {B : Nat → Nat} (h : hTa τ tn B) (ho : offK7 τ' τ) : hTa τ' tn B := ⟨(ho _ (by omega) (by omega) (by omega) (by omega) (by omega)).trans h.1, fun i hi => (ho _ (by omega) (by omega) (by omega) (by omega) (by omega)).trans (h.2 i hi)⟩
set_option maxRecDepth 100000 in
theorem c_refuse {l : Launch} {G : zG} {τ : Nat → Int32} {c s : Int32} : zMet l yX4_refuse mX4_refuse [.ref (zGa G 19), .int c, .int s] G (zW G τ) (zFn G (some (.int 0)) (upd (upd τ (400 * 19 + 2) c) (400 * 19 + 3) s)) := by
  refine zMet.of (by decide) rfl (Nat.le_of_ble_eq_true rfl) (Or.inr rfl) fun X hX hq => ?_
  subst hX
  show Y G X mX4_refuse τ 0 [some (.ref (zGa G 19)), some (.int c), some (.int s)] []
  refine z_aload_n 1 dX4_refuse_0 rfl rfl ?_
  refine z_iload_n 2 dX4_refuse_1 rfl rfl ?_
  refine y_putI 5 _ sh19 rfl fp_X4_29 dX4_refuse_2 rfl ?_
  refine z_aload_n 6 dX4_refuse_5 rfl rfl ?_
  refine z_iload_n 7 dX4_refuse_6 rfl rfl ?_
  refine y_putI 10 _ sh19 rfl fp_X4_59 dX4_refuse_7 rfl ?_
  refine z_iconst 11 dX4_refuse_10 vi0 rfl ?_
  refine z_zret hq rfl rfl dX4_refuse_11 rfl rfl ?_
  exact ⟨rfl, rfl⟩
set_option maxRecDepth 100000 in
theorem c_behind {l : Launch} {G : zG} {τ : Nat → Int32} {tn s lo hi : Nat} {B : Nat → Nat} (hT : hTa τ tn B) (ok : okT tn B) (hs : s ≤ tn) (hS : τ (400 * 19 + 9) = nI s) (hlo : lo < 1000) (hhi : hi < 1000) : zMet l yX4_behind mX4_behind [.ref (zGa G 19), .int (nI lo), .int (nI hi)] G (zW G τ) (zFn G (some (.int (nI (rnA tn B lo hi s)))) τ) := by
  have h6 := ok.1
  refine zMet.of (by decide) rfl (Nat.le_of_ble_eq_true rfl) (Or.inr rfl) fun X hX hq => ?_
  subst hX
  show Y G X mX4_behind τ 0 [some (.ref (zGa G 19)), some (.int (nI lo)), some (.int (nI hi)), none] []
  have key : ∀ d a, tn - a ≤ d → a ≤ tn → rnA tn B lo hi a = rnA tn B lo hi s → Y G X mX4_behind τ 5 [some (.ref (zGa G 19)), some (.int (nI lo)), some (.int (nI hi)), some (.int (nI a))] [] := by
    intro d
    induction d with
    | zero =>
      intro a hd ha e
      rw [rnA_f (by omega)] at e
      refine z_iload_n 6 dX4_behind_5 rfl rfl ?_
      refine z_aload_n 7 dX4_behind_6 rfl rfl ?_
      refine y_get 10 _ sh19 rfl fl_X4_52 dX4_behind_7 rfl ?_
      rw [hT.1]
      refine z_icmp_ge_t 39 dX4_behind_10 rfl (nI_le (by omega) (by omega)) ?_
      refine z_iload_n 40 dX4_behind_39 rfl rfl ?_
      refine z_iret hq rfl dX4_behind_40 rfl rfl ?_
      exact ⟨by rw [e], rfl⟩
    | succ d ih =>
      intro a hd ha e
      by_cases h1 : a < tn
      · have hb := ok.2 a h1
        by_cases h2 : lo ≤ B a
        · by_cases h3 : B a ≤ hi
          · rw [rnA_t ⟨h1, h2, h3⟩] at e
            refine z_iload_n 6 dX4_behind_5 rfl rfl ?_
            refine z_aload_n 7 dX4_behind_6 rfl rfl ?_
            refine y_get 10 _ sh19 rfl fl_X4_52 dX4_behind_7 rfl ?_
            rw [hT.1]
            refine z_icmp_ge_f 13 39 dX4_behind_10 rfl (nI_ge h1 (by omega)) rfl ?_
            refine z_aload_n 14 dX4_behind_13 rfl rfl ?_
            refine y_getr 17 _ sh19 rfl fl_X4_9 dX4_behind_14 rfl ?_
            refine z_iload_n 18 dX4_behind_17 rfl rfl ?_
            refine y_ld 19 _ a sh20 rfl (by omega) (by omega) dX4_behind_18 rfl ?_
            rw [hT.2 a h1]
            refine z_iload_n 20 dX4_behind_19 rfl rfl ?_
            refine z_icmp_lt_f 23 39 dX4_behind_20 rfl (nI_nlt h2 (by omega)) rfl ?_
            refine z_aload_n 24 dX4_behind_23 rfl rfl ?_
            refine y_getr 27 _ sh19 rfl fl_X4_9 dX4_behind_24 rfl ?_
            refine z_iload_n 28 dX4_behind_27 rfl rfl ?_
            refine y_ld 29 _ a sh20 rfl (by omega) (by omega) dX4_behind_28 rfl ?_
            rw [hT.2 a h1]
            refine z_iload_n 30 dX4_behind_29 rfl rfl ?_
            refine z_icmp_gt_f 33 39 dX4_behind_30 rfl (nI_nlt h3 (by omega)) rfl ?_
            refine z_iinc 36 [_, _, _, _] dX4_behind_33 rfl (show _ + _ = nI (_ + 1) from nI_1 _) (by decide) rfl rfl rfl ?_
            refine z_goto 5 dX4_behind_36 rfl ?_
            exact ih (a + 1) (by omega) (by omega) e
          · rw [rnA_f (by omega)] at e
            refine z_iload_n 6 dX4_behind_5 rfl rfl ?_
            refine z_aload_n 7 dX4_behind_6 rfl rfl ?_
            refine y_get 10 _ sh19 rfl fl_X4_52 dX4_behind_7 rfl ?_
            rw [hT.1]
            refine z_icmp_ge_f 13 39 dX4_behind_10 rfl (nI_ge h1 (by omega)) rfl ?_
            refine z_aload_n 14 dX4_behind_13 rfl rfl ?_
            refine y_getr 17 _ sh19 rfl fl_X4_9 dX4_behind_14 rfl ?_
            refine z_iload_n 18 dX4_behind_17 rfl rfl ?_
            refine y_ld 19 _ a sh20 rfl (by omega) (by omega) dX4_behind_18 rfl ?_
            rw [hT.2 a h1]
            refine z_iload_n 20 dX4_behind_19 rfl rfl ?_
            refine z_icmp_lt_f 23 39 dX4_behind_20 rfl (nI_nlt h2 (by omega)) rfl ?_
            refine z_aload_n 24 dX4_behind_23 rfl rfl ?_
            refine y_getr 27 _ sh19 rfl fl_X4_9 dX4_behind_24 rfl ?_
            refine z_iload_n 28 dX4_behind_27 rfl rfl ?_
            refine y_ld 29 _ a sh20 rfl (by omega) (by omega) dX4_behind_28 rfl ?_
            rw [hT.2 a h1]
            refine z_iload_n 30 dX4_behind_29 rfl rfl ?_
            refine z_icmp_gt_t 39 dX4_behind_30 rfl (nI_lt (by omega) (by omega)) ?_
            refine z_iload_n 40 dX4_behind_39 rfl rfl ?_
            refine z_iret hq rfl dX4_behind_40 rfl rfl ?_
            exact ⟨by rw [e], rfl⟩
        · rw [rnA_f (by omega)] at e
          refine z_iload_n 6 dX4_behind_5 rfl rfl ?_
          refine z_aload_n 7 dX4_behind_6 rfl rfl ?_
          refine y_get 10 _ sh19 rfl fl_X4_52 dX4_behind_7 rfl ?_
          rw [hT.1]
          refine z_icmp_ge_f 13 39 dX4_behind_10 rfl (nI_ge h1 (by omega)) rfl ?_
          refine z_aload_n 14 dX4_behind_13 rfl rfl ?_
          refine y_getr 17 _ sh19 rfl fl_X4_9 dX4_behind_14 rfl ?_
          refine z_iload_n 18 dX4_behind_17 rfl rfl ?_
          refine y_ld 19 _ a sh20 rfl (by omega) (by omega) dX4_behind_18 rfl ?_
          rw [hT.2 a h1]
          refine z_iload_n 20 dX4_behind_19 rfl rfl ?_
          refine z_icmp_lt_t 39 dX4_behind_20 rfl (nI_lt (by omega) (by omega)) ?_
          refine z_iload_n 40 dX4_behind_39 rfl rfl ?_
          refine z_iret hq rfl dX4_behind_40 rfl rfl ?_
          exact ⟨by rw [e], rfl⟩
      · rw [rnA_f (by omega)] at e
        refine z_iload_n 6 dX4_behind_5 rfl rfl ?_
        refine z_aload_n 7 dX4_behind_6 rfl rfl ?_
        refine y_get 10 _ sh19 rfl fl_X4_52 dX4_behind_7 rfl ?_
        rw [hT.1]
        refine z_icmp_ge_t 39 dX4_behind_10 rfl (nI_le (by omega) (by omega)) ?_
        refine z_iload_n 40 dX4_behind_39 rfl rfl ?_
        refine z_iret hq rfl dX4_behind_40 rfl rfl ?_
        exact ⟨by rw [e], rfl⟩
  refine z_aload_n 1 dX4_behind_0 rfl rfl ?_
  refine y_get 4 _ sh19 rfl fl_X4_66 dX4_behind_1 rfl ?_
  rw [hS]
  refine z_istore_n 5 [_, _, _, _] dX4_behind_4 (by decide) rfl rfl rfl ?_
  exact key (tn - s) s (Nat.le_refl _) hs rfl
/-- what a token leaves in the class's tape -/
def aTok (τ' : Nat → Int32) (r : Sum (Nat × Nat) Tk) : Prop := match r with
  | .inl (c, s) => τ' (400 * 19 + 2) = nI c ∧ τ' (400 * 19 + 3) = nI s
  | .inr (so, s, e) => τ' (400 * 19 + 2) = 0 ∧ τ' (400 * 19 + 8) = nI so ∧ τ' (400 * 19 + 9) = nI s ∧ τ' (400 * 19 + 7) = nI e
def isR {α β : Type} (r : Sum α β) : Bool := match r with
  | .inl _ => false
  | .inr _ => true
theorem nI_in12 {a b : Nat} (h : a ≤ b) (hb : b < 1000) : ((1 : Int32) ≤ nI b - nI a ∧ nI b - nI a ≤ 2) ↔ (1 ≤ b - a ∧ b - a ≤ 2) := by
  rw [pk_sub h]
  have e1 : (1 : Int32) ≤ nI (b - a) ↔ 1 ≤ b - a := nI_leI (a := 1) (by decide) (by omega)
  have e2 : nI (b - a) ≤ 2 ↔ b - a ≤ 2 := nI_leI (b := 2) (by omega) (by decide)
  rw [e1, e2]
set_option maxRecDepth 100000 in
set_option maxHeartbeats 2000000 in
theorem c_readToken {l : Launch} {G : zG} {τ : Nat → Int32} {tn a : Nat} {B : Nat → Nat} (hT : hTa τ tn B) (ok : okT tn B) (ha : a ≤ tn) (hA : τ (400 * 19 + 7) = nI a) (hF : τ (400 * 19 + 2) = 0) : zMet l yX4_readToken mX4_readToken [.ref (zGa G 19)] G (zW G τ) (zP G (fun v τ' => v = some (.int (bi (isR (tokF tn B a) = true))) ∧ aTok τ' (tokF tn B a) ∧ offK7 τ' τ)) := by
  have h6 := ok.1
  have hr := rnA_le (B := B) (lo := 32) (hi := 32) ha
  generalize hR : tokF tn B a = R
  rw [tokF] at hR
  refine zMet.of (by decide) rfl (Nat.le_of_ble_eq_true rfl) (Or.inr rfl) fun X hX hq => ?_
  subst hX
  show Y G X mX4_readToken τ 0 [some (.ref (zGa G 19))] []
  suffices behindSp : ∀ τ1, offK7 τ1 τ → τ1 (400 * 19 + 7) = nI (rnA tn B 32 32 a) → τ1 (400 * 19 + 2) = 0 → ¬ (rnA tn B 32 32 a < tn ∧ 32 ≤ B (rnA tn B 32 32 a) ∧ B (rnA tn B 32 32 a) ≤ 32) → Y G X mX4_readToken τ1 38 [some (.ref (zGa G 19))] [] by
    have key : ∀ d x, tn - x ≤ d → x ≤ tn → rnA tn B 32 32 x = rnA tn B 32 32 a → ∀ τ1, offK7 τ1 τ → τ1 (400 * 19 + 7) = nI x → τ1 (400 * 19 + 2) = 0 → Y G X mX4_readToken τ1 0 [some (.ref (zGa G 19))] [] := by
      intro d
      induction d with
      | zero =>
        intro x hd hx e τ1 o1 o2 o3
        have hT1 := hT.off o1
        have nq : ¬ (x < tn ∧ 32 ≤ B x ∧ B x ≤ 32) := by omega
        have bs := behindSp τ1 o1
        rw [← e, rnA_f nq] at bs
        refine z_aload_n 1 dX4_readToken_0 rfl rfl ?_
        refine y_get 4 _ sh19 rfl fl_X4_36 dX4_readToken_1 rfl ?_
        rw [o2]
        refine z_aload_n 5 dX4_readToken_4 rfl rfl ?_
        refine y_get 8 _ sh19 rfl fl_X4_52 dX4_readToken_5 rfl ?_
        rw [hT1.1]
        refine z_icmp_ge_t 38 dX4_readToken_8 rfl (nI_le (by omega) (by omega)) ?_
        exact bs o2 o3 nq
      | succ d ih =>
        intro x hd hx e τ1 o1 o2 o3
        have hT1 := hT.off o1
        by_cases h1 : x < tn
        · have hb := ok.2 x h1
          by_cases h2 : B x = 32
          · rw [rnA_t ⟨h1, by omega, by omega⟩] at e
            refine z_aload_n 1 dX4_readToken_0 rfl rfl ?_
            refine y_get 4 _ sh19 rfl fl_X4_36 dX4_readToken_1 rfl ?_
            rw [o2]
            refine z_aload_n 5 dX4_readToken_4 rfl rfl ?_
            refine y_get 8 _ sh19 rfl fl_X4_52 dX4_readToken_5 rfl ?_
            rw [hT1.1]
            refine z_icmp_ge_f 11 38 dX4_readToken_8 rfl (nI_ge h1 (by omega)) rfl ?_
            refine z_aload_n 12 dX4_readToken_11 rfl rfl ?_
            refine y_getr 15 _ sh19 rfl fl_X4_9 dX4_readToken_12 rfl ?_
            refine z_aload_n 16 dX4_readToken_15 rfl rfl ?_
            refine y_get 19 _ sh19 rfl fl_X4_36 dX4_readToken_16 rfl ?_
            rw [o2]
            refine y_ld 20 _ x sh20 rfl (by omega) (by omega) dX4_readToken_19 rfl ?_
            rw [hT1.2 x h1]
            refine z_bipush 22 dX4_readToken_20 vb32 rfl ?_
            refine z_icmp_ne_f 25 38 dX4_readToken_22 rfl (by rw [h2]; rfl) rfl ?_
            refine z_aload_n 26 dX4_readToken_25 rfl rfl ?_
            refine z_dup 27 dX4_readToken_26 rfl rfl ?_
            refine y_get 30 _ sh19 rfl fl_X4_36 dX4_readToken_27 rfl ?_
            rw [o2]
            refine z_iconst 31 dX4_readToken_30 vi1 rfl ?_
            refine z_iaddN 32 rfl (show (1 : Int32) = nI 1 from rfl) dX4_readToken_31 rfl ?_
            refine y_putI 35 _ sh19 rfl fp_X4_36 dX4_readToken_32 rfl ?_
            refine z_goto 0 dX4_readToken_35 rfl ?_
            exact ih (x + 1) (by omega) (by omega) e _ (offK7.tr (fun a h1 h3 h4 h5 h6 => pk_un (by omega)) o1) pk_us ((pk_un (by omega)).trans o3)
          · have nq : ¬ (x < tn ∧ 32 ≤ B x ∧ B x ≤ 32) := by omega
            have bs := behindSp τ1 o1
            rw [← e, rnA_f nq] at bs
            refine z_aload_n 1 dX4_readToken_0 rfl rfl ?_
            refine y_get 4 _ sh19 rfl fl_X4_36 dX4_readToken_1 rfl ?_
            rw [o2]
            refine z_aload_n 5 dX4_readToken_4 rfl rfl ?_
            refine y_get 8 _ sh19 rfl fl_X4_52 dX4_readToken_5 rfl ?_
            rw [hT1.1]
            refine z_icmp_ge_f 11 38 dX4_readToken_8 rfl (nI_ge h1 (by omega)) rfl ?_
            refine z_aload_n 12 dX4_readToken_11 rfl rfl ?_
            refine y_getr 15 _ sh19 rfl fl_X4_9 dX4_readToken_12 rfl ?_
            refine z_aload_n 16 dX4_readToken_15 rfl rfl ?_
            refine y_get 19 _ sh19 rfl fl_X4_36 dX4_readToken_16 rfl ?_
            rw [o2]
            refine y_ld 20 _ x sh20 rfl (by omega) (by omega) dX4_readToken_19 rfl ?_
            rw [hT1.2 x h1]
            refine z_bipush 22 dX4_readToken_20 vb32 rfl ?_
            refine z_icmp_ne_t 38 dX4_readToken_22 rfl (fun q => h2 (nI_eqL (b := 32) (by omega) (by decide) q)) ?_
            exact bs o2 o3 nq
        · have nq : ¬ (x < tn ∧ 32 ≤ B x ∧ B x ≤ 32) := by omega
          have bs := behindSp τ1 o1
          rw [← e, rnA_f nq] at bs
          refine z_aload_n 1 dX4_readToken_0 rfl rfl ?_
          refine y_get 4 _ sh19 rfl fl_X4_36 dX4_readToken_1 rfl ?_
          rw [o2]
          refine z_aload_n 5 dX4_readToken_4 rfl rfl ?_
          refine y_get 8 _ sh19 rfl fl_X4_52 dX4_readToken_5 rfl ?_
          rw [hT1.1]
          refine z_icmp_ge_t 38 dX4_readToken_8 rfl (nI_le (by omega) (by omega)) ?_
          exact bs o2 o3 nq
    exact key (tn - a) a (Nat.le_refl _) ha rfl τ offK7.rf hA hF
  intro τ1 o1 o2 o3 nq
  have hT1 := hT.off o1
  generalize rnA tn B 32 32 a = r at hR hr o2 nq
  have u1 : upd τ1 (400 * 19 + 9) (nI r) (400 * 19 + 7) = nI r := (pk_un (by omega)).trans o2
  have u2 : upd τ1 (400 * 19 + 9) (nI r) (400 * 19 + 1) = nI tn := (pk_un (by omega)).trans hT1.1
  have u3 : ∀ i, i < tn → upd τ1 (400 * 19 + 9) (nI r) (400 * 20 + 0 + i) = nI (B i) := fun i hi => (pk_un (by omega)).trans (hT1.2 i hi)
  by_cases c1 : tn ≤ r
  · rw [if_pos c1] at hR
    refine z_aload_n 39 dX4_readToken_38 rfl rfl ?_
    refine z_aload_n 40 dX4_readToken_39 rfl rfl ?_
    refine y_get 43 _ sh19 rfl fl_X4_36 dX4_readToken_40 rfl ?_
    rw [o2]
    refine y_putI 46 _ sh19 rfl fp_X4_66 dX4_readToken_43 rfl ?_
    refine z_aload_n 47 dX4_readToken_46 rfl rfl ?_
    refine y_get 50 _ sh19 rfl fl_X4_36 dX4_readToken_47 rfl ?_
    rw [u1]
    refine z_aload_n 51 dX4_readToken_50 rfl rfl ?_
    refine y_get 54 _ sh19 rfl fl_X4_52 dX4_readToken_51 rfl ?_
    rw [u2]
    refine z_icmp_lt_f 57 64 dX4_readToken_54 rfl (nI_nlt c1 (by omega)) rfl ?_
    refine z_aload_n 58 dX4_readToken_57 rfl rfl ?_
    refine z_iconst 59 dX4_readToken_58 vi0 rfl ?_
    refine y_putI 62 _ sh19 rfl fp_X4_43 dX4_readToken_59 rfl ?_
    refine z_iconst 63 dX4_readToken_62 vi1 rfl ?_
    refine z_zret hq rfl rfl dX4_readToken_63 rfl rfl ?_
    rw [← hR]
    exact ⟨_, ⟨rfl, ⟨by rw [pk_un (by omega), pk_un (by omega)]; exact o3, by rw [pk_us]; rfl, by rw [pk_un (by omega), pk_us], by rw [pk_un (by omega)]; exact u1⟩, fun a h1 h2 h3 h4 h5 => by rw [pk_un h4, pk_un h5]; exact o1 a h1 h2 h3 h4 h5⟩, rfl⟩
  rw [if_neg c1] at hR
  have hb := ok.2 r (by omega)
  by_cases c2 : B r = 59
  · rw [if_pos c2] at hR
    have u4 : upd (upd τ1 (400 * 19 + 9) (nI r)) (400 * 19 + 8) 3 (400 * 19 + 7) = nI r := (pk_un (by omega)).trans u1
    refine z_aload_n 39 dX4_readToken_38 rfl rfl ?_
    refine z_aload_n 40 dX4_readToken_39 rfl rfl ?_
    refine y_get 43 _ sh19 rfl fl_X4_36 dX4_readToken_40 rfl ?_
    rw [o2]
    refine y_putI 46 _ sh19 rfl fp_X4_66 dX4_readToken_43 rfl ?_
    refine z_aload_n 47 dX4_readToken_46 rfl rfl ?_
    refine y_get 50 _ sh19 rfl fl_X4_36 dX4_readToken_47 rfl ?_
    rw [u1]
    refine z_aload_n 51 dX4_readToken_50 rfl rfl ?_
    refine y_get 54 _ sh19 rfl fl_X4_52 dX4_readToken_51 rfl ?_
    rw [u2]
    refine z_icmp_lt_t 64 dX4_readToken_54 rfl (nI_lt (by omega) (by omega)) ?_
    refine z_aload_n 65 dX4_readToken_64 rfl rfl ?_
    refine y_getr 68 _ sh19 rfl fl_X4_9 dX4_readToken_65 rfl ?_
    refine z_aload_n 69 dX4_readToken_68 rfl rfl ?_
    refine y_get 72 _ sh19 rfl fl_X4_36 dX4_readToken_69 rfl ?_
    rw [u1]
    refine y_ld 73 _ r sh20 rfl (by omega) (by omega) dX4_readToken_72 rfl ?_
    rw [u3 r (by omega)]
    refine z_bipush 75 dX4_readToken_73 vb59 rfl ?_
    refine z_icmp_ne_f 78 95 dX4_readToken_75 rfl (by rw [c2]; rfl) rfl ?_
    refine z_aload_n 79 dX4_readToken_78 rfl rfl ?_
    refine z_iconst 80 dX4_readToken_79 vi3 rfl ?_
    refine y_putI 83 _ sh19 rfl fp_X4_43 dX4_readToken_80 rfl ?_
    refine z_aload_n 84 dX4_readToken_83 rfl rfl ?_
    refine z_dup 85 dX4_readToken_84 rfl rfl ?_
    refine y_get 88 _ sh19 rfl fl_X4_36 dX4_readToken_85 rfl ?_
    rw [u4]
    refine z_iconst 89 dX4_readToken_88 vi1 rfl ?_
    refine z_iaddN 90 rfl (show (1 : Int32) = nI 1 from rfl) dX4_readToken_89 rfl ?_
    refine y_putI 93 _ sh19 rfl fp_X4_36 dX4_readToken_90 rfl ?_
    refine z_iconst 94 dX4_readToken_93 vi1 rfl ?_
    refine z_zret hq rfl rfl dX4_readToken_94 rfl rfl ?_
    rw [← hR]
    exact ⟨_, ⟨rfl, ⟨by rw [pk_un (by omega), pk_un (by omega), pk_un (by omega)]; exact o3, by rw [pk_un (by omega), pk_us]; rfl, by rw [pk_un (by omega), pk_un (by omega), pk_us], by rw [pk_us]⟩, fun a h1 h2 h3 h4 h5 => by rw [pk_un h3, pk_un h4, pk_un h5]; exact o1 a h1 h2 h3 h4 h5⟩, rfl⟩
  rw [if_neg c2] at hR
  have bw : bi ((97 : Int32) ≤ nI (B r) ∧ nI (B r) ≤ 122) = bi (97 ≤ B r ∧ B r ≤ 122) := bi_cg (by rw [show (97 : Int32) ≤ nI (B r) ↔ 97 ≤ B r from nI_leI (a := 97) (by decide) (by omega), show nI (B r) ≤ 122 ↔ B r ≤ 122 from nI_leI (b := 122) (by omega) (by decide)])
  have hT2 : ∀ x, hTa (upd (upd τ1 (400 * 19 + 9) (nI r)) (400 * 19 + 8) x) tn B := fun x => ⟨(pk_un (by omega)).trans u2, fun i hi => (pk_un (by omega)).trans (u3 i hi)⟩
  have hS2 : ∀ x, upd (upd τ1 (400 * 19 + 9) (nI r)) (400 * 19 + 8) x (400 * 19 + 9) = nI r := fun x => (pk_un (by omega)).trans pk_us
  by_cases c3 : 97 ≤ B r ∧ B r ≤ 122
  · rw [if_pos c3] at hR
    have cb := c_behind (l := zXl X) (G := G) (lo := 97) (hi := 122) (hT2 1) ok hr.2 (hS2 1) (by decide) (by decide)
    refine z_aload_n 39 dX4_readToken_38 rfl rfl ?_
    refine z_aload_n 40 dX4_readToken_39 rfl rfl ?_
    refine y_get 43 _ sh19 rfl fl_X4_36 dX4_readToken_40 rfl ?_
    rw [o2]
    refine y_putI 46 _ sh19 rfl fp_X4_66 dX4_readToken_43 rfl ?_
    refine z_aload_n 47 dX4_readToken_46 rfl rfl ?_
    refine y_get 50 _ sh19 rfl fl_X4_36 dX4_readToken_47 rfl ?_
    rw [u1]
    refine z_aload_n 51 dX4_readToken_50 rfl rfl ?_
    refine y_get 54 _ sh19 rfl fl_X4_52 dX4_readToken_51 rfl ?_
    rw [u2]
    refine z_icmp_lt_t 64 dX4_readToken_54 rfl (nI_lt (by omega) (by omega)) ?_
    refine z_aload_n 65 dX4_readToken_64 rfl rfl ?_
    refine y_getr 68 _ sh19 rfl fl_X4_9 dX4_readToken_65 rfl ?_
    refine z_aload_n 69 dX4_readToken_68 rfl rfl ?_
    refine y_get 72 _ sh19 rfl fl_X4_36 dX4_readToken_69 rfl ?_
    rw [u1]
    refine y_ld 73 _ r sh20 rfl (by omega) (by omega) dX4_readToken_72 rfl ?_
    rw [u3 r (by omega)]
    refine z_bipush 75 dX4_readToken_73 vb59 rfl ?_
    refine z_icmp_ne_t 95 dX4_readToken_75 rfl (fun q => c2 (nI_eqL (b := 59) (by omega) (by decide) q)) ?_
    refine z_aload_n 96 dX4_readToken_95 rfl rfl ?_
    refine y_getr 99 _ sh19 rfl fl_X4_9 dX4_readToken_96 rfl ?_
    refine z_aload_n 100 dX4_readToken_99 rfl rfl ?_
    refine y_get 103 _ sh19 rfl fl_X4_36 dX4_readToken_100 rfl ?_
    rw [u1]
    refine y_ld 104 _ r sh20 rfl (by omega) (by omega) dX4_readToken_103 rfl ?_
    rw [u3 r (by omega)]
    refine z_bipush 106 dX4_readToken_104 vb97 rfl ?_
    refine z_bipush 108 dX4_readToken_106 vb122 rfl ?_
    refine y_cNs 111 (c_within) cn_X4_121 ⟨by decide, by decide, rfl, rfl⟩ (Nat.le_of_ble_eq_true rfl) dX4_readToken_108 rfl rfl ?_
    rw [bw]
    refine z_if_eq_f 114 133 dX4_readToken_111 rfl (by rw [bi_t c3]; decide) rfl ?_
    refine z_aload_n 115 dX4_readToken_114 rfl rfl ?_
    refine z_iconst 116 dX4_readToken_115 vi1 rfl ?_
    refine y_putI 119 _ sh19 rfl fp_X4_43 dX4_readToken_116 rfl ?_
    refine z_aload_n 120 dX4_readToken_119 rfl rfl ?_
    refine z_aload_n 121 dX4_readToken_120 rfl rfl ?_
    refine z_bipush 123 dX4_readToken_121 vb97 rfl ?_
    refine z_bipush 125 dX4_readToken_123 vb122 rfl ?_
    refine y_cVs 128 _ (cb) sh19 cv_X4_125 ⟨by decide, by decide, rfl, rfl⟩ (Nat.le_of_ble_eq_true rfl) dX4_readToken_125 rfl rfl ?_
    refine y_putI 131 _ sh19 rfl fp_X4_36 dX4_readToken_128 rfl ?_
    refine z_iconst 132 dX4_readToken_131 vi1 rfl ?_
    refine z_zret hq rfl rfl dX4_readToken_132 rfl rfl ?_
    rw [← hR]
    exact ⟨_, ⟨rfl, ⟨by rw [pk_un (by omega), pk_un (by omega), pk_un (by omega)]; exact o3, by rw [pk_un (by omega), pk_us]; rfl, by rw [pk_un (by omega), pk_un (by omega), pk_us], by rw [pk_us]⟩, fun a h1 h2 h3 h4 h5 => by rw [pk_un h3, pk_un h4, pk_un h5]; exact o1 a h1 h2 h3 h4 h5⟩, rfl⟩
  rw [if_neg c3] at hR
  have cb := c_behind (l := zXl X) (G := G) (lo := 48) (hi := 57) (hT2 2) ok hr.2 (hS2 2) (by decide) (by decide)
  have he := rnA_le (B := B) (lo := 48) (hi := 57) hr.2
  generalize rnA tn B 48 57 r = e at hR cb he
  have u5 : upd (upd (upd τ1 (400 * 19 + 9) (nI r)) (400 * 19 + 8) 2) (400 * 19 + 7) (nI e) (400 * 19 + 9) = nI r := (pk_un (by omega)).trans (hS2 2)
  have be : bi ((1 : Int32) ≤ nI e - nI r ∧ nI e - nI r ≤ 2) = bi (1 ≤ e - r ∧ e - r ≤ 2) := bi_cg (nI_in12 he.1 (by omega))
  refine z_aload_n 39 dX4_readToken_38 rfl rfl ?_
  refine z_aload_n 40 dX4_readToken_39 rfl rfl ?_
  refine y_get 43 _ sh19 rfl fl_X4_36 dX4_readToken_40 rfl ?_
  rw [o2]
  refine y_putI 46 _ sh19 rfl fp_X4_66 dX4_readToken_43 rfl ?_
  refine z_aload_n 47 dX4_readToken_46 rfl rfl ?_
  refine y_get 50 _ sh19 rfl fl_X4_36 dX4_readToken_47 rfl ?_
  rw [u1]
  refine z_aload_n 51 dX4_readToken_50 rfl rfl ?_
  refine y_get 54 _ sh19 rfl fl_X4_52 dX4_readToken_51 rfl ?_
  rw [u2]
  refine z_icmp_lt_t 64 dX4_readToken_54 rfl (nI_lt (by omega) (by omega)) ?_
  refine z_aload_n 65 dX4_readToken_64 rfl rfl ?_
  refine y_getr 68 _ sh19 rfl fl_X4_9 dX4_readToken_65 rfl ?_
  refine z_aload_n 69 dX4_readToken_68 rfl rfl ?_
  refine y_get 72 _ sh19 rfl fl_X4_36 dX4_readToken_69 rfl ?_
  rw [u1]
  refine y_ld 73 _ r sh20 rfl (by omega) (by omega) dX4_readToken_72 rfl ?_
  rw [u3 r (by omega)]
  refine z_bipush 75 dX4_readToken_73 vb59 rfl ?_
  refine z_icmp_ne_t 95 dX4_readToken_75 rfl (fun q => c2 (nI_eqL (b := 59) (by omega) (by decide) q)) ?_
  refine z_aload_n 96 dX4_readToken_95 rfl rfl ?_
  refine y_getr 99 _ sh19 rfl fl_X4_9 dX4_readToken_96 rfl ?_
  refine z_aload_n 100 dX4_readToken_99 rfl rfl ?_
  refine y_get 103 _ sh19 rfl fl_X4_36 dX4_readToken_100 rfl ?_
  rw [u1]
  refine y_ld 104 _ r sh20 rfl (by omega) (by omega) dX4_readToken_103 rfl ?_
  rw [u3 r (by omega)]
  refine z_bipush 106 dX4_readToken_104 vb97 rfl ?_
  refine z_bipush 108 dX4_readToken_106 vb122 rfl ?_
  refine y_cNs 111 (c_within) cn_X4_121 ⟨by decide, by decide, rfl, rfl⟩ (Nat.le_of_ble_eq_true rfl) dX4_readToken_108 rfl rfl ?_
  rw [bw]
  refine z_if_eq_t 133 dX4_readToken_111 rfl (bi_f c3) ?_
  refine z_aload_n 134 dX4_readToken_133 rfl rfl ?_
  refine z_iconst 135 dX4_readToken_134 vi2 rfl ?_
  refine y_putI 138 _ sh19 rfl fp_X4_43 dX4_readToken_135 rfl ?_
  refine z_aload_n 139 dX4_readToken_138 rfl rfl ?_
  refine z_aload_n 140 dX4_readToken_139 rfl rfl ?_
  refine z_bipush 142 dX4_readToken_140 vb48 rfl ?_
  refine z_bipush 144 dX4_readToken_142 vb57 rfl ?_
  refine y_cVs 147 _ (cb) sh19 cv_X4_125 ⟨by decide, by decide, rfl, rfl⟩ (Nat.le_of_ble_eq_true rfl) dX4_readToken_144 rfl rfl ?_
  refine y_putI 150 _ sh19 rfl fp_X4_36 dX4_readToken_147 rfl ?_
  refine z_aload_n 151 dX4_readToken_150 rfl rfl ?_
  refine y_get 154 _ sh19 rfl fl_X4_36 dX4_readToken_151 rfl ?_
  rw [pk_us]
  refine z_aload_n 155 dX4_readToken_154 rfl rfl ?_
  refine y_get 158 _ sh19 rfl fl_X4_66 dX4_readToken_155 rfl ?_
  rw [u5]
  refine z_isub 159 dX4_readToken_158 rfl ?_
  refine z_iconst 160 dX4_readToken_159 vi1 rfl ?_
  refine z_iconst 161 dX4_readToken_160 vi2 rfl ?_
  refine y_cNs 164 (c_within) cn_X4_121 ⟨by decide, by decide, rfl, rfl⟩ (Nat.le_of_ble_eq_true rfl) dX4_readToken_161 rfl rfl ?_
  rw [be]
  refine z_if_ne 179 167 dX4_readToken_164 rfl rfl (fun h164 => ?_) (fun h164 => ?_)
  · skip
    have c4 := bin0.mp h164
    rw [if_pos c4] at hR
    refine z_iconst 180 dX4_readToken_179 vi1 rfl ?_
    refine z_goto 184 dX4_readToken_180 rfl ?_
    refine z_zret hq rfl rfl dX4_readToken_184 rfl rfl ?_
    rw [← hR]
    exact ⟨_, ⟨rfl, ⟨by rw [pk_un (by omega), pk_un (by omega), pk_un (by omega)]; exact o3, by rw [pk_un (by omega), pk_us]; rfl, u5, by rw [pk_us]⟩, fun a h1 h2 h3 h4 h5 => by rw [pk_un h3, pk_un h4, pk_un h5]; exact o1 a h1 h2 h3 h4 h5⟩, rfl⟩
  · skip
    have c4 := bi0.mp h164
    rw [if_neg c4] at hR
    refine z_aload_n 168 dX4_readToken_167 rfl rfl ?_
    refine z_iconst 169 dX4_readToken_168 vi1 rfl ?_
    refine z_aload_n 170 dX4_readToken_169 rfl rfl ?_
    refine y_get 173 _ sh19 rfl fl_X4_66 dX4_readToken_170 rfl ?_
    rw [u5]
    refine y_cVs 176 _ (c_refuse) sh19 cv_X4_55 ⟨by decide, by decide, rfl, rfl⟩ (Nat.le_of_ble_eq_true rfl) dX4_readToken_173 rfl rfl ?_
    refine z_if_eq_t 183 dX4_readToken_176 rfl (rfl) ?_
    refine z_iconst 184 dX4_readToken_183 vi0 rfl ?_
    refine z_zret hq rfl rfl dX4_readToken_184 rfl rfl ?_
    rw [← hR]
    exact ⟨_, ⟨rfl, ⟨by rw [pk_un (by omega), pk_us]; rfl, by rw [pk_us]⟩, fun a h1 h2 h3 h4 h5 => by rw [pk_un h2, pk_un h1, pk_un h3, pk_un h4, pk_un h5]; exact o1 a h1 h2 h3 h4 h5⟩, rfl⟩

