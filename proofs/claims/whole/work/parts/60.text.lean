/-! ===== the whole text: the class ===== -/
def Z0 : Pg := fun _ => 0
def linF (tn : Nat) (B : Nat → Nat) : Nat → Nat → Pg → Int32 → Nat → Sum (Nat × Nat) (Pg × Int32 × Nat)
  | 0, _, Q, T, n => .inr (Q, T, n)
  | f + 1, a, Q, T, n => match tokF tn B a with
    | .inl q => .inl q
    | .inr (so, s, e) => if so = 0 then .inr (Q, T, n) else match lineF tn B (lnK B so s e) s e Q T with
      | .inl q => .inl q
      | .inr (a', Q', T') => linF tn B f a' Q' T' (n + 1)
def nbC (Q : Pg) (T : Int32) (p : Nat) : Nat → Bool
  | 0 => false
  | c + 1 => nbC Q T p c || (decide (hb T (5 * p + c)) && !(decide (p < Q 57 ∧ c < Q 56)))
def nbP (Q : Pg) (T : Int32) : Nat → Bool
  | 0 => false
  | p + 1 => nbP Q T p || nbC Q T p 5
theorem nbC_t {Q : Pg} {T : Int32} {p c : Nat} (h : hb T (5 * p + c) ∧ ¬ (p < Q 57 ∧ c < Q 56)) : ∀ {m : Nat}, c < m → nbC Q T p m = true
  | 0, hc => by omega
  | m + 1, hc => by
    rw [nbC]
    by_cases e : c = m
    · subst e; rw [decide_eq_true h.1, decide_eq_false h.2]; simp
    · rw [nbC_t h (show c < m by omega), Bool.true_or]
theorem nbP_t {Q : Pg} {T : Int32} {p : Nat} (h : nbC Q T p 5 = true) : ∀ {m : Nat}, p < m → nbP Q T m = true
  | 0, hp => by omega
  | m + 1, hp => by
    rw [nbP]
    by_cases e : p = m
    · subst e; rw [h, Bool.or_true]
    · rw [nbP_t h (show p < m by omega), Bool.true_or]
theorem nbC_of {Q : Pg} {T : Int32} {p : Nat} : ∀ m, nbC Q T p m = true → ∃ c, c < m ∧ hb T (5 * p + c) ∧ ¬ (p < Q 57 ∧ c < Q 56)
  | 0, h => by cases h
  | m + 1, h => by
    rw [nbC, Bool.or_eq_true] at h
    rcases h with h | h
    · obtain ⟨c, hc, h1⟩ := nbC_of m h
      exact ⟨c, by omega, h1⟩
    · rw [Bool.and_eq_true] at h
      refine ⟨m, by omega, of_decide_eq_true h.1, ?_⟩
      have := h.2
      simp only [Bool.not_eq_true', decide_eq_false_iff_not] at this
      exact this
theorem nbP_of {Q : Pg} {T : Int32} : ∀ m, nbP Q T m = true → ∃ p, p < m ∧ ∃ c, c < 5 ∧ hb T (5 * p + c) ∧ ¬ (p < Q 57 ∧ c < Q 56)
  | 0, h => by cases h
  | m + 1, h => by
    rw [nbP, Bool.or_eq_true] at h
    rcases h with h | h
    · obtain ⟨p, hp, h1⟩ := nbP_of m h
      exact ⟨p, by omega, h1⟩
    · exact ⟨m, by omega, nbC_of 5 h⟩
/-- what is told by now keeps its bounds -/
def okL (Q : Pg) (T : Int32) : Prop := okQ Q ∧ (∀ p c, p < 4 → c < 5 → ¬ hb T (5 * p + c) → Q (33 + 5 * p + c) = 0) ∧ Q 53 = 0 ∧ Q 54 = 0 ∧ (∀ k, 20 ≤ k → ¬ hb T k)
theorem lineF_ok {tn : Nat} {B : Nat → Nat} {k s e a : Nat} {Q Q' : Pg} {T T' : Int32} (he : e ≤ tn) (hk6 : k ≤ 6) (ok : okL Q T) (h : lineF tn B k s e Q T = .inr (a, Q', T')) : e < a ∧ a ≤ tn ∧ okL Q' T' := by
  obtain ⟨oq, oz, o3, o4, o5⟩ := ok
  have b5 := oq.nc
  have b4 := oq.np
  rw [lineF] at h
  split at h
  · cases h
  split at h
  · rw [lentF] at h
    cases h0 : numF tn B e 3 with
    | inl q => rw [h0, bnd_l] at h; cases h
    | inr q =>
      obtain ⟨p, s0, e0⟩ := q
      have k0 := numF_ok he h0
      rw [h0, bnd_r] at h; dsimp only at h
      cases h1 : numF tn B e0 4 with
      | inl q => rw [h1, bnd_l] at h; cases h
      | inr q =>
        obtain ⟨c, s1, e1⟩ := q
        have k1 := numF_ok k0.2.2.2.1 h1
        rw [h1, bnd_r] at h; dsimp only at h
        split at h
        · cases h
        cases h2 : numF tn B e1 99 with
        | inl q => rw [h2, bnd_l] at h; cases h
        | inr q =>
          obtain ⟨v, s2, e2⟩ := q
          have k2 := numF_ok k1.2.2.2.1 h2
          rw [h2, bnd_r] at h; dsimp only at h
          cases h3 : stopF tn B e2 with
          | inl q => rw [h3, bnd_l] at h; cases h
          | inr e4 =>
            have k3 := stopF_ok k2.2.2.2.1 h3
            rw [h3, bnd_r] at h
            have hh := Sum.inr.inj h
            simp only [Prod.mk.injEq] at hh
            obtain ⟨h7, h8, h9⟩ := hh
            subst h7; subst h8; subst h9
            refine ⟨by omega, by omega, okQ_un oq (fun _ => by rw [bnd_h' (by omega) (by omega)]; omega), fun p' c' hp hc hn => ?_, by rw [un_n (by omega)]; exact o3, by rw [un_n (by omega)]; exact o4, fun k hk => ?_⟩
            · by_cases q : 33 + 5 * p' + c' = 33 + 5 * p + c
              · exact absurd ((hb_or (by omega) (by omega)).mpr (Or.inr (by omega))) hn
              · rw [un_n q]
                exact oz p' c' hp hc (fun z => hn ((hb_or (by omega) (by omega)).mpr (Or.inl z)))
            · by_cases q : k < 32
              · intro z
                rcases (hb_or (by omega) q).mp z with z | z
                · exact o5 k hk z
                · omega
              · simp only [hb]
                rw [BitVec.getLsbD_of_ge _ _ (by omega)]
                decide
  split at h
  · rw [oneF] at h
    split at h
    · cases h
    cases h0 : numF tn B e 99 with
    | inl q => rw [h0, bnd_l] at h; cases h
    | inr q =>
      obtain ⟨p, s0, e0⟩ := q
      have k0 := numF_ok he h0
      rw [h0, bnd_r] at h; dsimp only at h
      cases h1 : numF tn B e0 99 with
      | inl q => rw [h1, bnd_l] at h; cases h
      | inr q =>
        obtain ⟨c, s1, e1⟩ := q
        have k1 := numF_ok k0.2.2.2.1 h1
        rw [h1, bnd_r] at h; dsimp only at h
        cases h3 : stopF tn B e1 with
        | inl q => rw [h3, bnd_l] at h; cases h
        | inr e4 =>
          have k3 := stopF_ok k1.2.2.2.1 h3
          rw [h3, bnd_r] at h
          have hh := Sum.inr.inj h
          simp only [Prod.mk.injEq] at hh
          obtain ⟨h7, h8, h9⟩ := hh
          subst h7; subst h8; subst h9
          have bp : bnd (25 + Q 57) = 999 := bnd_p (by omega)
          have be : bnd (29 + Q 57) = 99 := by simp only [bnd]; rw [if_neg (by omega), if_neg (by omega), if_neg (by omega), if_neg (by omega), if_pos (by omega)]
          refine ⟨by omega, by omega, okQ_un (okQ_un (okQ_un oq (fun _ => by show _ ≤ 4; omega)) (fun _ => by rw [bp]; omega)) (fun _ => by rw [be]; omega), fun p' c' hp hc hn => ?_, by rw [oneQ, un_n (by omega), un_n (by omega), un_n (by omega)]; exact o3, by rw [oneQ, un_n (by omega), un_n (by omega), un_n (by omega)]; exact o4, o5⟩
          rw [oneQ, un_n (by omega), un_n (by omega), un_n (by omega)]
          exact oz p' c' hp hc hn
  · rw [colF] at h
    split at h
    · cases h
    cases h0 : numF tn B e 9 with
    | inl q => rw [h0, bnd_l] at h; cases h
    | inr q =>
    obtain ⟨l0, s0, e0⟩ := q
    have k0 := numF_ok he h0
    rw [h0, bnd_r] at h; dsimp only at h
    cases h1 : numF tn B e0 9 with
    | inl q => rw [h1, bnd_l] at h; cases h
    | inr q =>
    obtain ⟨l1, s1, e1⟩ := q
    have k1 := numF_ok k0.2.2.2.1 h1
    rw [h1, bnd_r] at h; dsimp only at h
    cases h2 : numF tn B e1 9 with
    | inl q => rw [h2, bnd_l] at h; cases h
    | inr q =>
    obtain ⟨l2, s2, e2⟩ := q
    have k2 := numF_ok k1.2.2.2.1 h2
    rw [h2, bnd_r] at h; dsimp only at h
    cases h3 : numF tn B e2 99 with
    | inl q => rw [h3, bnd_l] at h; cases h
    | inr q =>
    obtain ⟨v, s3, e3⟩ := q
    have k3 := numF_ok k2.2.2.2.1 h3
    rw [h3, bnd_r] at h; dsimp only at h
    cases h4 : stopF tn B e3 with
    | inl q => rw [h4, bnd_l] at h; cases h
    | inr e4 =>
      have k4 := stopF_ok k3.2.2.2.1 h4
      rw [h4, bnd_r] at h
      have hh := Sum.inr.inj h
      simp only [Prod.mk.injEq] at hh
      obtain ⟨h7, h8, h9⟩ := hh
      subst h7; subst h8; subst h9
      have bk : bnd (Q 56) = 3 := by simp only [bnd]; rw [if_pos (by omega)]
      have bl : ∀ x, x < 15 → bnd (5 + x) = 9 := fun x hx => by simp only [bnd]; rw [if_neg (by omega), if_pos (by omega)]
      have bl0 := bl (Q 56) (by omega)
      have bl1 : bnd (10 + Q 56) = 9 := by rw [show 10 + Q 56 = 5 + (5 + Q 56) by omega]; exact bl _ (by omega)
      have bl2 : bnd (15 + Q 56) = 9 := by rw [show 15 + Q 56 = 5 + (10 + Q 56) by omega]; exact bl _ (by omega)
      have bv : bnd (20 + Q 56) = 99 := bnd_v (by omega)
      refine ⟨by omega, by omega, okQ_un (okQ_un (okQ_un (okQ_un (okQ_un (okQ_un oq (fun _ => by show _ ≤ 5; omega)) (fun _ => by rw [bk]; omega)) (fun _ => by rw [bl0]; omega)) (fun _ => by rw [bl1]; omega)) (fun _ => by rw [bl2]; omega)) (fun _ => by rw [bv]; omega), fun p' c' hp hc hn => ?_, ?_, ?_, o5⟩
      · rw [colQ, un_n (by omega), un_n (by omega), un_n (by omega), un_n (by omega), un_n (by omega), un_n (by omega)]
        exact oz p' c' hp hc hn
      · rw [colQ, un_n (by omega), un_n (by omega), un_n (by omega), un_n (by omega), un_n (by omega), un_n (by omega)]; exact o3
      · rw [colQ, un_n (by omega), un_n (by omega), un_n (by omega), un_n (by omega), un_n (by omega), un_n (by omega)]; exact o4
theorem lnK_le {B : Nat → Nat} {so s e : Nat} : lnK B so s e ≤ 6 := by
  rw [lnK]; split
  · exact frK_le 6 0 (by omega)
  · exact Nat.le_refl _
theorem okL_0 : okL Z0 0 := ⟨⟨fun _ _ => by show 0 < 4; decide, fun _ _ => by show 0 < 10; decide, fun _ _ => Nat.zero_le _, fun _ _ => Nat.zero_le _, fun _ _ => Nat.zero_le _, fun _ _ => Nat.zero_le _, Nat.zero_le _, Nat.zero_le _⟩, fun _ _ _ _ _ => rfl, rfl, rfl, fun _ _ => hb_0⟩
def txR (tn : Nat) : Sum (Nat × Nat) (Pg × Int32 × Nat) → Sum (Nat × Nat) (Pg × Nat)
  | .inl q => .inl q
  | .inr (Q, T, n) => if nbP Q T 4 = true then .inl (6, tn) else .inr (Q, n)
def txF (tn : Nat) (B : Nat → Nat) : Sum (Nat × Nat) (Pg × Nat) := txR tn (linF tn B 161 0 Z0 0 0)
theorem txR_l {tn : Nat} {q : Nat × Nat} : txR tn (.inl q) = .inl q := rfl
theorem txR_r {tn n : Nat} {Q : Pg} {T : Int32} : txR tn (.inr (Q, T, n)) = if nbP Q T 4 = true then .inl (6, tn) else .inr (Q, n) := rfl
def liR (tn : Nat) (B : Nat → Nat) (f n : Nat) : Sum (Nat × Nat) Ln → Sum (Nat × Nat) (Pg × Int32 × Nat)
  | .inl q => .inl q
  | .inr (a, Q, T) => linF tn B f a Q T (n + 1)
theorem linF_s {tn : Nat} {B : Nat → Nat} {f a n so s e : Nat} {Q : Pg} {T : Int32} (hk : tokF tn B a = .inr (so, s, e)) (hso : so ≠ 0) : linF tn B (f + 1) a Q T n = liR tn B f n (lineF tn B (lnK B so s e) s e Q T) := by
  rw [linF, hk]
  simp only
  rw [if_neg hso]
  cases lineF tn B (lnK B so s e) s e Q T with
  | inl q => rfl
  | inr q => obtain ⟨a, b, c⟩ := q; rfl
theorem linF_e {tn : Nat} {B : Nat → Nat} {f a n so s e : Nat} {Q : Pg} {T : Int32} (hk : tokF tn B a = .inr (so, s, e)) (hso : so = 0) : linF tn B (f + 1) a Q T n = .inr (Q, T, n) := by
  rw [linF, hk]
  simp only
  rw [if_pos hso]
theorem linF_l {tn : Nat} {B : Nat → Nat} {f a n : Nat} {q : Nat × Nat} {Q : Pg} {T : Int32} (hk : tokF tn B a = .inl q) : linF tn B (f + 1) a Q T n = .inl q := by
  rw [linF, hk]
set_option maxRecDepth 100000 in
set_option maxHeartbeats 2000000 in
theorem c_tellsOfNobody {l : Launch} {G : zG} {τ : Nat → Int32} {Q : Pg} {T : Int32} (hD : hds τ 21 Q) (hq5 : Q 56 ≤ 5) (hq4 : Q 57 ≤ 4) (hT : τ (400 * 19 + 6) = T) : zMet l yX4_tellsOfNobody mX4_tellsOfNobody [.ref (zGa G 19)] G (zW G τ) (zFn G (some (.int (bi (nbP Q T 4 = true)))) τ) := by
  refine zMet.of (by decide) rfl (Nat.le_of_ble_eq_true rfl) (Or.inr rfl) fun X hX hq => ?_
  subst hX
  show Y G X mX4_tellsOfNobody τ 0 [some (.ref (zGa G 19)), none, none, none] []
  refine z_iconst 1 dX4_tellsOfNobody_0 vi0 rfl ?_
  refine z_istore_n 2 [_, _, _, _] dX4_tellsOfNobody_1 (by decide) rfl rfl rfl ?_
  refine zup (P := fun p => nbP Q T p = false → ∀ u v, Y G X mX4_tellsOfNobody τ 2 [some (.ref (zGa G 19)), some (.int (nI p)), u, v] []) 4 ?_ (fun p hp ih => ?_) 0 (Nat.zero_le _) rfl _ _
  · intro hf u v
    refine z_iload_n 3 dX4_tellsOfNobody_2 rfl rfl ?_
    refine z_iconst 4 dX4_tellsOfNobody_3 vi4 rfl ?_
    refine z_icmp_ge_t 75 dX4_tellsOfNobody_4 rfl (Int32.le_refl _) ?_
    refine z_iconst 76 dX4_tellsOfNobody_75 vi0 rfl ?_
    refine z_zret hq rfl rfl dX4_tellsOfNobody_76 rfl rfl ?_
    exact ⟨by rw [bi_f (by rw [hf]; decide)], rfl⟩
  · intro hf u v
    refine z_iload_n 3 dX4_tellsOfNobody_2 rfl rfl ?_
    refine z_iconst 4 dX4_tellsOfNobody_3 vi4 rfl ?_
    refine z_icmp_ge_f 7 75 dX4_tellsOfNobody_4 rfl (nI_ge (b := 4) hp (by decide)) rfl ?_
    refine z_iconst 8 dX4_tellsOfNobody_7 vi0 rfl ?_
    refine z_istore_n 9 [_, _, _, _] dX4_tellsOfNobody_8 (by decide) rfl rfl rfl ?_
    refine zup (P := fun c => nbC Q T p c = false → ∀ v, Y G X mX4_tellsOfNobody τ 9 [some (.ref (zGa G 19)), some (.int (nI p)), some (.int (nI c)), v] []) 5 ?_ (fun c hc ih2 => ?_) 0 (Nat.zero_le _) rfl _
    · intro hf2 v
      have e : nbP Q T (p + 1) = false := by rw [nbP, hf, hf2]; rfl
      refine z_iload_n 10 dX4_tellsOfNobody_9 rfl rfl ?_
      refine z_iconst 11 dX4_tellsOfNobody_10 vi5 rfl ?_
      refine z_icmp_ge_t 69 dX4_tellsOfNobody_11 rfl (Int32.le_refl _) ?_
      refine z_iinc 72 [_, _, _, _] dX4_tellsOfNobody_69 rfl (show _ + _ = nI (_ + 1) from nI_1 _) (by decide) rfl rfl rfl ?_
      refine z_goto 2 dX4_tellsOfNobody_72 rfl ?_
      exact ih e _ _
    · intro hf2 v
      have i1 : inR (nI p) (Q 57) ↔ p < Q 57 := inR_nI (by omega)
      have i2 : inR (nI c) (Q 56) ↔ c < Q 56 := inR_nI (by omega)
      have nx : ¬ (hb T (5 * p + c) ∧ ¬ (p < Q 57 ∧ c < Q 56)) → nbC Q T p (c + 1) = false := fun z => by
        rw [nbC, hf2, Bool.false_or]
        by_cases q : hb T (5 * p + c)
        · rw [decide_eq_true q, decide_eq_true (Decidable.of_not_not (fun w => z ⟨q, w⟩))]; rfl
        · rw [decide_eq_false q]; rfl
      refine z_iload_n 10 dX4_tellsOfNobody_9 rfl rfl ?_
      refine z_iconst 11 dX4_tellsOfNobody_10 vi5 rfl ?_
      refine z_icmp_ge_f 14 69 dX4_tellsOfNobody_11 rfl (nI_ge (b := 5) hc (by decide)) rfl ?_
      refine z_aload_n 15 dX4_tellsOfNobody_14 rfl rfl ?_
      refine y_getr 18 _ sh19 rfl fl_X4_18 dX4_tellsOfNobody_15 rfl ?_
      refine z_iload_n 19 dX4_tellsOfNobody_18 rfl rfl ?_
      refine y_cVs 22 _ (c_hasOne bkm21 hD hq4) (bk0 bkm21) cv_X4_115 ⟨by decide, by decide, rfl, rfl⟩ (Nat.le_of_ble_eq_true rfl) dX4_tellsOfNobody_19 rfl rfl ?_
      refine z_if_eq 40 25 dX4_tellsOfNobody_22 rfl rfl (fun h22 => ?_) (fun h22 => ?_)
      · skip
        have th : ¬ (p < Q 57 ∧ c < Q 56) := fun z => bi0.mp h22 (i1.mpr z.1)
        refine z_iconst 41 dX4_tellsOfNobody_40 vi0 rfl ?_
        refine z_istore_n 42 [_, _, _, _] dX4_tellsOfNobody_41 (by decide) rfl rfl rfl ?_
        refine z_aload_n 43 dX4_tellsOfNobody_42 rfl rfl ?_
        refine y_get 46 _ sh19 rfl fl_X4_33 dX4_tellsOfNobody_43 rfl ?_
        rw [hT]
        refine z_iload_n 47 dX4_tellsOfNobody_46 rfl rfl ?_
        refine z_iconst 48 dX4_tellsOfNobody_47 vi5 rfl ?_
        refine z_imulN 49 rfl (show (5 : Int32) = nI 5 from rfl) dX4_tellsOfNobody_48 rfl ?_
        refine z_iload_n 50 dX4_tellsOfNobody_49 rfl rfl ?_
        refine z_iaddN 51 rfl rfl dX4_tellsOfNobody_50 rfl ?_
        refine y_cNs 54 (c_hasBit (by omega)) cn_X4_109 ⟨by decide, by decide, rfl, rfl⟩ (Nat.le_of_ble_eq_true rfl) dX4_tellsOfNobody_51 rfl rfl ?_
        refine z_if_eq 63 57 dX4_tellsOfNobody_54 rfl rfl (fun h54 => ?_) (fun h54 => ?_)
        · skip
          have ht : ¬ hb T (5 * p + c) := fun z => bi0.mp h54 (hb_5.mpr z)
          refine z_iinc 66 [_, _, _, _] dX4_tellsOfNobody_63 rfl (show _ + _ = nI (_ + 1) from nI_1 _) (by decide) rfl rfl rfl ?_
          refine z_goto 9 dX4_tellsOfNobody_66 rfl ?_
          exact ih2 (nx (fun z => ht z.1)) _
        · skip
          have ht : hb T (5 * p + c) := hb_5.mp (bin0.mp h54)
          refine z_iload_n 58 dX4_tellsOfNobody_57 rfl rfl ?_
          refine z_if_ne_f 61 63 dX4_tellsOfNobody_58 rfl (rfl) rfl ?_
          refine z_iconst 62 dX4_tellsOfNobody_61 vi1 rfl ?_
          refine z_zret hq rfl rfl dX4_tellsOfNobody_62 rfl rfl ?_
          exact ⟨by rw [bi_t (nbP_t (nbC_t ⟨ht, th⟩ hc) hp)], rfl⟩
      · skip
        refine z_aload_n 26 dX4_tellsOfNobody_25 rfl rfl ?_
        refine y_getr 29 _ sh19 rfl fl_X4_18 dX4_tellsOfNobody_26 rfl ?_
        refine z_iload_n 30 dX4_tellsOfNobody_29 rfl rfl ?_
        refine y_cVs 33 _ (c_hasColour bkm21 hD hq5) (bk0 bkm21) cv_X4_118 ⟨by decide, by decide, rfl, rfl⟩ (Nat.le_of_ble_eq_true rfl) dX4_tellsOfNobody_30 rfl rfl ?_
        refine z_if_eq 40 36 dX4_tellsOfNobody_33 rfl rfl (fun h33 => ?_) (fun h33 => ?_)
        · skip
          have th : ¬ (p < Q 57 ∧ c < Q 56) := fun z => bi0.mp h33 (i2.mpr z.2)
          refine z_iconst 41 dX4_tellsOfNobody_40 vi0 rfl ?_
          refine z_istore_n 42 [_, _, _, _] dX4_tellsOfNobody_41 (by decide) rfl rfl rfl ?_
          refine z_aload_n 43 dX4_tellsOfNobody_42 rfl rfl ?_
          refine y_get 46 _ sh19 rfl fl_X4_33 dX4_tellsOfNobody_43 rfl ?_
          rw [hT]
          refine z_iload_n 47 dX4_tellsOfNobody_46 rfl rfl ?_
          refine z_iconst 48 dX4_tellsOfNobody_47 vi5 rfl ?_
          refine z_imulN 49 rfl (show (5 : Int32) = nI 5 from rfl) dX4_tellsOfNobody_48 rfl ?_
          refine z_iload_n 50 dX4_tellsOfNobody_49 rfl rfl ?_
          refine z_iaddN 51 rfl rfl dX4_tellsOfNobody_50 rfl ?_
          refine y_cNs 54 (c_hasBit (by omega)) cn_X4_109 ⟨by decide, by decide, rfl, rfl⟩ (Nat.le_of_ble_eq_true rfl) dX4_tellsOfNobody_51 rfl rfl ?_
          refine z_if_eq 63 57 dX4_tellsOfNobody_54 rfl rfl (fun h54 => ?_) (fun h54 => ?_)
          · skip
            have ht : ¬ hb T (5 * p + c) := fun z => bi0.mp h54 (hb_5.mpr z)
            refine z_iinc 66 [_, _, _, _] dX4_tellsOfNobody_63 rfl (show _ + _ = nI (_ + 1) from nI_1 _) (by decide) rfl rfl rfl ?_
            refine z_goto 9 dX4_tellsOfNobody_66 rfl ?_
            exact ih2 (nx (fun z => ht z.1)) _
          · skip
            have ht : hb T (5 * p + c) := hb_5.mp (bin0.mp h54)
            refine z_iload_n 58 dX4_tellsOfNobody_57 rfl rfl ?_
            refine z_if_ne_f 61 63 dX4_tellsOfNobody_58 rfl (rfl) rfl ?_
            refine z_iconst 62 dX4_tellsOfNobody_61 vi1 rfl ?_
            refine z_zret hq rfl rfl dX4_tellsOfNobody_62 rfl rfl ?_
            exact ⟨by rw [bi_t (nbP_t (nbC_t ⟨ht, th⟩ hc) hp)], rfl⟩
        · skip
          have th : p < Q 57 ∧ c < Q 56 := ⟨i1.mp (bin0.mp h22), i2.mp (bin0.mp h33)⟩
          refine z_iconst 37 dX4_tellsOfNobody_36 vi1 rfl ?_
          refine z_goto 41 dX4_tellsOfNobody_37 rfl ?_
          refine z_istore_n 42 [_, _, _, _] dX4_tellsOfNobody_41 (by decide) rfl rfl rfl ?_
          refine z_aload_n 43 dX4_tellsOfNobody_42 rfl rfl ?_
          refine y_get 46 _ sh19 rfl fl_X4_33 dX4_tellsOfNobody_43 rfl ?_
          rw [hT]
          refine z_iload_n 47 dX4_tellsOfNobody_46 rfl rfl ?_
          refine z_iconst 48 dX4_tellsOfNobody_47 vi5 rfl ?_
          refine z_imulN 49 rfl (show (5 : Int32) = nI 5 from rfl) dX4_tellsOfNobody_48 rfl ?_
          refine z_iload_n 50 dX4_tellsOfNobody_49 rfl rfl ?_
          refine z_iaddN 51 rfl rfl dX4_tellsOfNobody_50 rfl ?_
          refine y_cNs 54 (c_hasBit (by omega)) cn_X4_109 ⟨by decide, by decide, rfl, rfl⟩ (Nat.le_of_ble_eq_true rfl) dX4_tellsOfNobody_51 rfl rfl ?_
          refine z_if_eq 63 57 dX4_tellsOfNobody_54 rfl rfl (fun h54 => ?_) (fun h54 => ?_)
          · skip
            have ht : ¬ hb T (5 * p + c) := fun z => bi0.mp h54 (hb_5.mpr z)
            refine z_iinc 66 [_, _, _, _] dX4_tellsOfNobody_63 rfl (show _ + _ = nI (_ + 1) from nI_1 _) (by decide) rfl rfl rfl ?_
            refine z_goto 9 dX4_tellsOfNobody_66 rfl ?_
            exact ih2 (nx (fun z => ht z.1)) _
          · skip
            have ht : hb T (5 * p + c) := hb_5.mp (bin0.mp h54)
            refine z_iload_n 58 dX4_tellsOfNobody_57 rfl rfl ?_
            refine z_if_ne_t 63 dX4_tellsOfNobody_58 rfl (by decide) ?_
            refine z_iinc 66 [_, _, _, _] dX4_tellsOfNobody_63 rfl (show _ + _ = nI (_ + 1) from nI_1 _) (by decide) rfl rfl rfl ?_
            refine z_goto 9 dX4_tellsOfNobody_66 rfl ?_
            exact ih2 (nx (fun z => z.2 th)) _

