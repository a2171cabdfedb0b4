/-! ===== lay, read, text ===== -/
theorem rdX_cg {c c' : Nat → Int32} {a : Int} {s i d : Nat} (hc : ∀ x, x < 40 → c x = c' x) (hs : s ≤ 40) (h : rdIn a s i) (hd : d ≤ 2) : rdX c a i d = rdX c' a i d := by
  obtain ⟨h1, h2⟩ := h
  rw [rdX, rdX, hc _ (by omega)]
theorem rdGo_cg {c c' : Nat → Int32} {a : Int} {s : Nat} (hc : ∀ x, x < 40 → c x = c' x) (hs : s ≤ 40) : ∀ {m i : Nat} {N : Pg}, rdGo c s a m i N = rdGo c' s a m i N
  | 0, i, N => rfl
  | m + 1, i, N => by
    simp only [rdGo]
    by_cases h1 : rdIn a s i
    · rw [if_pos h1, if_pos h1]
      simp only [rdV, rdQ]
      rw [rdX_cg hc hs h1 (Nat.zero_le 2), rdX_cg hc hs h1 (show 1 ≤ 2 by omega), rdX_cg hc hs h1 (Nat.le_refl 2)]
      split
      · exact rdGo_cg hc hs
      · rfl
    · rw [if_neg h1, if_neg h1]
theorem rdR_cg {C C' : Nat → Nat → Int32} {T : Sht} {N : Pg} {k w a n : Int32} (hT : ∀ j, j < 4 → ∀ L s, T j = some (L, s) → s ≤ 40) (hC : ∀ j, j < 4 → ∀ i, i < 40 → C j i = C' j i) (hk : inR k 4) : rdR C T N k w a n = rdR C' T N k w a n := by
  obtain ⟨j, hj, rfl⟩ := inR_of hk (by omega)
  simp only [rdR, rdAll, nN_nI (show j < 2 ^ 31 by omega)]
  split
  · rfl
  · cases h : T j with
    | none => rfl
    | some q =>
      obtain ⟨L, s⟩ := q
      dsimp only
      split
      · exact rdGo_cg (hC j hj) (hT j hj L s h)
      · rfl
theorem vRead_cg {C C' : Nat → Nat → Int32} {T : Sht} {N : Pg} {k w a n o : Int32} (hT : ∀ j, j < 4 → ∀ L s, T j = some (L, s) → s ≤ 40) (hC : ∀ j, j < 4 → ∀ i, i < 40 → C j i = C' j i) : vRead C T N k w a n = vRead C' T N k w a n ∧ qRead C T N k w a n = qRead C' T N k w a n ∧ tRead C T N k w a n o = tRead C' T N k w a n o := by
  by_cases hq : okRead k w n
  · rw [vRead, vRead, qRead, qRead, tRead, tRead, if_pos hq, if_pos hq, if_pos hq, if_pos hq, if_pos hq, if_pos hq, rdR_cg hT hC hq.1]
    exact ⟨rfl, rfl, rfl⟩
  · rw [vRead, vRead, qRead, qRead, tRead, tRead, if_neg hq, if_neg hq, if_neg hq, if_neg hq, if_neg hq, if_neg hq]
    exact ⟨rfl, rfl, rfl⟩
theorem okL_linF {tn : Nat} {B : Nat → Nat} : ∀ (f a : Nat) (Q : Pg) (T : Int32) (n : Nat) (Q' : Pg) (T' : Int32) (n' : Nat), a ≤ tn → okL Q T → linF tn B f a Q T n = .inr (Q', T', n') → okL Q' T'
  | 0, a, Q, T, n, Q', T', n', ha, ok, h => by
    rw [linF] at h
    cases h; exact ok
  | f + 1, a, Q, T, n, Q', T', n', ha, ok, h => by
    rw [linF] at h
    cases ht : tokF tn B a with
    | inl q => rw [ht] at h; cases h
    | inr q =>
      obtain ⟨so, s, e⟩ := q
      rw [ht] at h
      dsimp only at h
      by_cases h0 : so = 0
      · rw [if_pos h0] at h; cases h; exact ok
      · rw [if_neg h0] at h
        cases hl : lineF tn B (lnK B so s e) s e Q T with
        | inl q => rw [hl] at h; cases h
        | inr q =>
          obtain ⟨a', Q1, T1⟩ := q
          rw [hl] at h
          have k3 := lineF_ok (tokF_ok ha ht).2.2.1 lnK_le ok hl
          exact okL_linF f a' Q1 T1 (n + 1) Q' T' n' k3.2.1 k3.2.2 h
section Q4
variable {l : Launch} {G : zG} {σ : Nat → Int32} {a b c d : Int32}
theorem q_lay (h : Inv σ) : Pr l G σ yX6_lay mX6_lay yX7_lay mX7_lay [.int a, .int b, .int c] := by
  obtain ⟨⟨N, ⟨tn, B⟩, ⟨f, t⟩, ⟨sn, s⟩, ⟨kf, I⟩, T, cl⟩, ok, jc, jr⟩ := h
  have ht : tn ≤ 160 := ok.2.1.1
  have hs : sn ≤ 6 := ok.2.2.1.1
  have j8 : hTC σ T := jc.2.2.2.2.2.2.2.1
  have j9 : ∀ j, j < 4 → ∀ i, i < 40 → σ (400 * (150 + 2 * j + 1) + 0 + i) = cl j i := jc.2.2.2.2.2.2.2.2.1
  have no : (∀ τ z, sLay τ T a b c z = τ) → Pr l G σ yX6_lay mX6_lay yX7_lay mX7_lay [.int a, .int b, .int c] := fun hno => by
    refine Pr.v (β := (N, (tn, B), (f, t), (sn, s), (kf, I), (T, cl))) (V := vLay T a b) ⟨ok, jc, jr⟩ ok (zFnP (x_lay (T := T) j8)) (fun v τ h => ?_) fun τ hj => ⟨_, zFnP (r_lay (T := T) hj.2.2.2.2.2.2.2.1), fun v τ' h => ?_⟩
    · obtain ⟨h1, rfl⟩ := h
      rw [hno]
      exact ⟨h1, jc, fun _ _ _ => rfl⟩
    · obtain ⟨h1, rfl⟩ := h
      rw [hno]
      exact ⟨h1, hj, fun _ _ _ => rfl⟩
  by_cases hk : inR a 4
  · cases hT : T (nN a) with
    | none => exact no fun τ z => by rw [sLay, if_pos hk, hT]
    | some q =>
      obtain ⟨L, z⟩ := q
      by_cases hi : inR b z
      · have hz : z ≤ 40 := by
          obtain ⟨k, hk4, rfl⟩ := inR_of hk (by omega)
          rw [nN_nI (by omega)] at hT
          have := j8 k hk4
          rw [hT] at this
          exact this.2.2.2
        have es : ∀ τ x, sLay τ T a b c x = upd τ (x + nN b) (cutV L c) := fun τ x => by rw [sLay, if_pos hk, hT]; exact if_pos hi
        obtain ⟨k, hk4, rfl⟩ := inR_of hk (by omega)
        obtain ⟨i0, hi0, rfl⟩ := inR_of hi (by omega)
        have ek : nN (nI k) = k := nN_nI (by omega)
        have ei : nN (nI i0) = i0 := nN_nI (by omega)
        refine Pr.v (β := (N, (tn, B), (f, t), (sn, s), (kf, I), (T, fun j i => if j = k ∧ i = i0 then cutV L c else cl j i))) (V := vLay T (nI k) (nI i0)) ⟨ok, jc, jr⟩ ok (zFnP (x_lay (T := T) j8)) (fun v τ h => ?_) fun τ hj => ⟨_, zFnP (r_lay (T := T) hj.2.2.2.2.2.2.2.1), fun v τ' h => ?_⟩
        · obtain ⟨h1, rfl⟩ := h
          rw [es, ek, ei]
          refine ⟨h1, JC_sheet ht hs jc (fun x _ hd => pk_un (by omega)) (fun j hj => ?_) (fun j hj i hi => ?_), fun x _ hd => pk_un (by omega)⟩
          · rw [pk_un (by omega), pk_un (by omega)]; exact j8 j hj
          · by_cases e : j = k ∧ i = i0
            · rw [if_pos e, e.1, e.2, pk_us]
            · rw [if_neg e, pk_un (by omega)]; exact j9 j hj i hi
        · obtain ⟨h1, rfl⟩ := h
          have i8 : hTR τ T := hj.2.2.2.2.2.2.2.1
          have i9 : ∀ j, j < 4 → ∀ i, i < 40 → τ (400 * 172 + 0 + (40 * j + i)) = cl j i := hj.2.2.2.2.2.2.2.2.1
          rw [es, ek, ei]
          refine ⟨h1, JR_sheet ht hs hj (fun x _ hd => pk_un (by omega)) (fun j hj => ?_) (fun j hj i hi => ?_), fun x _ hd => pk_un (by omega)⟩
          · rw [pk_un (by omega), pk_un (by omega)]; exact i8 j hj
          · by_cases e : j = k ∧ i = i0
            · rw [if_pos e, e.1, e.2, Nat.add_assoc, pk_us]
            · rw [if_neg e, pk_un (by omega)]; exact i9 j hj i hi
      · exact no fun τ x => by rw [sLay, if_pos hk, hT]; exact if_neg hi
  · exact no fun τ z => by rw [sLay, if_neg hk]
theorem q_read (h : Inv σ) : Pr l G σ yX6_read mX6_read yX7_read mX7_read [.int a, .int b, .int c, .int d] := by
  obtain ⟨⟨N, ⟨tn, B⟩, ⟨f, t⟩, ⟨sn, s⟩, ⟨kf, I⟩, T, cl⟩, ok, jc, jr⟩ := h
  have ht : tn ≤ 160 := ok.2.1.1
  have hs : sn ≤ 6 := ok.2.2.1.1
  have j8 : hTC σ T := jc.2.2.2.2.2.2.2.1
  have hT : ∀ j, j < 4 → ∀ L s, T j = some (L, s) → s ≤ 40 := fun j hj L s h => by
    have := j8 j hj
    rw [h] at this
    exact this.2.2.2
  have cC := vRead_cg (k := a) (w := b) (a := c) (n := d) (N := N) (o := t) hT (show ∀ j, j < 4 → ∀ i, i < 40 → (fun j i => σ (400 * (150 + 2 * j + 1) + 0 + i)) j i = cl j i from jc.2.2.2.2.2.2.2.2.1)
  have j4 : σ (400 * 0 + 11) = t := jc.2.2.2.1
  refine Pr.v (β := (qRead cl T N a b c d, (tn, B), (f, tRead cl T N a b c d t), (sn, s), (kf, I), (T, cl))) (V := vRead cl T N a b c d) ⟨ok, jc, jr⟩ ⟨okPg_rd ok.1, ok.2⟩ (x_read (N := N) (T := T) jc.1 ok.1.1 j8) (fun v τ h => ?_) fun τ hj => ⟨_, r_read (N := N) (T := T) hj.1 ok.1.1 hj.2.2.2.2.2.2.2.1, fun v τ' h => ?_⟩
  · rw [j4, cC.1, cC.2.1, cC.2.2] at h
    obtain ⟨h1, h2, h3⟩ := h
    have g : ∀ x, scr x = false → ¬ ((400 ≤ x ∧ x < 462) ∨ x = 11) → τ x = σ x := fun x hx hd => (h3 x hx (by omega)).trans (pk_un (by omega))
    exact ⟨h1, JC_rd ht hs jc g h2 ((h3 _ (by decide) (by omega)).trans pk_us), fun x hx hd => g x hx (by omega)⟩
  · have cR := vRead_cg (k := a) (w := b) (a := c) (n := d) (N := N) (o := t) hT (show ∀ j, j < 4 → ∀ i, i < 40 → (fun j i => τ (400 * 172 + 0 + (40 * j + i))) j i = cl j i from hj.2.2.2.2.2.2.2.2.1)
    rw [show τ (400 * 158 + 32) = t from hj.2.2.2.1, cR.1, cR.2.1, cR.2.2] at h
    obtain ⟨h1, h2, h3⟩ := h
    have g : ∀ x, scr x = false → ¬ ((63600 ≤ x ∧ x < 63655) ∨ x = 63232) → τ' x = τ x := fun x hx hd => (h3 x hx (by omega)).trans (pk_un (by omega))
    exact ⟨h1, JR_rd ht hs hj g h2 ((h3 _ (by decide) (by omega)).trans pk_us), fun x hx hd => g x hx (by omega)⟩
theorem q_text (h : Inv σ) : Pr l G σ yX6_text mX6_text yX7_text mX7_text [] := by
  obtain ⟨⟨N, ⟨tn, B⟩, ⟨f, t⟩, ⟨sn, s⟩, ⟨kf, I⟩, T, cl⟩, ok, jc, jr⟩ := h
  have ht : tn ≤ 160 := ok.2.1.1
  have hs : sn ≤ 6 := ok.2.2.1.1
  have hx := x_text (l := l) (G := G) (tn := tn) (B := B) jc.2.1 ok.2.1 jc.2.2.2.2.2.2.2.2.2
  have hr : ∀ τ, JR τ (N, (tn, B), (f, t), (sn, s), (kf, I), T, cl) → _ := fun τ hj => r_text (l := l) (G := G) (tn := tn) (B := B) hj.2.1 ok.2.1 hj.2.2.2.2.2.2.2.2.2
  cases hq : txF tn B with
  | inl q =>
    obtain ⟨c0, s0'⟩ := q
    rw [hq] at hx
    refine Pr.v (β := (N, (0, B), (nI c0, t), (sn, s), (kf, I), (T, cl))) (V := -10 - nI s0') ⟨ok, jc, jr⟩ ⟨ok.1, ⟨Nat.zero_le _, fun i hi => absurd hi (Nat.not_lt_zero i)⟩, ok.2.2⟩ hx (fun v τ h => ?_) fun τ hj => ⟨_, hr τ hj, fun v τ' h => ?_⟩
    · obtain ⟨h1, -, -, -, h2, h3, h4⟩ := h
      exact ⟨h1, JC_txa ht hs jc (fun x hx hd => h4 x hx (by omega) (by omega)) ⟨h2.trans nI_0.symm, fun i hi => absurd hi (Nat.not_lt_zero i)⟩ h3, fun x hx hd => h4 x hx (by omega) (by omega)⟩
    · rw [hq] at h
      obtain ⟨h1, h2, h3, h4⟩ := h
      exact ⟨h1, JR_txa ht hs hj (fun x hx hd => h4 x hx (by omega) (by omega)) ⟨h2.trans nI_0.symm, fun i hi => absurd hi (Nat.not_lt_zero i)⟩ h3, fun x hx hd => h4 x hx (by omega) (by omega)⟩
  | inr q =>
    obtain ⟨Q, n⟩ := q
    have oq : okPg Q := by
      rw [txF] at hq
      cases hl : linF tn B 161 0 Z0 0 0 with
      | inl q => rw [hl, txR_l] at hq; cases hq
      | inr q =>
        obtain ⟨Q1, T1, n1⟩ := q
        rw [hl, txR_r] at hq
        by_cases hb : nbP Q1 T1 4 = true
        · rw [if_pos hb] at hq; cases hq
        · rw [if_neg hb] at hq
          cases hq
          obtain ⟨o1, o2, o3, o4, o5⟩ := okL_linF 161 0 Z0 0 0 Q T1 n (Nat.zero_le _) okL_0 hl
          refine ⟨o1, fun p c hp hc hx => o2 p c hp hc fun hbb => hb (nbP_t (nbC_t ⟨hbb, by omega⟩ hc) hp), by omega, by omega⟩
    rw [hq] at hx
    refine Pr.v (β := (Q, (0, B), (0, t), (0, s), (fun _ => 0, I), (T, cl))) (V := nI n) ⟨ok, jc, jr⟩ ⟨oq, ⟨Nat.zero_le _, fun i hi => absurd hi (Nat.not_lt_zero i)⟩, ⟨Nat.zero_le _, fun i hi => absurd hi (Nat.not_lt_zero i)⟩, fun j hj h => absurd rfl h⟩ hx (fun v τ h => ?_) fun τ hj => ⟨_, hr τ hj, fun v τ' h => ?_⟩
    · obtain ⟨h1, h2, h3, h4, h5, h6, h7, h8⟩ := h
      have g : ∀ x, scr x = false → ¬ (x = 7601 ∨ x = 7602 ∨ x = 14000 ∨ x = 6400 ∨ x = 6401 ∨ (400 ≤ x ∧ x < 462)) → τ x = σ x := fun x hx hd => h8 x hx (by omega) (by omega) (by omega) (by omega) (by omega) (by omega)
      exact ⟨h1, JC_txb ht hs jc g h4 ⟨h2.trans nI_0.symm, fun i hi => absurd hi (Nat.not_lt_zero i)⟩ h3 ⟨h5.trans nI_0.symm, fun i hi => absurd hi (Nat.not_lt_zero i)⟩ (fun j hj => by rcases (show j = 0 ∨ j = 1 by omega) with rfl | rfl; exact h6; exact h7) (fun j hj h => absurd rfl h), fun x hx hd => g x hx (by omega)⟩
    · rw [hq] at h
      obtain ⟨h1, h2, h3, h4, h5, h6, h7, h8⟩ := h
      have g : ∀ x, scr x = false → ¬ (x = 63210 ∨ x = 63211 ∨ x = 63201 ∨ x = 63202 ∨ x = 63226 ∨ x = 67600 ∨ x = 67601 ∨ (63600 ≤ x ∧ x < 63655)) → τ' x = τ x := fun x hx hd => h8 x hx (by omega) (by omega) (by omega) (by omega) (by omega) (by omega) (by omega) (by omega)
      exact ⟨h1, JR_txb ht hs hj g h4 ⟨h2.trans nI_0.symm, fun i hi => absurd hi (Nat.not_lt_zero i)⟩ h3 ⟨h5.trans nI_0.symm, fun i hi => absurd hi (Nat.not_lt_zero i)⟩ (fun j hj => by rcases (show j = 0 ∨ j = 1 by omega) with rfl | rfl; exact h6; exact h7) (fun j hj h => absurd rfl h), fun x hx hd => g x hx (by omega)⟩
end Q4
