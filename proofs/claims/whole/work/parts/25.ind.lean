/-! ===== one's days hang on nobody else ===== -/
def eqS (S : Nat → Prop) (Q R : Pg) : Prop := ∀ i, S i → Q i = R i
theorem eqS.rf {S : Nat → Prop} {Q : Pg} : eqS S Q Q := fun _ _ => rfl
theorem eqS.symm {S : Nat → Prop} {Q R : Pg} (h : eqS S Q R) : eqS S R Q := fun i hi => (h i hi).symm
theorem eqS.trans {S : Nat → Prop} {Q R T : Pg} (h : eqS S Q R) (h2 : eqS S R T) : eqS S Q T := fun i hi => (h i hi).trans (h2 i hi)
theorem un_S {S : Nat → Prop} {Q R : Pg} {i v : Nat} (h : eqS S Q R) : eqS S (un Q i v) (un R i v) := fun j hj => by
  simp only [un]; split
  · rfl
  · exact h j hj
theorem un_Sx {S : Nat → Prop} {Q R : Pg} {i v : Nat} (h : eqS S Q R) (hi : ¬ S i) : eqS S (un Q i v) R := fun j hj => by
  rw [un_n (fun q : j = i => hi (by rw [← q]; exact hj))]; exact h j hj
theorem un_Sxx {S : Nat → Prop} {Q R : Pg} {i v w : Nat} (h : eqS S Q R) (hi : ¬ S i) : eqS S (un Q i v) (un R i w) := (un_Sx h hi).trans (eqS.symm (un_Sx eqS.rf hi))
abbrev pS (p i : Nat) : Prop := i < 20 ∨ (29 ≤ i ∧ i < 33) ∨ i = 56 ∨ i = 57 ∨ i = 25 + p ∨ (33 + 5 * p ≤ i ∧ i < 33 + 5 * p + 5)
theorem colGo_S {Q R : Pg} {p c t : Nat} (h : eqS (pS p) Q R) (hp : p < 4) (hc : c < 5) : eqS (pS p) (colGo Q p c t) (colGo R p c t) ∧ colGo Q p c t 54 - Q 54 = colGo R p c t 54 - R 54 := by
  simp only [colGo]
  rw [h (33 + 5 * p + c) (by unfold pS; omega), h c (by unfold pS; omega), h (25 + p) (by unfold pS; omega)]
  split
  · exact ⟨h, by omega⟩
  split
  · refine ⟨un_S (un_Sxx (un_S h) (by unfold pS; omega)), ?_⟩
    rw [un_n (by omega), un_n (by omega), un_n (by omega), un_n (by omega), un_n (by omega), un_n (by omega)]; omega
  · refine ⟨un_Sxx (un_Sxx (un_S (un_Sxx h (by unfold pS; omega))) (by unfold pS; omega)) (by unfold pS; omega), ?_⟩
    rw [un_n (by omega), un_s, un_n (by omega), un_s]; omega
theorem cols_S {Q R : Pg} {p t : Nat} (h : eqS (pS p) Q R) (hp : p < 4) : ∀ n, n ≤ 5 → eqS (pS p) (cols Q p t n) (cols R p t n) ∧ cols Q p t n 54 - Q 54 = cols R p t n 54 - R 54
  | 0, _ => ⟨h, by simp only [cols]; omega⟩
  | n + 1, hn => by
    obtain ⟨h1, h2⟩ := cols_S (t := t) h hp n (by omega)
    obtain ⟨h3, h4⟩ := colGo_S (t := t) (c := n) h1 hp (by omega)
    have a1 := cols_54 (Q := Q) (t := t) hp n (by omega)
    have a2 := cols_54 (Q := R) (t := t) hp n (by omega)
    have a3 := colGo_54 (Q := cols Q p t n) (t := t) hp (show n < 5 by omega)
    have a4 := colGo_54 (Q := cols R p t n) (t := t) hp (show n < 5 by omega)
    refine ⟨h3, ?_⟩
    simp only [cols]; omega
theorem dayO_S {Q R : Pg} {p t : Nat} (h : eqS (pS p) Q R) (hp : p < 4) (hn : R 56 ≤ 5) : eqS (pS p) (dayO Q p t) (dayO R p t) ∧ dayO Q p t 54 - Q 54 = dayO R p t 54 - R 54 := by
  simp only [dayO]
  rw [h 56 (by unfold pS; omega), h (25 + p) (by unfold pS; omega), h (29 + p) (by unfold pS; omega)]
  obtain ⟨h1, h2⟩ := cols_S (t := t) (un_S (i := 25 + p) (v := min 999 (R (25 + p) + R (29 + p))) h) hp (R 56) hn
  refine ⟨h1, ?_⟩
  rw [un_n (by omega), un_n (by omega)] at h2
  exact h2
theorem dayO_Sx {Q : Pg} {p q t : Nat} (ok : okQ Q) (hq : q < 4) (hp : p < 4) (hne : p ≠ q) : eqS (pS p) (dayO Q q t) Q := fun i hi => by
  unfold pS at hi
  exact dayO_off ok (by omega) (by omega) (by omega) (by omega) (fun c hc => by omega)
theorem ones_S {Q : Pg} {p t : Nat} (ok : okQ Q) (hp : p < 4) : ∀ n, n ≤ 4 → eqS (pS p) (ones Q t n) (if p < n then dayO Q p t else Q)
  | 0, _ => by rw [if_neg (by omega)]; exact eqS.rf
  | n + 1, hn => by
    have ih := ones_S (t := t) ok hp n (by omega)
    have okn := okQ_ones (t := t) ok n (by omega)
    rw [ones]
    by_cases e : p = n
    · subst e
      rw [if_neg (by omega)] at ih
      rw [if_pos (by omega)]
      exact (dayO_S ih hp ok.nc).1
    · refine (dayO_Sx okn (by omega) hp e).trans ?_
      by_cases h : p < n
      · rw [if_pos h] at ih; rw [if_pos (by omega)]; exact ih
      · rw [if_neg h] at ih; rw [if_neg (by omega)]; exact ih
theorem dayA_S {Q : Pg} {p t : Nat} (ok : okQ Q) (hp : p < Q 57) : eqS (pS p) (dayA Q t) (dayO Q p t) := by
  have h4 := ok.np
  have h := ones_S (p := p) (t := t) ok (by omega) (Q 57) h4
  rw [if_pos hp] at h
  exact un_Sx h (by unfold pS; omega)
theorem daysA_S {Q : Pg} {p : Nat} (ok : okQ Q) (hp : p < Q 57) : ∀ n, eqS (pS p) (daysA Q n) (daysO Q p n)
  | 0 => eqS.rf
  | n + 1 => by
    have h4 := ok.np
    have ih := daysA_S ok hp n
    exact (dayA_S (okQ_daysA ok n) (by rw [(daysA_56 ok n).2.1]; exact hp)).trans (dayO_S ih (by omega) (okQ_daysO ok (by omega) n).nc).1
/-- the seizures of a day, one by one -/
def inc (Q : Pg) (p t : Nat) : Nat := dayO Q p t 54 - Q 54
theorem ones_inc {Q : Pg} {t : Nat} (ok : okQ Q) : ∀ n, n ≤ 4 → ones Q t n 54 = Q 54 + sumN (fun p => inc Q p t) n
  | 0, _ => rfl
  | n + 1, hn => by
    have ih := ones_inc (t := t) ok n (by omega)
    have h := ones_S (p := n) (t := t) ok (by omega) n (by omega)
    rw [if_neg (by omega)] at h
    have h2 := (dayO_S (t := t) h (by omega) ok.nc).2
    have h3 := dayO_54 (t := t) (okQ_ones (t := t) ok n (by omega)) (show n < 4 by omega)
    rw [ones, sumN, inc]; omega
def sz (Q : Pg) (p n : Nat) : Nat := daysO Q p n 54 - Q 54
theorem sz_S {Q R : Pg} {p : Nat} (h : eqS (pS p) Q R) (oq : okQ Q) (or_ : okQ R) (hp : p < 4) : ∀ n, eqS (pS p) (daysO Q p n) (daysO R p n) ∧ sz Q p n = sz R p n
  | 0 => ⟨h, by simp only [sz, daysO]; omega⟩
  | n + 1 => by
    obtain ⟨h1, h2⟩ := sz_S h oq or_ hp n
    obtain ⟨h3, h4⟩ := dayO_S (t := 1) h1 hp (okQ_daysO or_ hp n).nc
    have a1 := daysO_54 (p := p) oq hp n
    have a2 := daysO_54 (p := p) or_ hp n
    have a3 := dayO_54 (t := 1) (okQ_daysO oq hp n) hp
    have a4 := dayO_54 (t := 1) (okQ_daysO or_ hp n) hp
    refine ⟨h3, ?_⟩
    simp only [sz, daysO] at h2 ⊢; omega
theorem daysA_sz {Q : Pg} (ok : okQ Q) : ∀ n, daysA Q n 54 = Q 54 + sumN (fun p => sz Q p n) (Q 57)
  | 0 => by
    rw [sumN_0 (fun i _ => by simp only [sz, daysO]; omega)]; rfl
  | n + 1 => by
    have h4 := ok.np
    have ih := daysA_sz ok n
    have okn := okQ_daysA ok n
    have h5 : daysA Q n 57 = Q 57 := (daysA_56 ok n).2.1
    have e1 : daysA Q (n + 1) 54 = daysA Q n 54 + sumN (fun p => inc (daysA Q n) p 1) (Q 57) := by
      rw [daysA, dayA, un_n (by omega), h5]; exact ones_inc okn _ h4
    have e2 : ∀ p, p < Q 57 → sz Q p (n + 1) = sz Q p n + inc (daysA Q n) p 1 := by
      intro p hp
      have h1 := (dayO_S (t := 1) (daysA_S ok hp n) (by omega) (okQ_daysO ok (by omega) n).nc).2
      have a1 := daysO_54 (p := p) ok (by omega) n
      have a3 := dayO_54 (t := 1) (okQ_daysO (p := p) ok (by omega) n) (show p < 4 by omega)
      simp only [sz, inc, daysO]; omega
    rw [e1, ih]
    have e3 : sumN (fun p => sz Q p (n + 1)) (Q 57) = sumN (fun p => sz Q p n + inc (daysA Q n) p 1) (Q 57) := sumN_cg e2
    have e4 : ∀ (f g : Nat → Nat) m, sumN (fun i => f i + g i) m = sumN f m + sumN g m := by
      intro f g m
      induction m with
      | zero => rfl
      | succ m ihm => simp only [sumN]; omega
    rw [e3, e4]; omega
/-- what one sees of his own -/
theorem heldQ_S {Q R : Pg} {p : Nat} (h : eqS (pS p) Q R) (hn : R 56 ≤ 5) : heldQ Q p = heldQ R p := by
  simp only [heldQ]; rw [h 56 (by unfold pS; omega)]; exact sumN_cg fun i hi => h _ (by unfold pS; omega)
theorem hueQ_S {Q R : Pg} {p : Nat} (h : eqS (pS p) Q R) (hn : R 56 ≤ 5) : hueQ Q p = hueQ R p := by
  simp only [hueQ, hueD]; rw [h 56 (by unfold pS; omega)]
  have e : sumN (fun c => Q (33 + 5 * p + c)) (R 56) = sumN (fun c => R (33 + 5 * p + c)) (R 56) := sumN_cg fun i hi => h _ (by unfold pS; omega)
  have e2 : ∀ l, l < 3 → sumN (fun c => Q (33 + 5 * p + c) * Q (5 + 5 * l + c)) (R 56) = sumN (fun c => R (33 + 5 * p + c) * R (5 + 5 * l + c)) (R 56) := fun l hl => sumN_cg fun i hi => by rw [h (33 + 5 * p + i) (by unfold pS; omega), h (5 + 5 * l + i) (by unfold pS; omega)]
  rw [e, e2 0 (by omega), e2 1 (by omega), e2 2 (by omega)]
