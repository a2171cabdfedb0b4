/-! ===== the start ===== -/
theorem zSh_len : zSh.length = 173 := by decide +kernel
theorem Z.start {G : zG} {X : zX} {μ : zM} {a b pc : Nat} {L : List (Option Value)} {S : List Value} {A : Nat → Nat} {E : Nat → va_E} (hd : ∀ k, k < 173 → zDone G 173 A E k) (k : Z (zGw G A) X μ a b (zW (zGw G A) s0) pc L S) : Z G X μ a b (zV A E 173) pc L S := by
  have k' : Z G X μ a b (zW (zGw G A) s0) pc L S := k
  refine Z.weq (fun i q hq => ?_) k'
  have hi : i < 173 := by
    have h := (List.getElem?_eq_some_iff.mp hq).1
    rw [zW_def, List.length_mapIdx, zSh_len] at h
    exact h
  obtain ⟨s, h1, -, h3⟩ := hd i hi
  rw [zW_at h1] at hq
  cases hq
  exact ⟨E i, zV_at hi, h3⟩
theorem okPg_0 : okPg Z0 := ⟨okL_0.1, fun _ _ _ _ _ => rfl, by show 0 < 1000; decide, by show 0 ≤ _; exact Nat.zero_le _⟩
theorem Inv_0 : Inv s0 := by
  refine ⟨(Z0, (0, Z0), (0, 0), (0, Z0), (fun _ => 0, fun _ => Z0), (fun _ => none, fun _ _ => 0)), ⟨okPg_0, ⟨Nat.zero_le _, fun i hi => absurd hi (Nat.not_lt_zero i)⟩, ⟨Nat.zero_le _, fun i hi => absurd hi (Nat.not_lt_zero i)⟩, fun j hj h => absurd rfl h⟩, ?_, ?_⟩
  · have z : ∀ x, x < 60001 → s0 x = nI 0 := fun x hx => (s0_lo hx).trans nI_0.symm
    refine ⟨fun i hi => z _ (by omega), ⟨z _ (by omega), fun i hi => absurd hi (Nat.not_lt_zero i)⟩, s0_lo (by omega), s0_lo (by omega), ⟨z _ (by omega), fun i hi => absurd hi (Nat.not_lt_zero i)⟩, fun j hj => s0_lo (by omega), fun j hj h => absurd rfl h, fun j hj => ?_, fun j hj i hi => s0_0 (by omega) (by omega) (by omega) (by omega), fun i hi => z _ (by omega)⟩
    show s0 (400 * (150 + 2 * j) + 1) < 0
    rw [s0_sz hj]; decide
  · have z : ∀ x, ¬ (64800 ≤ x ∧ x < 64807) → ¬ (65200 ≤ x ∧ x < 65232) → ¬ (68000 ≤ x ∧ x < 68004) → ¬ (x = 60001 ∨ x = 60801 ∨ x = 61601 ∨ x = 62401) → s0 x = nI 0 := fun x h1 h2 h3 h4 => (s0_0 h1 h2 h3 h4).trans nI_0.symm
    refine ⟨fun i hi => ?_, ⟨z _ (by omega) (by omega) (by omega) (by omega), fun i hi => absurd hi (Nat.not_lt_zero i)⟩, s0_0 (by omega) (by omega) (by omega) (by omega), s0_0 (by omega) (by omega) (by omega) (by omega), ⟨z _ (by omega) (by omega) (by omega) (by omega), fun i hi => absurd (show i < 3 * 0 from hi) (by omega)⟩, fun j hj => s0_0 (by omega) (by omega) (by omega) (by omega), fun j hj h => absurd rfl h, fun j hj => ?_, fun j hj i hi => s0_0 (by omega) (by omega) (by omega) (by omega), ⟨by decide +kernel, by decide +kernel⟩⟩
    · rcases hi with hi | rfl | rfl
      · rw [aR, if_pos hi]; exact z _ (by omega) (by omega) (by omega) (by omega)
      · exact z 63201 (by omega) (by omega) (by omega) (by omega)
      · exact z 63202 (by omega) (by omega) (by omega) (by omega)
    · show s0 (400 * 170 + 0 + j) = -4
      rw [s0, if_neg (by omega), if_neg (by omega), if_pos (by omega)]
