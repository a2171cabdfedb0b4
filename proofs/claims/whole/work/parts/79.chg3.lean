/-! ===== keep and back, sheets ===== -/
theorem vKeep_cg {f g : Nat → Int32} {k : Int32} (h : ∀ j, j < 2 → f j = g j) : vKeep f k = vKeep g k := by
  by_cases hq : inR k 2
  · obtain ⟨j, hj, rfl⟩ := inR_of hq (by omega)
    rw [vKeep, vKeep, if_pos hq, if_pos hq, nN_nI (by omega), h j hj]
  · rw [vKeep, vKeep, if_neg hq, if_neg hq]
theorem vBack_cg {f g : Nat → Int32} {I : Nat → Pg} {k : Int32} (h : ∀ j, j < 2 → f j = g j) : vBack f I k = vBack g I k := by
  by_cases hq : inR k 2
  · obtain ⟨j, hj, rfl⟩ := inR_of hq (by omega)
    rw [vBack, vBack, if_pos hq, if_pos hq, nN_nI (by omega), h j hj]
  · rw [vBack, vBack, if_neg hq, if_neg hq]
theorem cp_i9 {σ : Nat → Int32} {x y n a i : Nat} (h : a = y + i) (hi : i < n) : cp σ x y n a = σ (x + i) := by
  subst h
  rw [cp, if_pos (by omega)]
  congr 1; omega
theorem cp_o9 {σ : Nat → Int32} {x y n a : Nat} (h : a < y ∨ y + n ≤ a) : cp σ x y n a = σ a := if_neg (by omega)
theorem zr_in {σ : Nat → Int32} {x n a : Nat} (h : x ≤ a ∧ a < x + n) : zr σ x n a = 0 := if_pos h
theorem zr_out {σ : Nat → Int32} {x n a : Nat} (h : a < x ∨ x + n ≤ a) : zr σ x n a = σ a := if_neg (by omega)
section Q3
variable {l : Launch} {G : zG} {σ : Nat → Int32} {a b c d : Int32}
theorem q_keep (h : Inv σ) : Pr l G σ yX6_keep mX6_keep yX7_keep mX7_keep [.int a] := by
  obtain ⟨⟨N, ⟨tn, B⟩, ⟨f, t⟩, ⟨sn, s⟩, ⟨kf, I⟩, T, cl⟩, ok, jc, jr⟩ := h
  have ht : tn ≤ 160 := ok.2.1.1
  have hs : sn ≤ 6 := ok.2.2.1.1
  have j1 : hdc σ 1 N := jc.1
  have j6 : ∀ j, j < 2 → σ (400 * 16 + 0 + j) = kf j := jc.2.2.2.2.2.1
  have j7 : ∀ j, j < 2 → kf j ≠ 0 → hdc σ (108 + 7 * j) (I j) := jc.2.2.2.2.2.2.1
  by_cases hq : inR a 2
  · obtain ⟨k, hk, rfl⟩ := inR_of hq (by omega)
    have ek : nN (nI k) = k := nN_nI (by omega)
    refine Pr.v (β := (N, (tn, B), (f, t), (sn, s), (fun j => if j = k then 1 else kf j, fun j => if j = k then N else I j), (T, cl))) (V := vKeep kf (nI k)) ⟨ok, jc, jr⟩ ⟨ok.1, ok.2.1, ok.2.2.1, fun j hj h => ?_⟩ (zFnP (x_keep (N := N) j1)) (fun v τ h => ?_) fun τ hj => ⟨_, zFnP r_keep, fun v τ' h => ?_⟩
    · show okPg (if j = k then N else I j)
      by_cases e : j = k
      · rw [if_pos e]; exact ok.1
      · rw [if_neg e]; exact ok.2.2.2 j hj (by have h : (if j = k then (1 : Int32) else kf j) ≠ 0 := h; rw [if_neg e] at h; exact h)
    · obtain ⟨h1, rfl⟩ := h
      rw [vKeep_cg j6] at h1
      rw [sKeepC, if_pos hq, ek]
      refine ⟨h1, JC_keep ht hs jc (fun x _ hd => by rw [pk_un (by omega), sp_off (by omega)]) (fun j hj => ?_) (fun j hj h0 => ?_), fun x _ hd => by rw [pk_un (by omega), sp_off (by omega)]⟩
      · by_cases e : j = k
        · subst e; rw [pk_us, if_pos rfl]
        · rw [pk_un (by omega), sp_off (by omega), if_neg e]; exact j6 j hj
      · intro i hi
        rw [pk_un (by omega)]
        by_cases e : j = k
        · subst e
          rw [if_pos rfl]
          exact (hds_sp.c.eqc eqc_nrm) i hi
        · rw [if_neg e] at h0 ⊢
          rw [sp_off (by omega)]
          exact j7 j hj h0 i hi
    · obtain ⟨h1, rfl⟩ := h
      have i1 : hdk τ 0 N := hj.1
      have i6 : ∀ j, j < 2 → τ (400 * 169 + 0 + j) = kf j := hj.2.2.2.2.2.1
      have i7 : ∀ j, j < 2 → kf j ≠ 0 → hdk τ (55 * (j + 1)) (I j) := hj.2.2.2.2.2.2.1
      rw [vKeep_cg i6] at h1
      rw [sKeepR, if_pos hq, ek]
      refine ⟨h1, JR_keep ht hs hj (fun x _ hd => by rw [pk_un (by omega), cp_o9 (by omega)]) (fun j hj => ?_) (fun j hj h0 => ?_), fun x _ hd => by rw [pk_un (by omega), cp_o9 (by omega)]⟩
      · by_cases e : j = k
        · subst e; rw [pk_us, if_pos rfl]
        · rw [pk_un (by omega), cp_o9 (by omega), if_neg e]; exact i6 j hj
      · intro i hi
        by_cases e : j = k
        · subst e
          rw [if_pos rfl]
          have z := i1 i hi
          rcases hi with hi | rfl | rfl
          · rw [aR, if_pos hi] at z ⊢
            rw [pk_un (by omega), cp_i9 (i := i) (by omega) hi]
            exact z
          · rw [show aR (55 * (j + 1)) 56 = 63201 from rfl, pk_un (by omega), cp_o9 (by omega)]; exact z
          · rw [show aR (55 * (j + 1)) 57 = 63202 from rfl, pk_un (by omega), cp_o9 (by omega)]; exact z
        · rw [if_neg e] at h0 ⊢
          have z := i7 j hj h0 i hi
          rcases hi with hi | rfl | rfl
          · rw [aR, if_pos hi] at z ⊢
            rw [pk_un (by omega), cp_o9 (by omega)]
            exact z
          · rw [show aR (55 * (j + 1)) 56 = 63201 from rfl, pk_un (by omega), cp_o9 (by omega)]; exact z
          · rw [show aR (55 * (j + 1)) 57 = 63202 from rfl, pk_un (by omega), cp_o9 (by omega)]; exact z
  · refine Pr.v (β := (N, (tn, B), (f, t), (sn, s), (kf, I), (T, cl))) (V := vKeep kf a) ⟨ok, jc, jr⟩ ok (zFnP (x_keep (N := N) j1)) (fun v τ h => ?_) fun τ hj => ⟨_, zFnP r_keep, fun v τ' h => ?_⟩
    · obtain ⟨h1, rfl⟩ := h
      rw [vKeep_cg j6] at h1
      rw [sKeepC, if_neg hq]
      exact ⟨h1, jc, fun _ _ _ => rfl⟩
    · obtain ⟨h1, rfl⟩ := h
      rw [vKeep_cg (show ∀ j, j < 2 → τ (400 * 169 + 0 + j) = kf j from hj.2.2.2.2.2.1)] at h1
      rw [sKeepR, if_neg hq]
      exact ⟨h1, hj, fun _ _ _ => rfl⟩
theorem q_back (h : Inv σ) : Pr l G σ yX6_back mX6_back yX7_back mX7_back [.int a] := by
  obtain ⟨⟨N, ⟨tn, B⟩, ⟨f, t⟩, ⟨sn, s⟩, ⟨kf, I⟩, T, cl⟩, ok, jc, jr⟩ := h
  have ht : tn ≤ 160 := ok.2.1.1
  have hs : sn ≤ 6 := ok.2.2.1.1
  have j6 : ∀ j, j < 2 → σ (400 * 16 + 0 + j) = kf j := jc.2.2.2.2.2.1
  have j7 : ∀ j, j < 2 → σ (400 * 16 + 0 + j) ≠ 0 → hdc σ (108 + 7 * j) (I j) := fun j hj h => jc.2.2.2.2.2.2.1 j hj (by rw [j6 j hj] at h; exact h)
  have i7 : ∀ τ, JR τ (N, (tn, B), (f, t), (sn, s), (kf, I), T, cl) → ∀ j, j < 2 → τ (400 * 169 + 0 + j) ≠ 0 → hdk τ (55 * (j + 1)) (I j) := fun τ hj j h2 h => hj.2.2.2.2.2.2.1 j h2 (by rw [show τ (400 * 169 + 0 + j) = kf j from hj.2.2.2.2.2.1 j h2] at h; exact h)
  by_cases hq : inR a 2 ∧ kf (nN a) ≠ 0
  · obtain ⟨hq, hz⟩ := hq
    obtain ⟨k, hk, rfl⟩ := inR_of hq (by omega)
    have ek : nN (nI k) = k := nN_nI (by omega)
    rw [ek] at hz
    refine Pr.v (β := (I k, (tn, B), (f, t), (sn, s), (kf, I), (T, cl))) (V := vBack kf I (nI k)) ⟨ok, jc, jr⟩ ⟨ok.2.2.2 k hk hz, ok.2⟩ (zFnP (x_back (I := I) j7)) (fun v τ h => ?_) fun τ hj => ⟨_, zFnP (r_back (I := I) (i7 τ hj)), fun v τ' h => ?_⟩
    · obtain ⟨h1, rfl⟩ := h
      rw [vBack_cg j6] at h1
      rw [sBackC, if_pos ⟨hq, by rw [ek, j6 k hk]; exact hz⟩, ek]
      exact ⟨h1, JC_p ht hs jc (fun x _ hd => sp_off (by omega)) (hds_sp.c.eqc eqc_nrm), fun x _ hd => sp_off (by omega)⟩
    · obtain ⟨h1, rfl⟩ := h
      have i6 : ∀ j, j < 2 → τ (400 * 169 + 0 + j) = kf j := hj.2.2.2.2.2.1
      have ii : hdk τ (55 * (k + 1)) (I k) := hj.2.2.2.2.2.2.1 k hk hz
      rw [vBack_cg i6] at h1
      rw [sBackR, if_pos ⟨hq, by rw [ek, i6 k hk]; exact hz⟩, ek]
      refine ⟨h1, JR_p ht hs hj (fun x _ hd => cp_o9 (by omega)) (fun i hi => ?_), fun x _ hd => cp_o9 (by omega)⟩
      have z := ii i hi
      rcases hi with hi | rfl | rfl
      · rw [aR, if_pos hi] at z ⊢
        rw [cp_i9 (i := i) (by omega) hi]
        exact z
      · rw [show aR 0 56 = 63201 from rfl, cp_o9 (by omega)]; exact z
      · rw [show aR 0 57 = 63202 from rfl, cp_o9 (by omega)]; exact z
  · refine Pr.v (β := (N, (tn, B), (f, t), (sn, s), (kf, I), (T, cl))) (V := vBack kf I a) ⟨ok, jc, jr⟩ ok (zFnP (x_back (I := I) j7)) (fun v τ h => ?_) fun τ hj => ⟨_, zFnP (r_back (I := I) (i7 τ hj)), fun v τ' h => ?_⟩
    · obtain ⟨h1, rfl⟩ := h
      rw [vBack_cg j6] at h1
      rw [sBackC, if_neg (fun q => hq ⟨q.1, by
        obtain ⟨k, hk, rfl⟩ := inR_of q.1 (by omega)
        have := q.2
        rw [nN_nI (by omega)] at this ⊢
        rw [j6 k hk] at this; exact this⟩)]
      exact ⟨h1, jc, fun _ _ _ => rfl⟩
    · obtain ⟨h1, rfl⟩ := h
      have i6 : ∀ j, j < 2 → τ (400 * 169 + 0 + j) = kf j := hj.2.2.2.2.2.1
      rw [vBack_cg i6] at h1
      rw [sBackR, if_neg (fun q => hq ⟨q.1, by
        obtain ⟨k, hk, rfl⟩ := inR_of q.1 (by omega)
        have := q.2
        rw [nN_nI (by omega)] at this ⊢
        rw [i6 k hk] at this; exact this⟩)]
      exact ⟨h1, hj, fun _ _ _ => rfl⟩
theorem q_sheet (h : Inv σ) : Pr l G σ yX6_sheet mX6_sheet yX7_sheet mX7_sheet [.int a, .int b, .int c] := by
  obtain ⟨⟨N, ⟨tn, B⟩, ⟨f, t⟩, ⟨sn, s⟩, ⟨kf, I⟩, T, cl⟩, ok, jc, jr⟩ := h
  have ht : tn ≤ 160 := ok.2.1.1
  have hs : sn ≤ 6 := ok.2.2.1.1
  have j8 : hTC σ T := jc.2.2.2.2.2.2.2.1
  have j9 : ∀ j, j < 4 → ∀ i, i < 40 → σ (400 * (150 + 2 * j + 1) + 0 + i) = cl j i := jc.2.2.2.2.2.2.2.2.1
  by_cases hq : okSheet a b c ∧ 0 ≤ c
  · have hq0 := hq
    obtain ⟨⟨q1, q2, q3⟩, q4⟩ := hq
    obtain ⟨k, hk, rfl⟩ := inR_of q1 (by omega)
    obtain ⟨w, hw, rfl⟩ := inR_of q2 (by omega)
    obtain ⟨n, hn, rfl⟩ := inR_of ((le_inR (n := 40) (by omega)).mp ⟨q4, q3⟩) (by omega)
    have ek : nN (nI k) = k := nN_nI (by omega)
    refine Pr.v (β := (N, (tn, B), (f, t), (sn, s), (kf, I), (fun j => if j = k then some (w, n) else T j, fun j i => if j = k then 0 else cl j i))) (V := vSheet (nI k) (nI w) (nI n)) ⟨ok, jc, jr⟩ ok (zFnP x_sheet) (fun v τ h => ?_) fun τ hj => ⟨_, zFnP r_sheet, fun v τ' h => ?_⟩
    · obtain ⟨h1, rfl⟩ := h
      rw [sSheetC, if_pos hq0, ek]
      refine ⟨h1, JC_sheet ht hs jc (fun x _ hd => by rw [zr_out (by omega), pk_un (by omega), pk_un (by omega)]) (fun j hj => ?_) (fun j hj i hi => ?_), fun x _ hd => by rw [zr_out (by omega), pk_un (by omega), pk_un (by omega)]⟩
      · by_cases e : j = k
        · subst e
          simp only [if_true]
          refine ⟨?_, ?_, hw, by omega⟩
          · rw [zr_out (by omega), pk_un (by omega), pk_us]
          · rw [zr_out (by omega), pk_us]
        · simp only [if_neg e]
          rw [zr_out (by omega), pk_un (by omega), pk_un (by omega), zr_out (by omega), pk_un (by omega), pk_un (by omega)]
          exact j8 j hj
      · by_cases e : j = k
        · subst e
          simp only [if_true]
          exact zr_in (by omega)
        · simp only [if_neg e]
          rw [zr_out (by omega), pk_un (by omega), pk_un (by omega)]
          exact j9 j hj i hi
    · obtain ⟨h1, rfl⟩ := h
      have i8 : hTR τ T := hj.2.2.2.2.2.2.2.1
      have i9 : ∀ j, j < 4 → ∀ i, i < 40 → τ (400 * 172 + 0 + (40 * j + i)) = cl j i := hj.2.2.2.2.2.2.2.2.1
      rw [sSheetR, if_pos hq0, ek]
      refine ⟨h1, JR_sheet ht hs hj (fun x _ hd => by rw [zr_out (by omega), pk_un (by omega), pk_un (by omega)]) (fun j hj => ?_) (fun j hj i hi => ?_), fun x _ hd => by rw [zr_out (by omega), pk_un (by omega), pk_un (by omega)]⟩
      · by_cases e : j = k
        · subst e
          simp only [if_true]
          refine ⟨?_, ?_, hw, by omega⟩
          · rw [zr_out (by omega), pk_un (by omega), pk_us]
          · rw [zr_out (by omega), pk_us]
        · simp only [if_neg e]
          rw [zr_out (by omega), pk_un (by omega), pk_un (by omega), zr_out (by omega), pk_un (by omega), pk_un (by omega)]
          exact i8 j hj
      · by_cases e : j = k
        · subst e
          simp only [if_true]
          exact zr_in (by omega)
        · simp only [if_neg e]
          rw [zr_out (by omega), pk_un (by omega), pk_un (by omega)]
          exact i9 j hj i hi
  · refine Pr.v (β := (N, (tn, B), (f, t), (sn, s), (kf, I), (T, cl))) (V := vSheet a b c) ⟨ok, jc, jr⟩ ok (zFnP x_sheet) (fun v τ h => ?_) fun τ hj => ⟨_, zFnP r_sheet, fun v τ' h => ?_⟩
    · obtain ⟨h1, rfl⟩ := h
      rw [sSheetC, if_neg hq]
      exact ⟨h1, jc, fun _ _ _ => rfl⟩
    · obtain ⟨h1, rfl⟩ := h
      rw [sSheetR, if_neg hq]
      exact ⟨h1, hj, fun _ _ _ => rfl⟩
end Q3
