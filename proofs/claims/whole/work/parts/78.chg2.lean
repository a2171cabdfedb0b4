/-! ===== tape and looks ===== -/
theorem feed_T {σ : Nat → Int32} {len at_ tn : Nat} {B : Nat → Nat} {c : Int32} (h : σ len = nI tn ∧ ∀ i, i < tn → σ (at_ + i) = nI (B i)) (hl : len < at_ ∨ at_ + 160 ≤ len) (hq : inR c 128 ∧ tn < 160) : (sFeed σ tn c at_ len) len = nI (tn + 1) ∧ ∀ i, i < tn + 1 → (sFeed σ tn c at_ len) (at_ + i) = nI (if i = tn then nN c else B i) := by
  rw [sFeed, if_pos hq]
  refine ⟨pk_us, fun i hi => ?_⟩
  rw [pk_un (by omega)]
  by_cases e : i = tn
  · subst e
    rw [pk_us, if_pos rfl]
    obtain ⟨c', hc, rfl⟩ := inR_of hq.1 (by omega)
    rw [nN_nI (by omega)]
  · rw [pk_un (by omega), if_neg e]; exact h.2 i (by omega)
theorem feed_off {σ : Nat → Int32} {len at_ tn a : Nat} {c : Int32} (h1 : a ≠ len) (h2 : a < at_ ∨ at_ + 160 ≤ a) : sFeed σ tn c at_ len a = σ a := by
  simp only [sFeed]
  split
  · rename_i hq
    rw [pk_un h1, pk_un (by omega)]
  · rfl
section Q2
variable {l : Launch} {G : zG} {σ : Nat → Int32} {a b c d : Int32}
theorem q_feed (h : Inv σ) : Pr l G σ yX6_feed mX6_feed yX7_feed mX7_feed [.int a] := by
  obtain ⟨⟨N, ⟨tn, B⟩, ⟨f, t⟩, ⟨sn, s⟩, ⟨kf, I⟩, T, cl⟩, ok, jc, jr⟩ := h
  have ht : tn ≤ 160 := ok.2.1.1
  have hs : sn ≤ 6 := ok.2.2.1.1
  by_cases hq : inR a 128 ∧ tn < 160
  · refine Pr.v (β := (N, (tn + 1, fun i => if i = tn then nN a else B i), (f, t), (sn, s), (kf, I), (T, cl))) (V := vFeed tn a) ⟨ok, jc, jr⟩ ⟨ok.1, ⟨by show tn + 1 ≤ 160; omega, fun i hi => ?_⟩, ok.2.2⟩ (zFnP (x_feed (tn := tn) jc.2.1.1 ht)) (fun v τ h => ?_) fun τ hj => ⟨_, zFnP (r_feed (tn := tn) hj.2.1.1 ht), fun v τ' h => ?_⟩
    · show (if i = tn then nN a else B i) ≤ 127
      have hi : i < tn + 1 := hi
      by_cases e : i = tn
      · rw [if_pos e]
        obtain ⟨c', hc, rfl⟩ := inR_of hq.1 (by omega)
        rw [nN_nI (by omega)]; omega
      · rw [if_neg e]; exact ok.2.1.2 i (by show i < tn; omega)
    · obtain ⟨h1, rfl⟩ := h
      exact ⟨h1, JC_tape ht hs jc (fun x _ hd => feed_off (by omega) (by omega)) (feed_T jc.2.1 (by omega) hq), fun x _ hd => feed_off (by omega) (by omega)⟩
    · obtain ⟨h1, rfl⟩ := h
      exact ⟨h1, JR_tape ht hs hj (fun x _ hd => feed_off (by omega) (by omega)) (feed_T hj.2.1 (by omega) hq), fun x _ hd => feed_off (by omega) (by omega)⟩
  · refine Pr.v (β := (N, (tn, B), (f, t), (sn, s), (kf, I), (T, cl))) (V := vFeed tn a) ⟨ok, jc, jr⟩ ok (zFnP (x_feed (tn := tn) jc.2.1.1 ht)) (fun v τ h => ?_) fun τ hj => ⟨_, zFnP (r_feed (tn := tn) hj.2.1.1 ht), fun v τ' h => ?_⟩
    · obtain ⟨h1, rfl⟩ := h
      rw [sFeed, if_neg hq]
      exact ⟨h1, jc, fun _ _ _ => rfl⟩
    · obtain ⟨h1, rfl⟩ := h
      rw [sFeed, if_neg hq]
      exact ⟨h1, hj, fun _ _ _ => rfl⟩
theorem q_end (h : Inv σ) : Pr l G σ yX6_end mX6_end yX7_end mX7_end [.int a] := by
  obtain ⟨⟨N, ⟨tn, B⟩, ⟨f, t⟩, ⟨sn, s⟩, ⟨kf, I⟩, T, cl⟩, ok, jc, jr⟩ := h
  have ht : tn ≤ 160 := ok.2.1.1
  have hs : sn ≤ 6 := ok.2.2.1.1
  by_cases hq : inR a (tn + 1)
  · obtain ⟨m, hm, rfl⟩ := inR_of hq (by omega)
    refine Pr.v (β := (N, (m, B), (f, t), (sn, s), (kf, I), (T, cl))) (V := vCut tn (nI m)) ⟨ok, jc, jr⟩ ⟨ok.1, ⟨by show m ≤ 160; omega, fun i hi => ok.2.1.2 i (Nat.lt_of_lt_of_le (show i < m from hi) (by show m ≤ tn; omega))⟩, ok.2.2⟩ (zFnP (x_end (tn := tn) jc.2.1.1 ht)) (fun v τ h => ?_) fun τ hj => ⟨_, zFnP (r_end (tn := tn) hj.2.1.1 ht), fun v τ' h => ?_⟩
    · obtain ⟨h1, rfl⟩ := h
      rw [sCut, if_pos hq]
      exact ⟨h1, JC_tape ht hs jc (fun x _ hd => pk_un (by omega)) ⟨pk_us, fun i hi => by rw [pk_un (by omega)]; exact jc.2.1.2 i (by show i < tn; omega)⟩, fun x _ hd => pk_un (by omega)⟩
    · obtain ⟨h1, rfl⟩ := h
      rw [sCut, if_pos hq]
      exact ⟨h1, JR_tape ht hs hj (fun x _ hd => pk_un (by omega)) ⟨pk_us, fun i hi => by rw [pk_un (by omega)]; exact hj.2.1.2 i (by show i < tn; omega)⟩, fun x _ hd => pk_un (by omega)⟩
  · refine Pr.v (β := (N, (tn, B), (f, t), (sn, s), (kf, I), (T, cl))) (V := vCut tn a) ⟨ok, jc, jr⟩ ok (zFnP (x_end (tn := tn) jc.2.1.1 ht)) (fun v τ h => ?_) fun τ hj => ⟨_, zFnP (r_end (tn := tn) hj.2.1.1 ht), fun v τ' h => ?_⟩
    · obtain ⟨h1, rfl⟩ := h
      rw [sCut, if_neg hq]
      exact ⟨h1, jc, fun _ _ _ => rfl⟩
    · obtain ⟨h1, rfl⟩ := h
      rw [sCut, if_neg hq]
      exact ⟨h1, hj, fun _ _ _ => rfl⟩
theorem q_forget (h : Inv σ) : Pr l G σ yX6_forget mX6_forget yX7_forget mX7_forget [.int a] := by
  obtain ⟨⟨N, ⟨tn, B⟩, ⟨f, t⟩, ⟨sn, s⟩, ⟨kf, I⟩, T, cl⟩, ok, jc, jr⟩ := h
  have ht : tn ≤ 160 := ok.2.1.1
  have hs : sn ≤ 6 := ok.2.2.1.1
  by_cases hq : inR a (sn + 1)
  · obtain ⟨m, hm, rfl⟩ := inR_of hq (by omega)
    refine Pr.v (β := (N, (tn, B), (f, t), (m, s), (kf, I), (T, cl))) (V := vCut sn (nI m)) ⟨ok, jc, jr⟩ ⟨ok.1, ok.2.1, ⟨by show m ≤ 6; omega, fun i hi => ok.2.2.1.2 i (Nat.lt_of_lt_of_le (show i < m from hi) (by show m ≤ sn; omega))⟩, ok.2.2.2⟩ (zFnP (x_forget (tn := sn) jc.2.2.2.2.1.1 hs)) (fun v τ h => ?_) fun τ hj => ⟨_, zFnP (r_forget (tn := sn) hj.2.2.2.2.1.1 hs), fun v τ' h => ?_⟩
    · obtain ⟨h1, rfl⟩ := h
      rw [sCut, if_pos hq]
      refine ⟨h1, JC_look ht hs jc (fun x _ hd => pk_un (by omega)) ⟨pk_us, fun i hi => ?_⟩, fun x _ hd => pk_un (by omega)⟩
      rw [pk_un (by omega), pk_un (by omega), pk_un (by omega)]
      exact jc.2.2.2.2.1.2 i (by show i < sn; omega)
    · obtain ⟨h1, rfl⟩ := h
      rw [sCut, if_pos hq]
      refine ⟨h1, JR_look ht hs hj (fun x _ hd => pk_un (by omega)) ⟨pk_us, fun i hi => ?_⟩, fun x _ hd => pk_un (by omega)⟩
      rw [pk_un (by omega)]
      exact hj.2.2.2.2.1.2 i (by show i < 3 * sn; omega)
  · refine Pr.v (β := (N, (tn, B), (f, t), (sn, s), (kf, I), (T, cl))) (V := vCut sn a) ⟨ok, jc, jr⟩ ok (zFnP (x_forget (tn := sn) jc.2.2.2.2.1.1 hs)) (fun v τ h => ?_) fun τ hj => ⟨_, zFnP (r_forget (tn := sn) hj.2.2.2.2.1.1 hs), fun v τ' h => ?_⟩
    · obtain ⟨h1, rfl⟩ := h
      rw [sCut, if_neg hq]
      exact ⟨h1, jc, fun _ _ _ => rfl⟩
    · obtain ⟨h1, rfl⟩ := h
      rw [sCut, if_neg hq]
      exact ⟨h1, hj, fun _ _ _ => rfl⟩
theorem q_see (h : Inv σ) : Pr l G σ yX6_see mX6_see yX7_see mX7_see [.int a, .int b, .int c] := by
  obtain ⟨⟨N, ⟨tn, B⟩, ⟨f, t⟩, ⟨sn, s⟩, ⟨kf, I⟩, T, cl⟩, ok, jc, jr⟩ := h
  have ht : tn ≤ 160 := ok.2.1.1
  have hs : sn ≤ 6 := ok.2.2.1.1
  have np : N 57 ≤ 4 := ok.1.1.np
  by_cases hq : okSee N a b c ∧ sn < 6
  · have hq0 := hq
    obtain ⟨⟨q1, q2, q3⟩, q4⟩ := hq
    obtain ⟨a', ha, rfl⟩ := inR_of q1 (by omega)
    obtain ⟨b', hb, rfl⟩ := inR_of q2 (by omega)
    obtain ⟨c', hc, rfl⟩ := inR_of q3 (by omega)
    refine Pr.v (β := (N, (tn, B), (f, t), (sn + 1, fun i => if i = 3 * sn then a' else if i = 3 * sn + 1 then b' else if i = 3 * sn + 2 then c' else s i), (kf, I), (T, cl))) (V := vSee N sn (nI a') (nI b') (nI c')) ⟨ok, jc, jr⟩ ⟨ok.1, ok.2.1, ⟨by show sn + 1 ≤ 6; omega, fun e he => ?_⟩, ok.2.2.2⟩ (zFnP (x_see (N := N) (sn := sn) jc.1 ok.1.1 jc.2.2.2.2.1.1 hs)) (fun v τ h => ?_) fun τ hj => ⟨_, zFnP (r_see (N := N) (sn := sn) hj.1 ok.1.1 hj.2.2.2.2.1.1 hs), fun v τ' h => ?_⟩
    · have he : e < sn + 1 := he
      show (if 3 * e = 3 * sn then a' else if 3 * e = 3 * sn + 1 then b' else if 3 * e = 3 * sn + 2 then c' else s (3 * e)) ≤ 20 ∧ (if 3 * e + 1 = 3 * sn then a' else if 3 * e + 1 = 3 * sn + 1 then b' else if 3 * e + 1 = 3 * sn + 2 then c' else s (3 * e + 1)) < 4 ∧ (if 3 * e + 2 = 3 * sn then a' else if 3 * e + 2 = 3 * sn + 1 then b' else if 3 * e + 2 = 3 * sn + 2 then c' else s (3 * e + 2)) ≤ 999
      by_cases ee : e = sn
      · subst ee
        rw [if_pos rfl, if_neg (by omega), if_pos rfl, if_neg (by omega), if_neg (by omega), if_pos rfl]
        omega
      · rw [if_neg (by omega), if_neg (by omega), if_neg (by omega), if_neg (by omega), if_neg (by omega), if_neg (by omega), if_neg (by omega), if_neg (by omega), if_neg (by omega)]
        exact ok.2.2.1.2 e (by show e < sn; omega)
    · obtain ⟨h1, rfl⟩ := h
      rw [sSeeC, if_pos hq0]
      refine ⟨h1, JC_look ht hs jc (fun x _ hd => by rw [pk_un (by omega), pk_un (by omega), pk_un (by omega), pk_un (by omega)]) ⟨pk_us, fun e he => ?_⟩, fun x _ hd => by rw [pk_un (by omega), pk_un (by omega), pk_un (by omega), pk_un (by omega)]⟩
      dsimp only
      by_cases ee : e = sn
      · subst ee
        refine ⟨?_, ?_, ?_⟩
        · rw [pk_un (by omega), pk_un (by omega), pk_un (by omega), pk_us, if_pos rfl]
        · rw [pk_un (by omega), pk_un (by omega), pk_us, if_neg (by omega), if_pos rfl]
        · rw [pk_un (by omega), pk_us, if_neg (by omega), if_neg (by omega), if_pos rfl]
      · have h0 := jc.2.2.2.2.1.2 e (by show e < sn; omega)
        refine ⟨?_, ?_, ?_⟩
        · rw [pk_un (by omega), pk_un (by omega), pk_un (by omega), pk_un (by omega), if_neg (by omega), if_neg (by omega), if_neg (by omega)]; exact h0.1
        · rw [pk_un (by omega), pk_un (by omega), pk_un (by omega), pk_un (by omega), if_neg (by omega), if_neg (by omega), if_neg (by omega)]; exact h0.2.1
        · rw [pk_un (by omega), pk_un (by omega), pk_un (by omega), pk_un (by omega), if_neg (by omega), if_neg (by omega), if_neg (by omega)]; exact h0.2.2
    · obtain ⟨h1, rfl⟩ := h
      rw [sSeeR, if_pos hq0]
      refine ⟨h1, JR_look ht hs hj (fun x _ hd => by rw [pk_un (by omega), pk_un (by omega), pk_un (by omega), pk_un (by omega)]) ⟨pk_us, fun e he => ?_⟩, fun x _ hd => by rw [pk_un (by omega), pk_un (by omega), pk_un (by omega), pk_un (by omega)]⟩
      dsimp only
      rw [pk_un (by omega)]
      by_cases e2 : e = 3 * sn + 2
      · subst e2
        rw [pk_us, if_neg (by omega), if_neg (by omega), if_pos rfl]
      · rw [pk_un (by omega)]
        by_cases e1 : e = 3 * sn + 1
        · subst e1
          rw [pk_us, if_neg (by omega), if_pos rfl]
        · rw [pk_un (by omega)]
          by_cases e0 : e = 3 * sn
          · subst e0
            rw [pk_us, if_pos rfl]
          · rw [pk_un (by omega), if_neg e0, if_neg e1, if_neg e2]
            exact hj.2.2.2.2.1.2 e (by show e < 3 * sn; omega)
  · refine Pr.v (β := (N, (tn, B), (f, t), (sn, s), (kf, I), (T, cl))) (V := vSee N sn a b c) ⟨ok, jc, jr⟩ ok (zFnP (x_see (N := N) (sn := sn) jc.1 ok.1.1 jc.2.2.2.2.1.1 hs)) (fun v τ h => ?_) fun τ hj => ⟨_, zFnP (r_see (N := N) (sn := sn) hj.1 ok.1.1 hj.2.2.2.2.1.1 hs), fun v τ' h => ?_⟩
    · obtain ⟨h1, rfl⟩ := h
      rw [sSeeC, if_neg hq]
      exact ⟨h1, jc, fun _ _ _ => rfl⟩
    · obtain ⟨h1, rfl⟩ := h
      rw [sSeeR, if_neg hq]
      exact ⟨h1, hj, fun _ _ _ => rfl⟩
end Q2
