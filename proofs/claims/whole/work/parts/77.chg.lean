/-! ===== the page stays good ===== -/
theorem okPg_un {N : Pg} {i v : Nat} (h : okPg N) (hv : v ≤ bnd i) (hi : i < 33) : okPg (un N i v) := ⟨okQ_un h.1 (fun _ => hv), okZ_un h.2.1 (Or.inl hi), by rw [un_n (by omega)]; exact h.2.2.1, by rw [un_n (by omega), un_n (by omega)]; exact h.2.2.2⟩
theorem okPg_alt {N : Pg} {c w v : Int32} (h : okPg N) : okPg (altQ N c w v) := by
  by_cases hq : okAlt N c w v
  · rw [altQ, if_pos hq]
    obtain ⟨h1, h2, h3⟩ := hq
    have a2 := h.1.nc
    obtain ⟨c', hc, rfl⟩ := inR_of h1 (by omega)
    obtain ⟨w', hw, rfl⟩ := inR_of h2 (by omega)
    have ew : nN (nI w') = w' := nN_nI (by omega)
    have ec : nN (nI c') = c' := nN_nI (by omega)
    rw [ew] at h3
    have hm : altM w' ≤ 99 := by simp only [altM]; (repeat' split) <;> omega
    obtain ⟨v', hv, rfl⟩ := inR_of h3 (by omega)
    have ev : nN (nI v') = v' := nN_nI (by omega)
    rw [ew, ec, ev]
    have hb : altM w' ≤ bnd (5 * w' + c') := by
      have : w' = 0 ∨ w' = 1 ∨ w' = 2 ∨ w' = 3 ∨ w' = 4 := by omega
      simp only [altM, bnd]
      rcases this with rfl | rfl | rfl | rfl | rfl <;> (repeat' split) <;> omega
    exact okPg_un h (by omega) (by omega)
  · rw [altQ, if_neg hq]; exact h
theorem okPg_pay {N : Pg} {p w v : Int32} (h : okPg N) : okPg (payQ N p w v) := by
  by_cases hq : okPay N p w v
  · rw [payQ, if_pos hq]
    obtain ⟨h1, h2, h3⟩ := hq
    have a2 := h.1.np
    obtain ⟨p', hp, rfl⟩ := inR_of h1 (by omega)
    obtain ⟨w', hw, rfl⟩ := inR_of h2 (by omega)
    have ew : nN (nI w') = w' := nN_nI (by omega)
    have ec : nN (nI p') = p' := nN_nI (by omega)
    rw [ew] at h3
    have hm : payM w' ≤ 999 := by simp only [payM]; (repeat' split) <;> omega
    obtain ⟨v', hv, rfl⟩ := inR_of h3 (by omega)
    have ev : nN (nI v') = v' := nN_nI (by omega)
    rw [ew, ec, ev]
    have hb : payM w' ≤ bnd (25 + 4 * w' + p') := by
      have : w' = 0 ∨ w' = 1 := by omega
      simp only [payM, bnd]
      rcases this with rfl | rfl <;> (repeat' split) <;> omega
    exact okPg_un h (by omega) (by omega)
  · rw [payQ, if_neg hq]; exact h
theorem okPg_lend {N : Pg} {p c n : Int32} (h : okPg N) : okPg (lendQ N p c n) := by
  have e : ∀ i, 53 ≤ i → lendQ N p c n i = N i := by
    intro i hi
    by_cases hq : lendOk N p c n ∧ ¬ lendNo N p c n
    · rw [lendQ, if_pos hq]
      have b1 := h.1.nc
      have b2 := h.1.np
      obtain ⟨⟨h1, h2, -⟩, -⟩ := hq
      obtain ⟨p', hp, rfl⟩ := inR_of h1 (by omega)
      obtain ⟨c', hc, rfl⟩ := inR_of h2 (by omega)
      rw [nN_nI (by omega), nN_nI (by omega), un_n (by omega), un_n (by omega)]
    · rw [lendQ, if_neg hq]
  exact ⟨okQ_lendQ h.1, okZ_lendQ h.2.1 h.1, by rw [e 53 (by omega)]; exact h.2.2.1, by rw [e 53 (by omega), e 54 (by omega)]; exact h.2.2.2⟩
theorem okPg_bring {N : Pg} {p c n : Int32} (h : okPg N) : okPg (bringQ N p c n) := by
  by_cases hq : lendOk N p c n ∧ ¬ N (33 + 5 * nN p + nN c) < nN n
  · rw [bringQ, if_pos hq]
    have b1 := h.1.nc
    have b2 := h.1.np
    obtain ⟨⟨h1, h2, -⟩, -⟩ := hq
    obtain ⟨p', hp, rfl⟩ := inR_of h1 (by omega)
    obtain ⟨c', hc, rfl⟩ := inR_of h2 (by omega)
    rw [nN_nI (show p' < 2 ^ 31 by omega), nN_nI (show c' < 2 ^ 31 by omega)]
    refine ⟨okQ_br h.1 (by omega) (by omega), ?_, ?_, ?_⟩
    · rw [brQ]
      refine okZ_un ?_ (Or.inl (by omega))
      intro q d hq hd hx
      rw [un_n (by omega), un_n (by omega)] at hx
      rw [un_n (by omega)]
      exact h.2.1 q d hq hd hx
    · rw [brQ, un_n (by omega), un_n (by omega)]; exact h.2.2.1
    · rw [brQ, un_n (by omega), un_n (by omega), un_n (by omega), un_n (by omega)]; exact h.2.2.2
  · rw [bringQ, if_neg hq]; exact h
theorem okPg_dys {N : Pg} {n : Int32} (h : okPg N) : okPg (dysQ N n) := by
  by_cases hq : inR n 31 ∧ ¬ 1000 ≤ N 53 + nN n
  · rw [dysQ, if_pos hq]
    have e := (daysA_56 h.1 (nN n)).2.2
    have e2 := (daysA_54 h.1 (nN n)).2
    have h3 := h.2.2.2
    exact ⟨okQ_daysA h.1 _, okZ_daysA h.2.1 h.1 _, by omega, by omega⟩
  · rw [dysQ, if_neg hq]; exact h
theorem okPg_rdGo {c : Nat → Int32} {s : Nat} {a : Int} : ∀ {m i : Nat} {N : Pg}, okPg N → okPg (rdGo c s a m i N).2.2
  | 0, i, N, h => h
  | m + 1, i, N, h => by
    simp only [rdGo]
    by_cases h1 : rdIn a s i
    · rw [if_pos h1]
      by_cases h2 : 0 ≤ rdV c a i N
      · rw [if_pos h2]; exact okPg_rdGo (okPg_lend h)
      · rw [if_neg h2]; exact h
    · rw [if_neg h1]; exact h
theorem okPg_rd {C : Nat → Nat → Int32} {T : Sht} {N : Pg} {k w a n : Int32} (h : okPg N) : okPg (qRead C T N k w a n) := by
  have e : okPg (rdR C T N k w a n).2.2 := by
    simp only [rdR, rdAll]
    by_cases h0 : nN n = 0
    · rw [if_pos h0]; exact h
    · rw [if_neg h0]
      cases hT : T (nN k) with
      | none => exact h
      | some q =>
        obtain ⟨L, s⟩ := q
        by_cases hL : L = nN w
        · simp only [if_pos hL]; exact okPg_rdGo h
        · simp only [if_neg hL]; exact h
  simp only [qRead]
  by_cases hq : okRead k w n
  · rw [if_pos hq]
    generalize rdR C T N k w a n = r at e
    obtain ⟨o, i, Q⟩ := r
    cases o with
    | none => exact h
    | some f => exact e
  · rw [if_neg hq]; exact h
section PP
variable {l : Launch} {G : zG} {σ : Nat → Int32} {yx yr : MethodName} {mx mr : zM} {av : List Value}
theorem Pr.p {α : Al} {V : Int32} {N' : Pg} (J : JJ σ α) (ok' : okPg N') (hx : zMet l yx mx (.ref (zGa G 0) :: av) G (zW G σ) (zP G (pC1 σ V N'))) (hr : ∀ τ, JR τ α → zMet l yr mr (.ref (zGa G 158) :: av) G (zW G τ) (zP G (pR1 τ V N'))) : Pr l G σ yx mx yr mr av := by
  obtain ⟨N, ⟨tn, B⟩, ⟨f, t⟩, ⟨sn, s⟩, ⟨kf, I⟩, T, cl⟩ := α
  obtain ⟨ok, jc, jr⟩ := J
  refine Pr.v (β := (N', (tn, B), (f, t), (sn, s), (kf, I), (T, cl))) (V := V) ⟨ok, jc, jr⟩ ⟨ok', ok.2⟩ hx (fun v τ h => ⟨h.1, JC_p ok.2.1.1 ok.2.2.1.1 jc (fun a ha hd => h.2.2 a ha (by omega)) h.2.1, fun a ha hd => h.2.2 a ha (by omega)⟩) fun τ hj => ⟨_, hr τ hj, fun v τ' h => ⟨h.1, JR_p ok.2.1.1 ok.2.2.1.1 hj (fun a ha hd => h.2.2 a ha (by omega)) h.2.1, fun a ha hd => h.2.2 a ha (by omega)⟩⟩
end PP
section QQ
variable {l : Launch} {G : zG} {σ : Nat → Int32} {a b c d : Int32}
theorem q_alter (h : Inv σ) : Pr l G σ yX6_alter mX6_alter yX7_alter mX7_alter [.int a, .int b, .int c] := by
  obtain ⟨α, J⟩ := h
  exact Pr.p J (okPg_alt J.1.1) (x_alter J.2.1.1 J.1.1.1) (fun τ hj => r_alter hj.1 J.1.1.1)
theorem q_pay (h : Inv σ) : Pr l G σ yX6_pay mX6_pay yX7_pay mX7_pay [.int a, .int b, .int c] := by
  obtain ⟨α, J⟩ := h
  exact Pr.p J (okPg_pay J.1.1) (x_pay J.2.1.1 J.1.1.1) (fun τ hj => r_pay hj.1 J.1.1.1)
theorem q_lend (h : Inv σ) : Pr l G σ yX6_lend mX6_lend yX7_lend mX7_lend [.int a, .int b, .int c] := by
  obtain ⟨α, J⟩ := h
  exact Pr.p J (okPg_lend J.1.1) (x_lend J.2.1.1 J.1.1.1) (fun τ hj => r_lend hj.1 J.1.1.1)
theorem q_bring (h : Inv σ) : Pr l G σ yX6_bring mX6_bring yX7_bring mX7_bring [.int a, .int b, .int c] := by
  obtain ⟨α, J⟩ := h
  exact Pr.p J (okPg_bring J.1.1) (x_bring J.2.1.1 J.1.1.1) (fun τ hj => r_bring hj.1 J.1.1.1)
theorem q_days (h : Inv σ) : Pr l G σ yX6_days mX6_days yX7_days mX7_days [.int a] := by
  obtain ⟨α, J⟩ := h
  exact Pr.p J (okPg_dys J.1.1) (x_days J.2.1.1 J.1.1.1 J.1.1.2.2.1) (fun τ hj => r_days hj.1 J.1.1.1 J.1.1.2.2.1)
theorem q_count (h : Inv σ) : Pr l G σ yX6_count mX6_count yX7_count mX7_count [.int a] := by
  obtain ⟨α, J⟩ := h
  have e : ∀ {s s' t t' : Int32} {f f' : Nat → Int32} {T : Sht} {N : Pg} {w : Int32}, s = s' → t = t' → f 0 = f' 0 → f 1 = f' 1 → vCount s f t T N w = vCount s' f' t' T N w := by
    intro s s' t t' f f' T N w h1 h2 h3 h4
    subst h1; subst h2
    simp only [vCount]
    split
    · match nN w with
      | 0 => rfl
      | 1 => simp only [cntV, h3, h4]
      | 2 => rfl
      | 3 => rfl
      | 4 => rfl
      | n + 5 => rfl
    · rfl
  have jc := J.2.1
  have jr := J.2.2
  exact Pr.n J (x_count jc.1 J.1.1.1 jc.2.2.2.2.2.2.2.1) (r_count jr.1 J.1.1.1 jr.2.2.2.2.2.2.2.1) (e (jc.2.2.2.2.1.1.trans jr.2.2.2.2.1.1.symm) (jc.2.1.1.trans jr.2.1.1.symm) ((jc.2.2.2.2.2.1 0 (by omega)).trans (jr.2.2.2.2.2.1 0 (by omega)).symm) ((jc.2.2.2.2.2.1 1 (by omega)).trans (jr.2.2.2.2.2.1 1 (by omega)).symm))
end QQ
