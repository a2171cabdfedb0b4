/-! ===== scratch numbers, and what stays ===== -/
def scr (a : Nat) : Bool := (decide (3200 ≤ a) && decide (a < 3262)) || (decide (7200 ≤ a) && decide (a < 7600)) || a == 7603 || (decide (7606 ≤ a) && decide (a ≤ 7610)) || (decide (8400 ≤ a) && decide (a < 8800)) || (decide (15600 ≤ a) && decide (a < 42800)) || (decide (48800 ≤ a) && decide (a < 60000)) || (decide (63204 ≤ a) && decide (a ≤ 63208)) || (decide (63212 ≤ a) && decide (a ≤ 63217)) || a == 63220 || a == 63222 || (decide (63765 ≤ a) && decide (a < 64400)) || (decide (65600 ≤ a) && decide (a < 66800)) || (decide (67200 ≤ a) && decide (a < 67600))
def same (σ' σ : Nat → Int32) : Prop := ∀ a, scr a = false → σ' a = σ a
theorem same.rf {σ : Nat → Int32} : same σ σ := fun _ _ => rfl
theorem same.tr {σ σ' τ : Nat → Int32} (h : same τ σ') (h2 : same σ' σ) : same τ σ := fun a ha => (h a ha).trans (h2 a ha)
theorem same_upd {σ τ : Nat → Int32} {a : Nat} {x : Int32} (h : same τ σ) (ha : scr a = true) : same (upd τ a x) σ := fun b hb => by
  rw [pk_un (fun e : b = a => by rw [e, ha] at hb; cases hb)]; exact h b hb
theorem same_sp {σ τ : Nat → Int32} {r : Nat} {Q : Pg} (h : same τ σ) (hr : ∀ i, i < 62 → scr (400 * r + i) = true) : same (sp τ r Q) σ := fun b hb => by
  rw [sp_off]; · exact h b hb
  rcases Nat.lt_or_ge b (400 * r) with q | q
  · exact Or.inl q
  rcases Nat.lt_or_ge b (400 * r + 62) with q2 | q2
  · have := hr (b - 400 * r) (by omega); rw [show 400 * r + (b - 400 * r) = b by omega, hb] at this; cases this
  · exact Or.inr q2
theorem scr8 : ∀ i, i < 62 → scr (400 * 8 + i) = true := by decide +kernel
theorem same_sp8 {σ τ : Nat → Int32} {Q : Pg} (h : same τ σ) : same (sp τ 8 Q) σ := same_sp h scr8
theorem same_rsp {σ τ : Nat → Int32} {o : Nat} {Q : Pg} (h : same τ σ) (ho : 165 ≤ o ∧ o ≤ 275) (h6 : τ 63201 = nI (Q 56)) (h7 : τ 63202 = nI (Q 57)) : same (rsp τ o Q) σ := fun b hb => by
  cases hp : pR o b with
  | none => exact (ov_off hp).trans (h b hb)
  | some i =>
    obtain ⟨hi, rfl⟩ := pR_of hp
    refine (ov_at hp).trans ?_
    rcases (show i < 55 ∨ i = 55 ∨ i = 56 ∨ i = 57 ∨ 58 ≤ i by omega) with e | e | e | e | e
    · exfalso
      simp only [aR, if_pos e] at hb
      have : scr (63600 + o + i) = true := by
        simp only [scr, Bool.or_eq_true, Bool.and_eq_true, decide_eq_true_eq, beq_iff_eq]; omega
      rw [this] at hb; cases hb
    · exfalso; subst e; revert hb; exact (by decide : ¬ scr 63220 = false)
    · subst e; exact h6.symm.trans (h _ hb)
    · subst e; exact h7.symm.trans (h _ hb)
    · exfalso
      simp only [aR] at hb
      rw [if_neg (by omega), if_neg (by omega), if_neg (by omega), if_neg (by omega)] at hb
      have : scr (65600 + (i - 58)) = true := by
        simp only [scr, Bool.or_eq_true, Bool.and_eq_true, decide_eq_true_eq, beq_iff_eq]; omega
      rw [this] at hb; cases hb
theorem hdc.same {σ σ' : Nat → Int32} {r : Nat} {N : Pg} (h : hdc σ r N) (hs : same σ' σ) (hr : ∀ i, i < 58 → scr (400 * r + i) = false) : hdc σ' r N := fun i hi => (hs _ (hr i (by omega))).trans (h i hi)
theorem scr1 : ∀ i, i < 58 → scr (400 * 1 + i) = false := by decide +kernel
theorem hdc1 {σ σ' : Nat → Int32} {N : Pg} (h : hdc σ 1 N) (hs : same σ' σ) : hdc σ' 1 N := h.same hs scr1
theorem scrR0 : ∀ i, i < 62 → (i < 55 ∨ i = 56 ∨ i = 57) → scr (aR 0 i) = false := by decide +kernel
theorem hdk0 {σ σ' : Nat → Int32} {N : Pg} (h : hdk σ 0 N) (hs : same σ' σ) : hdk σ' 0 N := fun i hi => (hs _ (scrR0 i (by omega) hi)).trans (h i hi)
theorem hdc_off {σ : Nat → Int32} {r q : Nat} {N Q : Pg} (h : hdc σ q N) (hne : q ≠ r) : hdc (sp σ r Q) q N := fun i hi => by rw [sp_off (by omega)]; exact h i hi
section YK
variable {G : zG} {X : zX} {μ : zM} {σ : Nat → Int32} {pc : Nat} {L : List (Option Value)} {S : List Value} {Q : Pg}
theorem k_get (n : Nat) {r idx j i : Nat} (hk : zBk r) (hQ : hdc σ r Q) (hj : ([56, 57, 53, 54] : List Nat)[j]? = some i) (hj4 : j < 4) (hf : zFld (zMo μ) idx 0 j) (hd : decode (zMc μ) pc = .ok (.getfield idx, 3)) (hn : pc + 3 = n) (k : Y G X μ σ n L (.int (nI (Q i)) :: S)) : Y G X μ σ pc L (.ref (zGa G r) :: S) := by
  have h9 : cor i ∧ ([(false, 400 * r + 56), (false, 400 * r + 57), (false, 400 * r + 53), (false, 400 * r + 54), (false, 400 * r + 55), (true, r + 1), (true, r + 2), (true, r + 3), (true, r + 4), (true, r + 5), (true, r + 6)] : List (Bool × Nat))[j]? = some (false, 400 * r + i) := by
    match j, hj with
    | 0, h => cases h; exact ⟨by decide, rfl⟩
    | 1, h => cases h; exact ⟨by decide, rfl⟩
    | 2, h => cases h; exact ⟨by decide, rfl⟩
    | 3, h => cases h; exact ⟨by decide, rfl⟩
  refine y_get n r (bk0 hk) h9.2 hf hd hn ?_
  rw [hQ i h9.1]
  exact k
theorem k_ld (n j : Nat) {r r' lo len : Nat} {sl : List (Bool × Nat)} {i : Int32} (hQ : hdc σ r Q) (hr : zSh[r']? = some (0, 400 * r + lo, len, sl)) (hi : i = nI j) (hj : j < len) (hN : lo + len < 55) (hd : decode (zMc μ) pc = .ok (.iaload, 1)) (hn : pc + 1 = n) (k : Y G X μ σ n L (.int (nI (Q (lo + j))) :: S)) : Y G X μ σ pc L (.int i :: .ref (zGa G r') :: S) := by
  refine y_ld n r' j hr hi hj (by omega) hd hn ?_
  rw [Nat.add_assoc, hQ (lo + j) (by omega)]
  exact k
theorem k_ldL (n j : Nat) {r r' : Nat} {sl : List (Bool × Nat)} {i : Int32} (hQ : hdc σ r Q) (hr : zSh[r']? = some (1, 400 * r + 5, 15, sl)) (hi : i = nI j) (hj : j < 15) (hd : decode (zMc μ) pc = .ok (.iaload, 1)) (hn : pc + 1 = n) (k : Y G X μ σ n L (.int (nI (Q (5 + (5 * (j % 3) + j / 3)))) :: S)) : Y G X μ σ pc L (.int i :: .ref (zGa G r') :: S) := by
  refine y_ldL n r' j hr hi hj (by decide) hd hn ?_
  rw [Nat.add_assoc, hQ (5 + (5 * (j % 3) + j / 3)) (by omega)]
  exact k
end YK
/-! ===== the class's book methods, told by core pages ===== -/
section NC
variable {l : Launch} {G : zG} {σ : Nat → Int32} {r : Nat} {N : Pg}
theorem n_hasColour {c : Int32} (hk : zBk r) (hc : hdc σ r N) (ok : okQ N) : zMet l yX0_hasColour mX0_hasColour [.ref (zGa G r), .int c] G (zW G σ) (zFn G (some (.int (bi (inR c (N 56))))) σ) := by
  obtain ⟨Q, hQ, e⟩ := hdc_full hc
  rw [← e 56 (by omega)]; exact c_hasColour hk hQ (ok.eqc e).nc
theorem n_hasOne {c : Int32} (hk : zBk r) (hc : hdc σ r N) (ok : okQ N) : zMet l yX0_hasOne mX0_hasOne [.ref (zGa G r), .int c] G (zW G σ) (zFn G (some (.int (bi (inR c (N 57))))) σ) := by
  obtain ⟨Q, hQ, e⟩ := hdc_full hc
  rw [← e 57 (by omega)]; exact c_hasOne hk hQ (ok.eqc e).np
theorem n_inVats (hk : zBk r) (hc : hdc σ r N) (ok : okQ N) : zMet l yX0_inVats mX0_inVats [.ref (zGa G r)] G (zW G σ) (zFn G (some (.int (nI (vatsQ N)))) σ) := by
  obtain ⟨Q, hQ, e⟩ := hdc_full hc
  rw [← vatsQ_c e ok.nc]; exact c_inVats hk hQ (ok.eqc e).nc
theorem n_heldBy {p : Nat} (hk : zBk r) (hc : hdc σ r N) (ok : okQ N) (hp : p < 4) : zMet l yX0_heldBy mX0_heldBy [.ref (zGa G r), .int (nI p)] G (zW G σ) (zFn G (some (.int (nI (heldQ N p)))) σ) := by
  obtain ⟨Q, hQ, e⟩ := hdc_full hc
  rw [← heldQ_c e ok.nc hp]; exact c_heldBy hk hQ (ok.eqc e).nc hp
theorem n_heldByAll (hk : zBk r) (hc : hdc σ r N) (ok : okQ N) (oz : okZ N) : zMet l yX0_heldByAll mX0_heldByAll [.ref (zGa G r)] G (zW G σ) (zFn G (some (.int (nI (heldA N)))) σ) := by
  obtain ⟨Q, hQ, e⟩ := hdc_full hc
  rw [← heldA_c e ok.nc ok.np]; exact c_heldByAll hk hQ (ok.eqc e).nc (ok.eqc e).np (oz.eqc e)
theorem n_heldOf {c : Nat} (hk : zBk r) (hc : hdc σ r N) (ok : okQ N) (h5 : c < 5) : zMet l yX0_heldOf mX0_heldOf [.ref (zGa G r), .int (nI c)] G (zW G σ) (zFn G (some (.int (nI (heldC N c)))) σ) := by
  obtain ⟨Q, hQ, e⟩ := hdc_full hc
  rw [← heldC_c e ok.np h5]; exact c_heldOf hk hQ (ok.eqc e).np h5
theorem n_rentOf {c : Nat} (hk : zBk r) (hc : hdc σ r N) (ok : okQ N) (h5 : c < 5) : zMet l yX0_rentOf mX0_rentOf [.ref (zGa G r), .int (nI c)] G (zW G σ) (zFn G (some (.int (nI (rentK (N c))))) σ) := by
  obtain ⟨Q, hQ, e⟩ := hdc_full hc
  rw [← e c (by omega)]; exact c_rentOf hk hQ h5 ((ok.eqc e).kd h5)
theorem n_hueOfOne {p : Nat} (hk : zBk r) (hc : hdc σ r N) (ok : okQ N) (hp : p < 4) : zMet l yX0_hueOfOne mX0_hueOfOne [.ref (zGa G r), .int (nI p)] G (zW G σ) (zFn G (some (.int (nI (hueQ N p)))) σ) := by
  obtain ⟨Q, hQ, e⟩ := hdc_full hc
  rw [← hueQ_c e ok.nc hp]; exact c_hueOfOne hk hQ (ok.eqc e) hp
theorem n_rentOfDrops {rr lo len a : Nat} {sl : List (Bool × Nat)} (d : Nat → Nat) (hk : zBk r) (hc : hdc σ r N) (ok : okQ N) (hr : zSh[rr]? = some (0, lo, len, sl)) (hl : a + 5 ≤ len) (hlen : len < 1000) (hf : ∀ i, i < N 56 → σ (lo + (a + i)) = nI (d i)) : zMet l yX0_rentOfDrops mX0_rentOfDrops [.ref (zGa G r), .ref (zGa G rr), .int (nI a)] G (zW G σ) (zFn G (some (.int (nI (sumN (fun c => d c * rentK (N c)) (N 56))))) σ) := by
  obtain ⟨Q, hQ, e⟩ := hdc_full hc
  have h5 := ok.nc
  have e2 : sumN (fun c => d c * rentK (Q c)) (Q 56) = sumN (fun c => d c * rentK (N c)) (N 56) := by rw [e 56 (by omega)]; exact sumN_cg fun i hi => by rw [e i (by omega)]
  rw [← e2]; exact c_rentOfDrops d hk hQ (ok.eqc e).nc (fun i hi => (ok.eqc e).kd hi) hr hl hlen (fun i hi => hf i (by rw [e 56 (by omega)] at hi; exact hi))
theorem n_hueOfDrops {rr lo len a : Nat} {sl : List (Bool × Nat)} (d : Nat → Nat) (hk : zBk r) (hc : hdc σ r N) (ok : okQ N) (hr : zSh[rr]? = some (0, lo, len, sl)) (hl : a + 5 ≤ len) (hlen : len < 1000) (hd : ∀ i, i < N 56 → d i ≤ 99) (hf : ∀ i, i < N 56 → σ (lo + (a + i)) = nI (d i)) : zMet l yX0_hueOfDrops mX0_hueOfDrops [.ref (zGa G r), .ref (zGa G rr), .int (nI a)] G (zW G σ) (zFn G (some (.int (nI (hueD N d)))) σ) := by
  obtain ⟨Q, hQ, e⟩ := hdc_full hc
  rw [← hueD_c (d := d) e ok.nc (fun _ _ => rfl)]
  exact c_hueOfDrops d hk hQ (ok.eqc e).nc (ok.eqc e).2.1 hr hl hlen (fun i hi => hd i (by rw [e 56 (by omega)] at hi; exact hi)) (fun i hi => hf i (by rw [e 56 (by omega)] at hi; exact hi))
end NC
set_option maxRecDepth 100000 in
set_option maxHeartbeats 4000000 in
theorem n_takeFrom {l : Launch} {G : zG} {σ : Nat → Int32} {r q : Nat} {N : Pg} (hk : zBk r) (hk2 : zBk q) (hne : q ≠ r) (hc : hdc σ q N) : zMet l yX0_takeFrom mX0_takeFrom [.ref (zGa G r), .ref (zGa G q)] G (zW G σ) (zFn G none (sp σ r (nrm N))) := by
  refine zMet.of (by decide) rfl (Nat.le_of_ble_eq_true rfl) (Or.inr rfl) fun X hX hq => ?_
  subst hX
  show Y G X mX0_takeFrom σ 0 [some (.ref (zGa G r)), some (.ref (zGa G q))] []
  refine z_aload_n 1 dX0_takeFrom_0 rfl rfl ?_
  refine z_aload_n 2 dX0_takeFrom_1 rfl rfl ?_
  refine y_get 5 _ (bk0 hk2) rfl fl_X0_30 dX0_takeFrom_2 rfl ?_
  refine y_putI 8 _ (bk0 hk) rfl fp_X0_30 dX0_takeFrom_5 rfl ?_
  refine z_aload_n 9 dX0_takeFrom_8 rfl rfl ?_
  refine z_aload_n 10 dX0_takeFrom_9 rfl rfl ?_
  refine y_get 13 _ (bk0 hk2) rfl fl_X0_34 dX0_takeFrom_10 rfl ?_
  refine y_putI 16 _ (bk0 hk) rfl fp_X0_34 dX0_takeFrom_13 rfl ?_
  refine z_aload_n 17 dX0_takeFrom_16 rfl rfl ?_
  refine z_aload_n 18 dX0_takeFrom_17 rfl rfl ?_
  refine y_get 21 _ (bk0 hk2) rfl fl_X0_37 dX0_takeFrom_18 rfl ?_
  refine y_putI 24 _ (bk0 hk) rfl fp_X0_37 dX0_takeFrom_21 rfl ?_
  refine z_aload_n 25 dX0_takeFrom_24 rfl rfl ?_
  refine z_aload_n 26 dX0_takeFrom_25 rfl rfl ?_
  refine y_get 29 _ (bk0 hk2) rfl fl_X0_40 dX0_takeFrom_26 rfl ?_
  refine y_putI 32 _ (bk0 hk) rfl fp_X0_40 dX0_takeFrom_29 rfl ?_
  refine z_aload_n 33 dX0_takeFrom_32 rfl rfl ?_
  refine z_iconst 34 dX0_takeFrom_33 vi0 rfl ?_
  refine y_putI 37 _ (bk0 hk) rfl fp_X0_43 dX0_takeFrom_34 rfl ?_
  refine z_aload_n 38 dX0_takeFrom_37 rfl rfl ?_
  refine y_getr 41 _ (bk0 hk2) rfl fl_X0_9 dX0_takeFrom_38 rfl ?_
  refine z_iconst 42 dX0_takeFrom_41 vi0 rfl ?_
  refine z_aload_n 43 dX0_takeFrom_42 rfl rfl ?_
  refine y_getr 46 _ (bk0 hk) rfl fl_X0_9 dX0_takeFrom_43 rfl ?_
  refine z_iconst 47 dX0_takeFrom_46 vi0 rfl ?_
  refine z_iconst 48 dX0_takeFrom_47 vi5 rfl ?_
  refine y_copy 51 kl_X0_46 (bk1 hk2) (bk1 hk) (by decide) rfl (by decide) dX0_takeFrom_48 rfl ?_
  refine z_aload_n 52 dX0_takeFrom_51 rfl rfl ?_
  refine y_getr 55 _ (bk0 hk2) rfl fl_X0_15 dX0_takeFrom_52 rfl ?_
  refine z_iconst 56 dX0_takeFrom_55 vi0 rfl ?_
  refine z_aload_n 57 dX0_takeFrom_56 rfl rfl ?_
  refine y_getr 60 _ (bk0 hk) rfl fl_X0_15 dX0_takeFrom_57 rfl ?_
  refine z_iconst 61 dX0_takeFrom_60 vi0 rfl ?_
  refine z_bipush 63 dX0_takeFrom_61 vb15 rfl ?_
  refine y_copyL 66 kl_X0_46 (bk2 hk2) (bk2 hk) (by decide) rfl (by decide) dX0_takeFrom_63 rfl ?_
  refine z_aload_n 67 dX0_takeFrom_66 rfl rfl ?_
  refine y_getr 70 _ (bk0 hk2) rfl fl_X0_18 dX0_takeFrom_67 rfl ?_
  refine z_iconst 71 dX0_takeFrom_70 vi0 rfl ?_
  refine z_aload_n 72 dX0_takeFrom_71 rfl rfl ?_
  refine y_getr 75 _ (bk0 hk) rfl fl_X0_18 dX0_takeFrom_72 rfl ?_
  refine z_iconst 76 dX0_takeFrom_75 vi0 rfl ?_
  refine z_iconst 77 dX0_takeFrom_76 vi5 rfl ?_
  refine y_copy 80 kl_X0_46 (bk3 hk2) (bk3 hk) (by decide) rfl (by decide) dX0_takeFrom_77 rfl ?_
  refine z_aload_n 81 dX0_takeFrom_80 rfl rfl ?_
  refine y_getr 84 _ (bk0 hk2) rfl fl_X0_21 dX0_takeFrom_81 rfl ?_
  refine z_iconst 85 dX0_takeFrom_84 vi0 rfl ?_
  refine z_aload_n 86 dX0_takeFrom_85 rfl rfl ?_
  refine y_getr 89 _ (bk0 hk) rfl fl_X0_21 dX0_takeFrom_86 rfl ?_
  refine z_iconst 90 dX0_takeFrom_89 vi0 rfl ?_
  refine z_iconst 91 dX0_takeFrom_90 vi4 rfl ?_
  refine y_copy 94 kl_X0_46 (bk4 hk2) (bk4 hk) (by decide) rfl (by decide) dX0_takeFrom_91 rfl ?_
  refine z_aload_n 95 dX0_takeFrom_94 rfl rfl ?_
  refine y_getr 98 _ (bk0 hk2) rfl fl_X0_24 dX0_takeFrom_95 rfl ?_
  refine z_iconst 99 dX0_takeFrom_98 vi0 rfl ?_
  refine z_aload_n 100 dX0_takeFrom_99 rfl rfl ?_
  refine y_getr 103 _ (bk0 hk) rfl fl_X0_24 dX0_takeFrom_100 rfl ?_
  refine z_iconst 104 dX0_takeFrom_103 vi0 rfl ?_
  refine z_iconst 105 dX0_takeFrom_104 vi4 rfl ?_
  refine y_copy 108 kl_X0_46 (bk5 hk2) (bk5 hk) (by decide) rfl (by decide) dX0_takeFrom_105 rfl ?_
  refine z_aload_n 109 dX0_takeFrom_108 rfl rfl ?_
  refine y_getr 112 _ (bk0 hk2) rfl fl_X0_27 dX0_takeFrom_109 rfl ?_
  refine z_iconst 113 dX0_takeFrom_112 vi0 rfl ?_
  refine z_aload_n 114 dX0_takeFrom_113 rfl rfl ?_
  refine y_getr 117 _ (bk0 hk) rfl fl_X0_27 dX0_takeFrom_114 rfl ?_
  refine z_iconst 118 dX0_takeFrom_117 vi0 rfl ?_
  refine z_bipush 120 dX0_takeFrom_118 vb20 rfl ?_
  refine y_copy 123 kl_X0_46 (bk6 hk2) (bk6 hk) (by decide) rfl (by decide) dX0_takeFrom_120 rfl ?_
  skip
  refine y_cg (σ' := sp σ r (nrm N)) (fun s hs a hin => ?_) ?_
  · have hg : ¬ (400 * r + 58 ≤ a ∧ a < 400 * r + 62) := fun h => ghost_free hk h s hs hin
    by_cases h1 : 400 * r ≤ a ∧ a < 400 * r + 58
    · obtain ⟨i, rfl⟩ : ∃ i, a = 400 * r + i := ⟨a - 400 * r, by omega⟩
      have hi : i < 58 := by omega
      clear h1 hg hin
      rw [sp_at rfl (by omega)]
      by_cases h55 : i = 55
      · subst h55
        simp (disch := omega) only [cp_out, pk_un, pk_us]
        rw [nrm_n (by omega)]; rfl
      have hci : cor i := by omega
      have hq := hc i hci
      rw [nrm_c hci]
      rcases (show i < 5 ∨ (5 ≤ i ∧ i < 20) ∨ (20 ≤ i ∧ i < 25) ∨ (25 ≤ i ∧ i < 29) ∨ (29 ≤ i ∧ i < 33) ∨ (33 ≤ i ∧ i < 53) ∨ i = 53 ∨ i = 54 ∨ i = 56 ∨ i = 57 by omega) with c | c | c | c | c | c | c | c | c | c
      · simp (disch := omega) only [cp_out, cp_in, pk_un]
        rw [← hq]; congr 1; omega
      · simp (disch := omega) only [cp_out, cp_in, pk_un]
        rw [← hq]; congr 1; omega
      · simp (disch := omega) only [cp_out, cp_in, pk_un]
        rw [← hq]; congr 1; omega
      · simp (disch := omega) only [cp_out, cp_in, pk_un]
        rw [← hq]; congr 1; omega
      · simp (disch := omega) only [cp_out, cp_in, pk_un]
        rw [← hq]; congr 1; omega
      · simp (disch := omega) only [cp_out, cp_in, pk_un]
        rw [← hq]; congr 1; omega
      all_goals subst c
      all_goals simp (disch := omega) only [cp_out, pk_un, pk_us]
      all_goals exact hq
    · rw [sp_off (by omega)]
      simp (disch := omega) only [cp_out, pk_un]
  refine z_vret hq rfl dX0_takeFrom_123 rfl rfl ?_
  exact ⟨rfl, rfl⟩
theorem nI_sd {a b : Nat} (ha : a < 2 ^ 30) (hb : b < 2 ^ 30) : (nI a - nI b).toInt = (a : Int) - b := pk_sub_toInt ha hb
theorem zabs {a b : Nat} (ha : a < 2 ^ 30) (hb : b < 2 ^ 30) : (if (0 : Int32) ≤ nI a - nI b then nI a - nI b else 0 - (nI a - nI b)) = nI (dst a b) := by
  have e := nI_sd ha hb
  simp only [dst]
  by_cases h : b ≤ a
  · rw [if_pos (by rw [Int32.le_iff_toInt_le, e, Int32.toInt_zero]; omega), pk_sub h, show a - b + (b - a) = a - b by omega]
  · rw [if_neg (by rw [Int32.le_iff_toInt_le, e, Int32.toInt_zero]; omega), show a - b + (b - a) = b - a by omega, ← pk_sub (by omega), Int32.zero_sub, Int32.neg_sub]
set_option maxRecDepth 100000 in
theorem c_offBetween {l : Launch} {G : zG} {σ : Nat → Int32} {a b : Nat} (ha : a < 2 ^ 30) (hb : b < 2 ^ 30) : zMet l yX6_offBetween mX6_offBetween [.int (nI a), .int (nI b)] G (zW G σ) (zFn G (some (.int (nI (offN a b)))) σ) := by
  refine zMet.of (by decide) rfl (Nat.le_of_ble_eq_true rfl) (Or.inr rfl) fun X hX hq => ?_
  subst hX
  show Y G X mX6_offBetween σ 0 [some (.int (nI a)), some (.int (nI b))] []
  refine z_iload_n 1 dX6_offBetween_0 rfl rfl ?_
  refine z_bipush 3 dX6_offBetween_1 vb100 rfl ?_
  refine z_idivN 4 rfl (show (100 : Int32) = nI 100 from rfl) (by omega) (by omega) dX6_offBetween_3 rfl ?_
  refine z_iload_n 5 dX6_offBetween_4 rfl rfl ?_
  refine z_bipush 7 dX6_offBetween_5 vb100 rfl ?_
  refine z_idivN 8 rfl (show (100 : Int32) = nI 100 from rfl) (by omega) (by omega) dX6_offBetween_7 rfl ?_
  refine z_isub 9 dX6_offBetween_8 rfl ?_
  refine y_ab 12 kl_X6_291 (by decide) (Nat.le_of_ble_eq_true rfl) dX6_offBetween_9 rfl ?_
  rw [zabs (by omega) (by omega)]
  refine z_iload_n 13 dX6_offBetween_12 rfl rfl ?_
  refine z_bipush 15 dX6_offBetween_13 vb10 rfl ?_
  refine z_idivN 16 rfl (show (10 : Int32) = nI 10 from rfl) (by omega) (by omega) dX6_offBetween_15 rfl ?_
  refine z_bipush 18 dX6_offBetween_16 vb10 rfl ?_
  refine z_iremN 19 rfl (show (10 : Int32) = nI 10 from rfl) (by omega) (by omega) dX6_offBetween_18 rfl ?_
  refine z_iload_n 20 dX6_offBetween_19 rfl rfl ?_
  refine z_bipush 22 dX6_offBetween_20 vb10 rfl ?_
  refine z_idivN 23 rfl (show (10 : Int32) = nI 10 from rfl) (by omega) (by omega) dX6_offBetween_22 rfl ?_
  refine z_bipush 25 dX6_offBetween_23 vb10 rfl ?_
  refine z_iremN 26 rfl (show (10 : Int32) = nI 10 from rfl) (by omega) (by omega) dX6_offBetween_25 rfl ?_
  refine z_isub 27 dX6_offBetween_26 rfl ?_
  refine y_ab 30 kl_X6_291 (by decide) (Nat.le_of_ble_eq_true rfl) dX6_offBetween_27 rfl ?_
  rw [zabs (by omega) (by omega)]
  refine z_iaddN 31 rfl rfl dX6_offBetween_30 rfl ?_
  refine z_iload_n 32 dX6_offBetween_31 rfl rfl ?_
  refine z_bipush 34 dX6_offBetween_32 vb10 rfl ?_
  refine z_iremN 35 rfl (show (10 : Int32) = nI 10 from rfl) (by omega) (by omega) dX6_offBetween_34 rfl ?_
  refine z_iload_n 36 dX6_offBetween_35 rfl rfl ?_
  refine z_bipush 38 dX6_offBetween_36 vb10 rfl ?_
  refine z_iremN 39 rfl (show (10 : Int32) = nI 10 from rfl) (by omega) (by omega) dX6_offBetween_38 rfl ?_
  refine z_isub 40 dX6_offBetween_39 rfl ?_
  refine y_ab 43 kl_X6_291 (by decide) (Nat.le_of_ble_eq_true rfl) dX6_offBetween_40 rfl ?_
  rw [zabs (by omega) (by omega)]
  refine z_iaddN 44 rfl rfl dX6_offBetween_43 rfl ?_
  refine z_iret hq rfl dX6_offBetween_44 rfl rfl ?_
  exact ⟨rfl, rfl⟩

