def aTxt (τ' : Nat → Int32) (v : Option Value) (r : Sum (Nat × Nat) (Pg × Nat)) : Prop := match r with
  | .inl (c, s) => (∃ x, v = some (.int x)) ∧ 1 ≤ c ∧ c ≤ 6 ∧ s ≤ 160 ∧ τ' (400 * 19 + 2) = nI c ∧ τ' (400 * 19 + 3) = nI s
  | .inr (Q, n) => v = some (.int (nI n)) ∧ τ' (400 * 19 + 2) = 0 ∧ hds τ' 21 Q
theorem lineF_l {tn : Nat} {B : Nat → Nat} {k s e c s' : Nat} {Q : Pg} {T : Int32} (hs : s ≤ tn) (he : e ≤ tn) (h : lineF tn B k s e Q T = .inl (c, s')) : 1 ≤ c ∧ c ≤ 6 ∧ s' ≤ tn := by
  have nl : ∀ {α : Type} {a most : Nat} {f : Tk → Sum (Nat × Nat) α}, a ≤ tn → bnd' (numF tn B a most) f = .inl (c, s') → (1 ≤ c ∧ c ≤ 6 ∧ s' ≤ tn) ∨ ∃ v s0 e0, e0 ≤ tn ∧ s0 ≤ tn ∧ f (v, s0, e0) = .inl (c, s') := fun {α a most f} ha h => by
    cases h0 : numF tn B a most with
    | inl q =>
      obtain ⟨c1, s1⟩ := q
      rw [h0, bnd_l] at h
      have hh := Sum.inl.inj h
      simp only [Prod.mk.injEq] at hh
      have := numF_l ha h0
      exact Or.inl (by omega)
    | inr q =>
      obtain ⟨v, s0, e0⟩ := q
      rw [h0, bnd_r] at h
      have := numF_ok ha h0
      exact Or.inr ⟨v, s0, e0, this.2.2.2.1, this.2.1, h⟩
  have sl : ∀ {α : Type} {a : Nat} {f : Nat → Sum (Nat × Nat) α}, a ≤ tn → (∀ x, ∃ y, f x = .inr y) → bnd' (stopF tn B a) f = .inl (c, s') → 1 ≤ c ∧ c ≤ 6 ∧ s' ≤ tn := fun {α a f} ha hf h => by
    cases h0 : stopF tn B a with
    | inl q =>
      obtain ⟨c1, s1⟩ := q
      rw [h0, bnd_l] at h
      have hh := Sum.inl.inj h
      simp only [Prod.mk.injEq] at hh
      have := stopF_l ha h0
      omega
    | inr q =>
      rw [h0, bnd_r] at h
      obtain ⟨y, hy⟩ := hf q
      rw [hy] at h; cases h
  have pl : ∀ {α : Type} {c1 s1 : Nat}, (Sum.inl (c1, s1) : Sum (Nat × Nat) α) = .inl (c, s') → c1 = c ∧ s1 = s' := fun h => by
    have hh := Sum.inl.inj h
    simp only [Prod.mk.injEq] at hh
    exact hh
  rw [lineF] at h
  split at h
  · have := pl h; omega
  split at h
  · rw [lentF] at h
    rcases nl he h with h | ⟨v, s0, e0, k1, k2, h⟩
    · exact h
    dsimp only at h
    rcases nl k1 h with h | ⟨v1, s1, e1, k3, k4, h⟩
    · exact h
    dsimp only at h
    split at h
    · have := pl h; omega
    rcases nl k3 h with h | ⟨v2, s2, e2, k5, k6, h⟩
    · exact h
    exact sl k5 (fun x => ⟨_, rfl⟩) h
  split at h
  · rw [oneF] at h
    split at h
    · have := pl h; omega
    rcases nl he h with h | ⟨v, s0, e0, k1, k2, h⟩
    · exact h
    dsimp only at h
    rcases nl k1 h with h | ⟨v1, s1, e1, k3, k4, h⟩
    · exact h
    exact sl k3 (fun x => ⟨_, rfl⟩) h
  · rw [colF] at h
    split at h
    · have := pl h; omega
    rcases nl he h with h | ⟨v, s0, e0, k1, k2, h⟩
    · exact h
    dsimp only at h
    rcases nl k1 h with h | ⟨v1, s1, e1, k3, k4, h⟩
    · exact h
    dsimp only at h
    rcases nl k3 h with h | ⟨v2, s2, e2, k5, k6, h⟩
    · exact h
    dsimp only at h
    rcases nl k5 h with h | ⟨v3, s3, e3, k7, k8, h⟩
    · exact h
    exact sl k7 (fun x => ⟨_, rfl⟩) h
set_option maxRecDepth 100000 in
set_option maxHeartbeats 4000000 in
theorem c_readLines {l : Launch} {G : zG} {τ : Nat → Int32} {tn : Nat} {B : Nat → Nat} (hT : hTa τ tn B) (ok : okT tn B) (hB : hdc τ 28 Z0) : zMet l yX4_readLines mX4_readLines [.ref (zGa G 19)] G (zW G τ) (zP G (fun v τ' => aTxt τ' v (txF tn B) ∧ offL τ' τ)) := by
  have h6 := ok.1
  refine zMet.of (by decide) rfl (Nat.le_of_ble_eq_true rfl) (Or.inr rfl) fun X hX hq => ?_
  subst hX
  show Y G X mX4_readLines τ 0 [some (.ref (zGa G 19)), none, none, none] []
  generalize hR : linF tn B 161 0 Z0 0 0 = R
  have hX : txF tn B = txR tn R := by rw [txF, hR]
  -- the end, behind a fault
  have endF : ∀ τ1 x u w c s, R = .inl (c, s) → 1 ≤ c → c ≤ 6 → s ≤ 160 → τ1 (400 * 19 + 2) = nI c → τ1 (400 * 19 + 3) = nI s → offL τ1 τ → Y G X mX4_readLines τ1 99 [some (.ref (zGa G 19)), some (.int x), u, w] [] := by
    intro τ1 x u w c s eR hc1 hc6 hs o1 o2 o3
    rw [eR, txR_l] at hX
    rw [hX] at hq
    refine z_aload_n 100 dX4_readLines_99 rfl rfl ?_
    refine y_get 103 _ sh19 rfl fl_X4_29 dX4_readLines_100 rfl ?_
    rw [o1]
    refine z_if_ne_t 124 dX4_readLines_103 rfl (nI_ne0 (by omega) (by omega)) ?_
    refine z_iload_n 125 dX4_readLines_124 rfl rfl ?_
    refine z_iret hq rfl dX4_readLines_125 rfl rfl ?_
    exact ⟨_, ⟨⟨⟨_, rfl⟩, hc1, hc6, hs, o1, o2⟩, o3⟩, rfl⟩
  -- the end, no fault as yet
  have endG : ∀ τ1 n u w Q T, R = .inr (Q, T, n) → okL Q T → τ1 (400 * 19 + 2) = 0 → hds τ1 21 Q → τ1 (400 * 19 + 6) = T → τ1 (400 * 19 + 1) = nI tn → offL τ1 τ → Y G X mX4_readLines τ1 99 [some (.ref (zGa G 19)), some (.int (nI n)), u, w] [] := by
    intro τ1 n u w Q T eR oL o1 o2 o3 o4 o5
    rw [eR, txR_r] at hX
    by_cases c1 : nbP Q T 4 = true
    · rw [if_pos c1] at hX
      rw [hX] at hq
      refine z_aload_n 100 dX4_readLines_99 rfl rfl ?_
      refine y_get 103 _ sh19 rfl fl_X4_29 dX4_readLines_100 rfl ?_
      rw [o1]
      refine z_if_ne_f 106 124 dX4_readLines_103 rfl (rfl) rfl ?_
      refine z_aload_n 107 dX4_readLines_106 rfl rfl ?_
      refine y_cVs 110 _ (c_tellsOfNobody o2 oL.1.nc oL.1.np o3) sh19 cv_X4_49 ⟨by decide, by decide, rfl, rfl⟩ (Nat.le_of_ble_eq_true rfl) dX4_readLines_107 rfl rfl ?_
      refine z_if_eq_f 113 124 dX4_readLines_110 rfl (by rw [bi_t c1]; decide) rfl ?_
      refine z_aload_n 114 dX4_readLines_113 rfl rfl ?_
      refine z_bipush 116 dX4_readLines_114 vb6 rfl ?_
      refine z_aload_n 117 dX4_readLines_116 rfl rfl ?_
      refine y_get 120 _ sh19 rfl fl_X4_52 dX4_readLines_117 rfl ?_
      rw [o4]
      refine y_cVs 123 _ (c_refuse) sh19 cv_X4_55 ⟨by decide, by decide, rfl, rfl⟩ (Nat.le_of_ble_eq_true rfl) dX4_readLines_120 rfl rfl ?_
      refine z_pop 124 dX4_readLines_123 rfl rfl ?_
      refine z_iload_n 125 dX4_readLines_124 rfl rfl ?_
      refine z_iret hq rfl dX4_readLines_125 rfl rfl ?_
      exact ⟨_, ⟨⟨⟨_, rfl⟩, by decide, by decide, h6, by rw [pk_un (by omega), pk_us]; rfl, by rw [pk_us]⟩, fun a ha => by rw [pk_un (by omega), pk_un (by omega)]; exact o5 a ha⟩, rfl⟩
    · rw [if_neg c1] at hX
      rw [hX] at hq
      refine z_aload_n 100 dX4_readLines_99 rfl rfl ?_
      refine y_get 103 _ sh19 rfl fl_X4_29 dX4_readLines_100 rfl ?_
      rw [o1]
      refine z_if_ne_f 106 124 dX4_readLines_103 rfl (rfl) rfl ?_
      refine z_aload_n 107 dX4_readLines_106 rfl rfl ?_
      refine y_cVs 110 _ (c_tellsOfNobody o2 oL.1.nc oL.1.np o3) sh19 cv_X4_49 ⟨by decide, by decide, rfl, rfl⟩ (Nat.le_of_ble_eq_true rfl) dX4_readLines_107 rfl rfl ?_
      refine z_if_eq_t 124 dX4_readLines_110 rfl (bi_f c1) ?_
      refine z_iload_n 125 dX4_readLines_124 rfl rfl ?_
      refine z_iret hq rfl dX4_readLines_125 rfl rfl ?_
      exact ⟨_, ⟨⟨rfl, o1, o2⟩, o5⟩, rfl⟩
  -- going no more
  have stop : ∀ τ1 x i, (∀ u w, Y G X mX4_readLines τ1 99 [some (.ref (zGa G 19)), some (.int x), u, w] []) → i < 1000 → Y G X mX4_readLines τ1 50 [some (.ref (zGa G 19)), some (.int x), some (.int 0), some (.int (nI i))] [] := by
    intro τ1 x i hk hi
    by_cases c1 : 160 ≤ i
    · skip
      refine z_iload_n 51 dX4_readLines_50 rfl rfl ?_
      refine z_sipush 54 dX4_readLines_51 vs160 rfl ?_
      refine z_icmp_ge_t 99 dX4_readLines_54 rfl (nI_le (a := 160) c1 (by omega)) ?_
      exact hk _ _
    · skip
      refine z_iload_n 51 dX4_readLines_50 rfl rfl ?_
      refine z_sipush 54 dX4_readLines_51 vs160 rfl ?_
      refine z_icmp_ge_f 57 99 dX4_readLines_54 rfl (nI_ge (b := 160) (by omega) (by omega)) rfl ?_
      refine z_iload_n 58 dX4_readLines_57 rfl rfl ?_
      refine z_if_eq_t 99 dX4_readLines_58 rfl (rfl) ?_
      exact hk _ _
  -- a token has been read: what then
  have go : ∀ f n a so s e Q T τ1, tn - a ≤ f → a ≤ tn → tokF tn B a = .inr (so, s, e) → so ≠ 0 → linF tn B (f + 1) a Q T n = R → okL Q T → n < e → stT τ1 tn B e → τ1 (400 * 19 + 8) = nI so → τ1 (400 * 19 + 9) = nI s → hds τ1 21 Q → τ1 (400 * 19 + 6) = T → offL τ1 τ → Y G X mX4_readLines τ1 50 [some (.ref (zGa G 19)), some (.int (nI n)), some (.int 1), some (.int (nI n))] [] := by
    intro f
    induction f with
    | zero =>
      intro n a so s e Q T τ1 hf ha hk hso
      have := tokF_ok ha hk
      omega
    | succ f ih =>
      intro n a so s e Q T τ1 hf ha hk hso hL oL hn st o8 o9 hD o6 oo
      have k2 := tokF_ok ha hk
      have b5 := oL.1.nc
      have b4 := oL.1.np
      rw [linF_s hk hso] at hL
      have cl := c_readLine (l := zXl X) (G := G) (so := so) st ok k2.2.1 k2.2.2.1 hD b5 b4 o9 o8 k2.2.2.2.1
      rw [o6] at cl
      refine z_iload_n 51 dX4_readLines_50 rfl rfl ?_
      refine z_sipush 54 dX4_readLines_51 vs160 rfl ?_
      refine z_icmp_ge_f 57 99 dX4_readLines_54 rfl (nI_ge (b := 160) (by omega) (by decide)) rfl ?_
      refine z_iload_n 58 dX4_readLines_57 rfl rfl ?_
      refine z_if_eq_f 61 99 dX4_readLines_58 rfl (by decide) rfl ?_
      refine z_aload_n 62 dX4_readLines_61 rfl rfl ?_
      refine y_cVP 65 _ (cl) sh19 cv_X4_46 ⟨by decide, by decide, rfl, rfl⟩ (Nat.le_of_ble_eq_true rfl) dX4_readLines_62 rfl rfl (fun v62 σ62 hp62 => ?_)
      obtain ⟨rfl, w1, w2⟩ := hp62
      show Y G X mX4_readLines _ 65 _ [.int _]
      skip
      have ow := w2.tr oo
      have hTw : hTa σ62 tn B := ⟨(w2 _ (by omega)).trans st.1.1, fun i hi => (w2 _ (by omega)).trans (st.1.2 i hi)⟩
      cases hl : lineF tn B (lnK B so s e) s e Q T with
      | inl q =>
        obtain ⟨c, s'⟩ := q
        rw [hl] at w1
        have hL : (Sum.inl (c, s') : Sum (Nat × Nat) (Pg × Int32 × Nat)) = R := by rw [hl] at hL; exact hL
        have hb := lineF_l (by omega) k2.2.2.1 hl
        refine z_istore_n 66 [_, _, _, _] dX4_readLines_65 (by decide) rfl rfl rfl ?_
        refine z_iload_n 67 dX4_readLines_66 rfl rfl ?_
        refine z_if_eq_t 93 dX4_readLines_67 rfl (rfl) ?_
        refine z_iinc 96 [_, _, _, _] dX4_readLines_93 rfl (show _ + _ = nI (_ + 1) from nI_1 _) (by decide) rfl rfl rfl ?_
        refine z_goto 50 dX4_readLines_96 rfl ?_
        exact stop _ _ _ (fun u w => endF _ _ u w c s' hL.symm hb.1 hb.2.1 (by omega) w1.1 w1.2 ow) (by omega)
      | inr q =>
      obtain ⟨a', Q', T'⟩ := q
      rw [hl] at w1
      have hL : linF tn B (f + 1) a' Q' T' (n + 1) = R := by rw [hl] at hL; exact hL
      obtain ⟨f0, f1, f2, f3⟩ := w1
      have k3 := lineF_ok k2.2.2.1 lnK_le oL hl
      have ct := c_readToken (l := zXl X) (G := G) hTw ok k3.2.1 f1 f0
      refine z_istore_n 66 [_, _, _, _] dX4_readLines_65 (by decide) rfl rfl rfl ?_
      refine z_iload_n 67 dX4_readLines_66 rfl rfl ?_
      refine z_if_eq_f 70 93 dX4_readLines_67 rfl (bR_ne) rfl ?_
      refine z_iinc 73 [_, _, _, _] dX4_readLines_70 rfl (show _ + _ = nI (_ + 1) from nI_1 _) (by decide) rfl rfl rfl ?_
      refine z_aload_n 74 dX4_readLines_73 rfl rfl ?_
      refine y_cVP 77 _ (ct) sh19 cv_X4_39 ⟨by decide, by decide, rfl, rfl⟩ (Nat.le_of_ble_eq_true rfl) dX4_readLines_74 rfl rfl (fun v74 σ74 hp74 => ?_)
      obtain ⟨rfl, w3, w4⟩ := hp74
      show Y G X mX4_readLines _ 77 _ [.int _]
      skip
      have ow4 : offL σ74 τ := w4.k8.l.tr ow
      have hD4 : hds σ74 21 Q' := fun i hi => (w4 _ (by omega) (by omega) (by omega) (by omega) (by omega)).trans (f2 i hi)
      have o64 : σ74 (400 * 19 + 6) = T' := (w4 _ (by omega) (by omega) (by omega) (by omega) (by omega)).trans f3
      have hT4 := hTw.off w4
      cases hk' : tokF tn B a' with
      | inl q =>
        obtain ⟨c, s'⟩ := q
        rw [hk'] at w3
        rw [linF_l hk'] at hL
        have hb := tokF_l k3.2.1 hk'
        refine z_if_eq_t 91 dX4_readLines_77 rfl (rfl) ?_
        refine z_iconst 92 dX4_readLines_91 vi0 rfl ?_
        refine z_istore_n 93 [_, _, _, _] dX4_readLines_92 (by decide) rfl rfl rfl ?_
        refine z_iinc 96 [_, _, _, _] dX4_readLines_93 rfl (show _ + _ = nI (_ + 1) from nI_1 _) (by decide) rfl rfl rfl ?_
        refine z_goto 50 dX4_readLines_96 rfl ?_
        exact stop _ _ _ (fun u w => endF _ _ u w c s' hL.symm (by omega) (by omega) (by omega) w3.1 w3.2 ow4) (by omega)
      | inr q =>
      obtain ⟨so', s', e'⟩ := q
      rw [hk'] at w3
      obtain ⟨p0, p1, p2, p3⟩ := w3
      have k4 := tokF_ok k3.2.1 hk'
      by_cases z : so' = 0
      · rw [linF_e hk' z] at hL
        refine z_if_eq_f 80 91 dX4_readLines_77 rfl (bR_ne) rfl ?_
        refine z_aload_n 81 dX4_readLines_80 rfl rfl ?_
        refine y_get 84 _ sh19 rfl fl_X4_43 dX4_readLines_81 rfl ?_
        rw [p1]
        refine z_if_eq_t 91 dX4_readLines_84 rfl (by rw [z]; rfl) ?_
        refine z_iconst 92 dX4_readLines_91 vi0 rfl ?_
        refine z_istore_n 93 [_, _, _, _] dX4_readLines_92 (by decide) rfl rfl rfl ?_
        refine z_iinc 96 [_, _, _, _] dX4_readLines_93 rfl (show _ + _ = nI (_ + 1) from nI_1 _) (by decide) rfl rfl rfl ?_
        refine z_goto 50 dX4_readLines_96 rfl ?_
        exact stop _ _ _ (fun u w => endG _ _ u w Q' T' hL.symm k3.2.2 p0 hD4 o64 hT4.1 ow4) (by omega)
      · have k5 := k4.2.2.2.2.1 z
        refine z_if_eq_f 80 91 dX4_readLines_77 rfl (bR_ne) rfl ?_
        refine z_aload_n 81 dX4_readLines_80 rfl rfl ?_
        refine y_get 84 _ sh19 rfl fl_X4_43 dX4_readLines_81 rfl ?_
        rw [p1]
        refine z_if_eq_f 87 91 dX4_readLines_84 rfl (fun q => z (nI_eqL (b := 0) (by omega) (by decide) q)) rfl ?_
        refine z_iconst 88 dX4_readLines_87 vi1 rfl ?_
        refine z_goto 92 dX4_readLines_88 rfl ?_
        refine z_istore_n 93 [_, _, _, _] dX4_readLines_92 (by decide) rfl rfl rfl ?_
        refine z_iinc 96 [_, _, _, _] dX4_readLines_93 rfl (show _ + _ = nI (_ + 1) from nI_1 _) (by decide) rfl rfl rfl ?_
        refine z_goto 50 dX4_readLines_96 rfl ?_
        exact ih (n + 1) a' so' s' e' Q' T' σ74 (by omega) k3.2.1 hk' z hL k3.2.2 (by omega) ⟨hT4, p3, p0⟩ p1 p2 hD4 o64 ow4
  have nz : nrm Z0 = Z0 := by funext i; simp only [nrm]; split <;> rfl
  refine z_aload_n 1 dX4_readLines_0 rfl rfl ?_
  refine y_getr 4 _ sh19 rfl fl_X4_18 dX4_readLines_1 rfl ?_
  refine z_aload_n 5 dX4_readLines_4 rfl rfl ?_
  refine y_getr 8 _ sh19 rfl fl_X4_22 dX4_readLines_5 rfl ?_
  refine y_cVv 11 _ (n_takeFrom bkm21 bkm28 (by decide) hB) (bk0 bkm21) cv_X4_25 ⟨by decide, by decide, rfl, rfl⟩ (Nat.le_of_ble_eq_true rfl) dX4_readLines_8 rfl rfl ?_
  rw [nz]
  refine z_aload_n 12 dX4_readLines_11 rfl rfl ?_
  refine z_iconst 13 dX4_readLines_12 vi0 rfl ?_
  refine y_putI 16 _ sh19 rfl fp_X4_29 dX4_readLines_13 rfl ?_
  refine z_aload_n 17 dX4_readLines_16 rfl rfl ?_
  refine z_iconst 18 dX4_readLines_17 vi0 rfl ?_
  refine y_putI 21 _ sh19 rfl fp_X4_33 dX4_readLines_18 rfl ?_
  refine z_aload_n 22 dX4_readLines_21 rfl rfl ?_
  refine z_iconst 23 dX4_readLines_22 vi0 rfl ?_
  refine y_putI 26 _ sh19 rfl fp_X4_36 dX4_readLines_23 rfl ?_
  skip
  generalize hτ : upd (upd (upd (sp τ 21 Z0) (400 * 19 + 2) 0) (400 * 19 + 6) 0) (400 * 19 + 7) 0 = τ1
  have oo : offL τ1 τ := fun a ha => by rw [← hτ, pk_un (by omega), pk_un (by omega), pk_un (by omega)]; exact offL_sp a ha
  have hT1 : hTa τ1 tn B := ⟨(oo _ (by omega)).trans hT.1, fun i hi => (oo _ (by omega)).trans (hT.2 i hi)⟩
  have r7 : τ1 (400 * 19 + 7) = nI 0 := by rw [← hτ, pk_us]; rfl
  have r6 : τ1 (400 * 19 + 6) = 0 := by rw [← hτ, pk_un (by omega), pk_us]
  have r2 : τ1 (400 * 19 + 2) = 0 := by rw [← hτ, pk_un (by omega), pk_un (by omega), pk_us]
  have hD1 : hds τ1 21 Z0 := fun i hi => by rw [← hτ, pk_un (by omega), pk_un (by omega), pk_un (by omega)]; exact sp_at rfl hi
  have ct := c_readToken (l := zXl X) (G := G) hT1 ok (Nat.zero_le _) r7 r2
  refine z_iconst 27 dX4_readLines_26 vi0 rfl ?_
  refine z_istore_n 28 [_, _, _, _] dX4_readLines_27 (by decide) rfl rfl rfl ?_
  refine z_aload_n 29 dX4_readLines_28 rfl rfl ?_
  refine y_cVP 32 _ (ct) sh19 cv_X4_39 ⟨by decide, by decide, rfl, rfl⟩ (Nat.le_of_ble_eq_true rfl) dX4_readLines_29 rfl rfl (fun v29 σ29 hp29 => ?_)
  obtain ⟨rfl, w3, w4⟩ := hp29
  show Y G X mX4_readLines _ 32 _ [.int _]
  skip
  have ow4 : offL σ29 τ := w4.k8.l.tr oo
  have hD4 : hds σ29 21 Z0 := fun i hi => (w4 _ (by omega) (by omega) (by omega) (by omega) (by omega)).trans (hD1 i hi)
  have o64 : σ29 (400 * 19 + 6) = 0 := (w4 _ (by omega) (by omega) (by omega) (by omega) (by omega)).trans r6
  have hT4 := hT1.off w4
  cases hk' : tokF tn B 0 with
  | inl q =>
    obtain ⟨c, s'⟩ := q
    rw [hk'] at w3
    rw [linF_l hk'] at hR
    have hb := tokF_l (Nat.zero_le _) hk'
    refine z_if_eq_t 46 dX4_readLines_32 rfl (rfl) ?_
    refine z_iconst 47 dX4_readLines_46 vi0 rfl ?_
    refine z_istore_n 48 [_, _, _, _] dX4_readLines_47 (by decide) rfl rfl rfl ?_
    refine z_iconst 49 dX4_readLines_48 vi0 rfl ?_
    refine z_istore_n 50 [_, _, _, _] dX4_readLines_49 (by decide) rfl rfl rfl ?_
    exact stop _ _ 0 (fun u w => endF _ _ u w c s' hR.symm (by omega) (by omega) (by omega) w3.1 w3.2 ow4) (by omega)
  | inr q =>
  obtain ⟨so', s', e'⟩ := q
  rw [hk'] at w3
  obtain ⟨p0, p1, p2, p3⟩ := w3
  have k4 := tokF_ok (Nat.zero_le _) hk'
  by_cases z : so' = 0
  · rw [linF_e hk' z] at hR
    refine z_if_eq_f 35 46 dX4_readLines_32 rfl (bR_ne) rfl ?_
    refine z_aload_n 36 dX4_readLines_35 rfl rfl ?_
    refine y_get 39 _ sh19 rfl fl_X4_43 dX4_readLines_36 rfl ?_
    rw [p1]
    refine z_if_eq_t 46 dX4_readLines_39 rfl (by rw [z]; rfl) ?_
    refine z_iconst 47 dX4_readLines_46 vi0 rfl ?_
    refine z_istore_n 48 [_, _, _, _] dX4_readLines_47 (by decide) rfl rfl rfl ?_
    refine z_iconst 49 dX4_readLines_48 vi0 rfl ?_
    refine z_istore_n 50 [_, _, _, _] dX4_readLines_49 (by decide) rfl rfl rfl ?_
    exact stop _ _ 0 (fun u w => endG _ 0 u w Z0 0 hR.symm okL_0 p0 hD4 o64 hT4.1 ow4) (by omega)
  · have k5 := k4.2.2.2.2.1 z
    refine z_if_eq_f 35 46 dX4_readLines_32 rfl (bR_ne) rfl ?_
    refine z_aload_n 36 dX4_readLines_35 rfl rfl ?_
    refine y_get 39 _ sh19 rfl fl_X4_43 dX4_readLines_36 rfl ?_
    rw [p1]
    refine z_if_eq_f 42 46 dX4_readLines_39 rfl (fun q => z (nI_eqL (b := 0) (by omega) (by decide) q)) rfl ?_
    refine z_iconst 43 dX4_readLines_42 vi1 rfl ?_
    refine z_goto 47 dX4_readLines_43 rfl ?_
    refine z_istore_n 48 [_, _, _, _] dX4_readLines_47 (by decide) rfl rfl rfl ?_
    refine z_iconst 49 dX4_readLines_48 vi0 rfl ?_
    refine z_istore_n 50 [_, _, _, _] dX4_readLines_49 (by decide) rfl rfl rfl ?_
    exact go 160 0 0 so' s' e' Z0 0 σ29 (by omega) (Nat.zero_le _) hk' z hR okL_0 (by omega) ⟨hT4, p3, p0⟩ p1 p2 hD4 o64 ow4
/-- what text() answers and leaves, of the class -/
def pTxC (σ : Nat → Int32) (r : Sum (Nat × Nat) (Pg × Nat)) (v : Option Value) (σ' : Nat → Int32) : Prop := match r with
  | .inl (c, s) => v = some (.int (-10 - nI s)) ∧ 1 ≤ c ∧ c ≤ 6 ∧ s ≤ 160 ∧ σ' (400 * 19 + 1) = 0 ∧ σ' (400 * 19 + 2) = nI c ∧ ∀ a, scr a = false → a ≠ 7601 → a ≠ 7602 → σ' a = σ a
  | .inr (Q, n) => v = some (.int (nI n)) ∧ σ' (400 * 19 + 1) = 0 ∧ σ' (400 * 19 + 2) = 0 ∧ hdc σ' 1 Q ∧ σ' (400 * 35 + 0) = 0 ∧ σ' (400 * 16 + 0 + 0) = 0 ∧ σ' (400 * 16 + 0 + 1) = 0 ∧ ∀ a, scr a = false → a ≠ 7601 → a ≠ 7602 → a ≠ 14000 → a ≠ 6400 → a ≠ 6401 → (a < 400 ∨ 462 ≤ a) → σ' a = σ a
theorem offL_scr {σ τ : Nat → Int32} (h : offL τ σ) : ∀ a, scr a = false → a ≠ 7602 → τ a = σ a := fun a ha h2 => by
  have : ¬ (a = 7603 ∨ (7606 ≤ a ∧ a ≤ 7610) ∨ (8400 ≤ a ∧ a < 8800)) := fun q => by
    have : scr a = true := by simp only [scr, Bool.or_eq_true, Bool.and_eq_true, decide_eq_true_eq, beq_iff_eq]; omega
    rw [this] at ha; cases ha
  exact h a (by omega)
set_option maxRecDepth 100000 in
set_option maxHeartbeats 2000000 in
theorem x_text {l : Launch} {G : zG} {σ : Nat → Int32} {tn : Nat} {B : Nat → Nat} (hT : hTa σ tn B) (ok : okT tn B) (hB : hdc σ 28 Z0) : zMet l yX6_text mX6_text [.ref (zGa G 0)] G (zW G σ) (zP G (pTxC σ (txF tn B))) := by
  have cr := c_readLines (l := l) (G := G) hT ok hB
  generalize txF tn B = R at cr
  refine zMet.of (by decide) rfl (Nat.le_of_ble_eq_true rfl) (Or.inr rfl) fun X hX hq => ?_
  subst hX
  show Y G X mX6_text σ 0 [some (.ref (zGa G 0)), none, none] []
  refine z_aload_n 1 dX6_text_0 rfl rfl ?_
  refine y_getr 4 _ sh0 rfl fl_X6_37 dX6_text_1 rfl ?_
  refine y_cVP 7 _ (cr) sh19 cv_X6_83 ⟨by decide, by decide, rfl, rfl⟩ (Nat.le_of_ble_eq_true rfl) dX6_text_4 rfl rfl (fun v4 σ4 hp4 => ?_)
  obtain ⟨w1, w2⟩ := hp4
  skip
  cases R with
  | inl q =>
    obtain ⟨c, s⟩ := q
    obtain ⟨⟨x, rfl⟩, hc1, hc6, hs, w4, w5⟩ := w1
    show Y G X mX6_text _ 7 _ [.int _]
    have u1 : upd σ4 (400 * 19 + 1) 0 (400 * 19 + 2) = nI c := (pk_un (by omega)).trans w4
    have u2 : upd σ4 (400 * 19 + 1) 0 (400 * 19 + 3) = nI s := (pk_un (by omega)).trans w5
    refine z_istore_n 8 [_, _, _] dX6_text_7 (by decide) rfl rfl rfl ?_
    refine z_aload_n 9 dX6_text_8 rfl rfl ?_
    refine y_getr 12 _ sh0 rfl fl_X6_37 dX6_text_9 rfl ?_
    refine z_iconst 13 dX6_text_12 vi0 rfl ?_
    refine y_putI 16 _ sh19 rfl fp_X6_77 dX6_text_13 rfl ?_
    refine z_aload_n 17 dX6_text_16 rfl rfl ?_
    refine y_getr 20 _ sh0 rfl fl_X6_37 dX6_text_17 rfl ?_
    refine y_get 23 _ sh19 rfl fl_X6_87 dX6_text_20 rfl ?_
    rw [u1]
    refine z_if_eq_f 26 37 dX6_text_23 rfl (nI_ne0 (by omega) (by omega)) rfl ?_
    refine z_bipush 28 dX6_text_26 vbm10 rfl ?_
    refine z_aload_n 29 dX6_text_28 rfl rfl ?_
    refine y_getr 32 _ sh0 rfl fl_X6_37 dX6_text_29 rfl ?_
    refine y_get 35 _ sh19 rfl fl_X6_90 dX6_text_32 rfl ?_
    rw [u2]
    refine z_isub 36 dX6_text_35 rfl ?_
    refine z_iret hq rfl dX6_text_36 rfl rfl ?_
    exact ⟨_, ⟨rfl, hc1, hc6, hs, pk_us, u1, fun a ha h1 h2 => (pk_un h1).trans (offL_scr w2 a ha h2)⟩, rfl⟩
  | inr q =>
    obtain ⟨Q, n⟩ := q
    obtain ⟨rfl, w4, w5⟩ := w1
    show Y G X mX6_text _ 7 _ [.int _]
    have u1 : upd σ4 (400 * 19 + 1) 0 (400 * 19 + 2) = 0 := (pk_un (by omega)).trans w4
    have hd : hdc (upd σ4 (400 * 19 + 1) 0) 21 Q := fun i hi => (pk_un (by omega)).trans (w5 i (by omega))
    refine z_istore_n 8 [_, _, _] dX6_text_7 (by decide) rfl rfl rfl ?_
    refine z_aload_n 9 dX6_text_8 rfl rfl ?_
    refine y_getr 12 _ sh0 rfl fl_X6_37 dX6_text_9 rfl ?_
    refine z_iconst 13 dX6_text_12 vi0 rfl ?_
    refine y_putI 16 _ sh19 rfl fp_X6_77 dX6_text_13 rfl ?_
    refine z_aload_n 17 dX6_text_16 rfl rfl ?_
    refine y_getr 20 _ sh0 rfl fl_X6_37 dX6_text_17 rfl ?_
    refine y_get 23 _ sh19 rfl fl_X6_87 dX6_text_20 rfl ?_
    rw [u1]
    refine z_if_eq_t 37 dX6_text_23 rfl (rfl) ?_
    refine z_aload_n 38 dX6_text_37 rfl rfl ?_
    refine y_getr 41 _ sh0 rfl fl_X6_10 dX6_text_38 rfl ?_
    refine z_aload_n 42 dX6_text_41 rfl rfl ?_
    refine y_getr 45 _ sh0 rfl fl_X6_37 dX6_text_42 rfl ?_
    refine y_getr 48 _ sh19 rfl fl_X6_93 dX6_text_45 rfl ?_
    refine y_cVv 51 _ (n_takeFrom bkm1 bkm21 (by decide) hd) (bk0 bkm1) cv_X6_96 ⟨by decide, by decide, rfl, rfl⟩ (Nat.le_of_ble_eq_true rfl) dX6_text_48 rfl rfl ?_
    refine z_aload_n 52 dX6_text_51 rfl rfl ?_
    refine y_getr 55 _ sh0 rfl fl_X6_44 dX6_text_52 rfl ?_
    refine z_iconst 56 dX6_text_55 vi0 rfl ?_
    refine y_putI 59 _ sh35 rfl fp_X6_100 dX6_text_56 rfl ?_
    refine z_iconst 60 dX6_text_59 vi0 rfl ?_
    refine z_istore_n 61 [_, _, _] dX6_text_60 (by decide) rfl rfl rfl ?_
    refine zup (P := fun i => ∀ τ, (∀ j, j < i → τ (400 * 16 + 0 + j) = 0) → (∀ a, a ≠ 6400 → a ≠ 6401 → τ a = upd (sp (upd σ4 (400 * 19 + 1) 0) 1 (nrm Q)) (400 * 35 + 0) 0 a) → Y G X mX6_text τ 61 [some (.ref (zGa G 0)), some (.int (nI n)), some (.int (nI i))] []) 2 ?_ (fun i hi ih => ?_) 0 (Nat.zero_le _) _ (fun j hj => by omega) (fun _ _ _ => rfl)
    · intro τ h1 h2
      have o1 : ∀ a, a ≠ 6400 → a ≠ 6401 → a ≠ 14000 → (a < 400 ∨ 462 ≤ a) → τ a = upd σ4 (400 * 19 + 1) 0 a := fun a g1 g2 g3 g4 => by rw [h2 a g1 g2, pk_un (by omega), sp_off (by omega)]
      have q1 : hdc τ 1 Q := fun j hj => by
        rw [h2 _ (by omega) (by omega), pk_un (by omega), sp_at rfl (by omega), nrm_c hj]
      refine z_iload_n 62 dX6_text_61 rfl rfl ?_
      refine z_iconst 63 dX6_text_62 vi2 rfl ?_
      refine z_icmp_ge_t 79 dX6_text_63 rfl (Int32.le_refl _) ?_
      refine z_iload_n 80 dX6_text_79 rfl rfl ?_
      refine z_iret hq rfl dX6_text_80 rfl rfl ?_
      exact ⟨_, ⟨rfl, (o1 _ (by omega) (by omega) (by omega) (by omega)).trans pk_us, (o1 _ (by omega) (by omega) (by omega) (by omega)).trans u1, q1, (h2 _ (by omega) (by omega)).trans pk_us, h1 0 (by decide), h1 1 (by decide), fun a ha g1 g2 g3 g4 g5 g6 => (o1 a g4 g5 g3 g6).trans ((pk_un g1).trans (offL_scr w2 a ha g2))⟩, rfl⟩
    · intro τ h1 h2
      refine z_iload_n 62 dX6_text_61 rfl rfl ?_
      refine z_iconst 63 dX6_text_62 vi2 rfl ?_
      refine z_icmp_ge_f 66 79 dX6_text_63 rfl (nI_ge (b := 2) hi (by decide)) rfl ?_
      refine z_aload_n 67 dX6_text_66 rfl rfl ?_
      refine y_getr 70 _ sh0 rfl fl_X6_23 dX6_text_67 rfl ?_
      refine z_iload_n 71 dX6_text_70 rfl rfl ?_
      refine z_iconst 72 dX6_text_71 vi0 rfl ?_
      refine y_stZ 73 _ i sh16 rfl (by omega) (by decide) rfl dX6_text_72 rfl ?_
      refine z_iinc 76 [_, _, _] dX6_text_73 rfl (show _ + _ = nI (_ + 1) from nI_1 _) (by decide) rfl rfl rfl ?_
      refine z_goto 61 dX6_text_76 rfl ?_
      exact ih _ (fun j hj => by
          by_cases z : j = i
          · subst z; exact pk_us
          · exact (pk_un (by omega)).trans (h1 j (by omega))) (fun a g1 g2 => (pk_un (by omega)).trans (h2 a g1 g2))

