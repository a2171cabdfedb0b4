theorem gcd_st {x y : Nat} (hy : 0 < y) : Nat.gcd y (x % y) = Nat.gcd x y := by
  rw [Nat.gcd_comm x y, Nat.gcd_rec y x, Nat.gcd_comm]
theorem half_st {x y : Nat} (hy : 0 < y) (h : y < x) : 2 * (y * (x % y)) ≤ x * y := by
  have h1 : 2 * (x % y) ≤ x := by
    have h2 := Nat.mod_lt x hy
    have h3 := Nat.div_add_mod x y
    have h4 : 1 ≤ x / y := Nat.div_pos (by omega) hy
    have h5 : y * 1 ≤ y * (x / y) := Nat.mul_le_mul_left _ h4
    omega
  rw [Nat.mul_left_comm, Nat.mul_comm x y]
  exact Nat.mul_le_mul_left _ h1
set_option maxRecDepth 100000 in
theorem c_commonDivisor {l : Launch} {G : zG} {σ : Nat → Int32} {a b : Nat} (ha : a < 2 ^ 62) (hb : b ≤ 100000000) (hb0 : 0 < b) : zMet l yX5_commonDivisor mX5_commonDivisor [.long (lN a), .long (lN b)] G (zW G σ) (zFn G (some (.long (lN (Nat.gcd a b)))) σ) := by
  refine zMet.of (by decide) rfl (Nat.le_of_ble_eq_true rfl) (Or.inr rfl) fun X hX hq => ?_
  subst hX
  show Y G X mX5_commonDivisor σ 0 [some (.long (lN a)), none, some (.long (lN b)), none, none, none, none, none, none, none, none] []
  refine z_lload_n 1 dX5_commonDivisor_0 rfl rfl ?_
  refine z_lstore 3 [_, _, _, _, _, _, _, _, _, _, _] dX5_commonDivisor_1 (by decide) rfl rfl rfl ?_
  refine z_lload_n 4 dX5_commonDivisor_3 rfl rfl ?_
  refine z_lstore 6 [_, _, _, _, _, _, _, _, _, _, _] dX5_commonDivisor_4 (by decide) rfl rfl rfl ?_
  refine z_iconst 7 dX5_commonDivisor_6 vi0 rfl ?_
  refine z_istore 9 [_, _, _, _, _, _, _, _, _, _, _] dX5_commonDivisor_7 (by decide) rfl rfl rfl ?_
  refine zup (P := fun i => ∀ x y u, Nat.gcd x y = Nat.gcd a b → x < 2 ^ 62 → y ≤ 100000000 → 0 < x ∨ 0 < y → (i = 0 ∨ (y < x ∧ x * y * 2 ^ (i - 1) ≤ 2 ^ 54)) → Y G X mX5_commonDivisor σ 9 [some (.long (lN a)), none, some (.long (lN b)), none, some (.long (lN x)), none, some (.long (lN y)), none, some (.int (nI i)), u, none] []) 200 ?_ (fun i hi ih => ?_) 0 (Nat.zero_le _) a b _ rfl ha hb (Or.inr hb0) (Or.inl rfl)
  · intro x y u hg hx hy h0 hm
    have hm2 : y < x ∧ x * y * 2 ^ 199 ≤ 2 ^ 54 := hm.elim (fun q => absurd q (by decide)) id
    have y0 : y = 0 := by
      rcases Nat.eq_zero_or_pos y with q | q
      · exact q
      · exfalso
        have h1 : 1 ≤ x * y := Nat.mul_pos (by omega) q
        have h2 : 1 * 2 ^ 199 ≤ x * y * 2 ^ 199 := Nat.mul_le_mul_right _ h1
        exact absurd (Nat.le_trans h2 hm2.2) (by decide)
    rw [y0, Nat.gcd_zero_right] at hg
    refine z_iload 11 dX5_commonDivisor_9 rfl rfl ?_
    refine z_sipush 14 dX5_commonDivisor_11 vs200 rfl ?_
    refine z_icmp_ge_t 45 dX5_commonDivisor_14 rfl (Int32.le_refl _) ?_
    refine z_lload 47 dX5_commonDivisor_45 rfl rfl ?_
    refine z_lret hq rfl dX5_commonDivisor_47 rfl rfl ?_
    exact ⟨by rw [hg], rfl⟩
  · intro x y u hg hx hy h0 hm
    rcases Nat.eq_zero_or_pos y with q | q
    · rw [q, Nat.gcd_zero_right] at hg
      refine z_iload 11 dX5_commonDivisor_9 rfl rfl ?_
      refine z_sipush 14 dX5_commonDivisor_11 vs200 rfl ?_
      refine z_icmp_ge_f 17 45 dX5_commonDivisor_14 rfl (nI_ge (b := 200) hi (by decide)) rfl ?_
      refine z_lload 19 dX5_commonDivisor_17 rfl rfl ?_
      refine z_lconst 20 dX5_commonDivisor_19 vl0 rfl ?_
      refine z_lcmp 21 dX5_commonDivisor_20 rfl ?_
      refine z_if_eq_t 45 dX5_commonDivisor_21 rfl (lgc_eq.mpr (by rw [q]; rfl)) ?_
      refine z_lload 47 dX5_commonDivisor_45 rfl rfl ?_
      refine z_lret hq rfl dX5_commonDivisor_47 rfl rfl ?_
      exact ⟨by rw [hg], rfl⟩
    · have e := pk_lRem (a := x) (b := y) (by omega) q (by omega)
      have ny : ¬ lN y = 0 := fun z => absurd ((pk_lEQ (a := y) (b := 0) (by omega) (by omega)).mp z) (by omega)
      have ml := Nat.mod_lt x q
      refine z_iload 11 dX5_commonDivisor_9 rfl rfl ?_
      refine z_sipush 14 dX5_commonDivisor_11 vs200 rfl ?_
      refine z_icmp_ge_f 17 45 dX5_commonDivisor_14 rfl (nI_ge (b := 200) hi (by decide)) rfl ?_
      refine z_lload 19 dX5_commonDivisor_17 rfl rfl ?_
      refine z_lconst 20 dX5_commonDivisor_19 vl0 rfl ?_
      refine z_lcmp 21 dX5_commonDivisor_20 rfl ?_
      refine z_if_eq_f 24 45 dX5_commonDivisor_21 rfl (fun z => ny (lgc_eq.mp z)) rfl ?_
      refine z_lload 26 dX5_commonDivisor_24 rfl rfl ?_
      refine z_lload 28 dX5_commonDivisor_26 rfl rfl ?_
      refine z_lrem 29 dX5_commonDivisor_28 ny rfl ?_
      rw [e]
      refine z_lstore 31 [_, _, _, _, _, _, _, _, _, _, _] dX5_commonDivisor_29 (by decide) rfl rfl rfl ?_
      refine z_lload 33 dX5_commonDivisor_31 rfl rfl ?_
      refine z_lstore 35 [_, _, _, _, _, _, _, _, _, _, _] dX5_commonDivisor_33 (by decide) rfl rfl rfl ?_
      refine z_lload 37 dX5_commonDivisor_35 rfl rfl ?_
      refine z_lstore 39 [_, _, _, _, _, _, _, _, _, _, _] dX5_commonDivisor_37 (by decide) rfl rfl rfl ?_
      refine z_iinc 42 [_, _, _, _, _, _, _, _, _, _, _] dX5_commonDivisor_39 rfl (show _ + _ = nI (_ + 1) from nI_1 _) (by decide) rfl rfl rfl ?_
      refine z_goto 9 dX5_commonDivisor_42 rfl ?_
      refine ih y (x % y) _ ((gcd_st q).trans hg) (by omega) (by omega) (Or.inl q) (Or.inr ⟨ml, ?_⟩)
      rcases hm with z | ⟨z1, z2⟩
      · rw [z, show 0 + 1 - 1 = 0 from rfl, Nat.pow_zero, Nat.mul_one]
        have h1 : y * (x % y) ≤ 100000000 * 100000000 := Nat.mul_le_mul hy (by omega)
        omega
      · have h1 := half_st q z1
        rcases Nat.eq_zero_or_pos i with z | z
        · rw [z, show 0 + 1 - 1 = 0 from rfl, Nat.pow_zero, Nat.mul_one]
          have h1 : y * (x % y) ≤ 100000000 * 100000000 := Nat.mul_le_mul hy (by omega)
          omega
        · have h2 : y * (x % y) * 2 ^ (i + 1 - 1) = 2 * (y * (x % y)) * 2 ^ (i - 1) := by
            rw [show i + 1 - 1 = (i - 1) + 1 by omega, Nat.pow_succ, Nat.mul_comm (2 ^ (i - 1)) 2, ← Nat.mul_assoc, Nat.mul_comm (y * (x % y)) 2]
          rw [h2]
          exact Nat.le_trans (Nat.mul_le_mul_right _ h1) z2
theorem lN10 (i : Nat) : lN (10 ^ i) * 10 = lN (10 ^ (i + 1)) := by rw [Nat.pow_succ, ← lN_mul]; rfl
theorem pow10_le {n : Nat} (h : n ≤ 8) : 10 ^ n ≤ 100000000 := Nat.pow_le_pow_right (n := 10) (by decide) h
def lowV (a b w : Nat) : Int64 := lN ((if w = 0 then a else b) / Nat.gcd a b)
def offW (τ' τ : Nat → Int32) : Prop := ∀ a, (a < 16800 ∨ 42800 ≤ a) → τ' a = τ a
theorem offW_same {σ τ : Nat → Int32} (h : offW τ σ) : same τ σ := fun a ha => by
  have : ¬ (15600 ≤ a ∧ a < 42800) := fun q => by
    have : scr a = true := by simp only [scr, Bool.or_eq_true, Bool.and_eq_true, decide_eq_true_eq, beq_iff_eq]; omega
    rw [this] at ha; cases ha
  exact h a (by omega)
set_option maxRecDepth 100000 in
set_option maxHeartbeats 2000000 in
theorem c_meanOver {l : Launch} {G : zG} {σ : Nat → Int32} {N : Pg} {p : Option Nat} {h v n w : Nat} (hc : hdc σ 1 N) (ok : okQ N) (oz : okzp p N) (op : okp p) (hh : h < 1000) (hv : v ≤ 10) (hn : n ≤ 8) (hw : w < 2) (h1 : σ (400 * 42 + 0) = whoV p) (h2 : ∀ q, p = some q → σ (400 * 42 + 1) = nI h) : zMet l yX5_meanOver mX5_meanOver [.ref (zGa G 42), .ref (zGa G 1), .int (nI v), .int (nI n), .int (nI w)] G (zW G σ) (zP G (fun r τ => r = some (.long (lowV (sm v p h n N) (10 ^ n) w)) ∧ offW τ σ)) := by
  have p8 := pow10_le hn
  have p0 : 0 < 10 ^ n := Nat.pow_pos (by decide)
  have sl := sm_le (h := h) op hv n ok
  have sl2 : sm v p h n N ≤ 100000000 * 1980 := Nat.le_trans sl (Nat.mul_le_mul_right _ p8)
  have g0 : 0 < Nat.gcd (sm v p h n N) (10 ^ n) := Nat.gcd_pos_of_pos_right _ p0
  have gl : Nat.gcd (sm v p h n N) (10 ^ n) ≤ 10 ^ n := Nat.gcd_le_right _ p0
  refine zMet.of (by decide) rfl (Nat.le_of_ble_eq_true rfl) (Or.inr rfl) fun X hX hq => ?_
  subst hX
  show Y G X mX5_meanOver σ 0 [some (.ref (zGa G 42)), some (.ref (zGa G 1)), some (.int (nI v)), some (.int (nI n)), some (.int (nI w)), none, none, none, none, none, none] []
  obtain ⟨z, hz0⟩ : ∃ z : Nat, z = 0 := ⟨0, rfl⟩
  have hz : z < 9 := by omega
  have hi0 : (0 : Int32) = nI z := by rw [hz0]; rfl
  refine z_aload_n 1 dX5_meanOver_0 rfl rfl ?_
  refine z_iload_n 2 dX5_meanOver_1 rfl rfl ?_
  refine y_putI 5 _ sh42 rfl fp_X5_18 dX5_meanOver_2 rfl ?_
  refine z_aload_n 6 dX5_meanOver_5 rfl rfl ?_
  refine z_iload_n 7 dX5_meanOver_6 rfl rfl ?_
  refine y_putI 10 _ sh42 rfl fp_X5_22 dX5_meanOver_7 rfl ?_
  skip
  generalize hτ : upd (upd σ (400 * 42 + 2) (nI v)) (400 * 42 + 3) (nI n) = τ
  have ho : ∀ a, (a < 16802 ∨ 16804 ≤ a) → τ a = σ a := fun a ha => by rw [← hτ, pk_un (by omega), pk_un (by omega)]
  have hcτ : hdc τ 1 N := fun i hi => (ho _ (by omega)).trans (hc i hi)
  have w1 : hWe τ p h v n := ⟨(ho _ (by omega)).trans h1, fun q hq => (ho _ (by omega)).trans (h2 q hq), by rw [← hτ, pk_un (by omega), pk_us], by rw [← hτ, pk_us]⟩
  have w2 : hWe (sp τ (44 + 7 * z) (nrm N)) p h v n := hWe_cg w1 (fun a ha => sp_off (by omega))
  have hsm : sm v p h n (nrm N) = sm v p h n N := sm_c op n eqc_nrm ok
  have cs := c_summed (l := zXl X) (G := G) op hh hv hn n 0 (sp τ (44 + 7 * z) (nrm N)) (nrm N) (by omega) w2 (by rw [hz0]; exact hds_sp.c) (okQ_nrm ok) (fun e => okZ_nrm (oz e))
  rw [hsm] at cs
  refine z_aload_n 11 dX5_meanOver_10 rfl rfl ?_
  refine y_getr 14 _ sh42 rfl fl_X5_11 dX5_meanOver_11 rfl ?_
  refine z_iconst 15 dX5_meanOver_14 vi0 rfl ?_
  refine y_aaB 16 _ z sh43 hi0 hz (by decide) (aa43 hz) dX5_meanOver_15 rfl ?_
  refine z_aload_n 17 dX5_meanOver_16 rfl rfl ?_
  refine y_cVv 20 _ (n_takeFrom (bka43 hz) bkm1 (by omega) hcτ) (bk0 (bka43 hz)) cv_X5_25 ⟨by decide, by decide, rfl, rfl⟩ (Nat.le_of_ble_eq_true rfl) dX5_meanOver_17 rfl rfl ?_
  refine z_aload_n 21 dX5_meanOver_20 rfl rfl ?_
  refine z_iconst 22 dX5_meanOver_21 vi0 rfl ?_
  refine y_cVP 25 _ (cs) sh42 (cv_X5_29 (10 + n)) ⟨(by show 10 + n + 1 ≤ 21; omega), Nat.le_of_ble_eq_true rfl, rfl, rfl⟩ (Nat.le_of_ble_eq_true rfl) dX5_meanOver_22 rfl rfl (fun v22 σ22 hp22 => ?_)
  obtain ⟨rfl, ho2⟩ := hp22
  have off : offW σ22 σ := fun a ha => (ho2 a (by omega)).trans ((sp_off (by omega)).trans (ho a (by omega)))
  show Y G X mX5_meanOver _ 25 _ [.long _]
  refine z_lstore 27 [_, _, _, _, _, _, _, _, _, _, _] dX5_meanOver_25 (by decide) rfl rfl rfl ?_
  refine z_lconst 28 dX5_meanOver_27 vl1 rfl ?_
  refine z_lstore 30 [_, _, _, _, _, _, _, _, _, _, _] dX5_meanOver_28 (by decide) rfl rfl rfl ?_
  refine z_iconst 31 dX5_meanOver_30 vi0 rfl ?_
  refine z_istore 33 [_, _, _, _, _, _, _, _, _, _, _] dX5_meanOver_31 (by decide) rfl rfl rfl ?_
  refine zup (P := fun i => Y G X mX5_meanOver σ22 33 [some (.ref (zGa G 42)), some (.ref (zGa G 1)), some (.int (nI v)), some (.int (nI n)), some (.int (nI w)), some (.long (lN (sm v p h n N))), none, some (.long (lN (10 ^ i))), none, some (.int (nI i)), none] []) n ?_ (fun i hi ih => ?_) 0 (Nat.zero_le _)
  · have hd := pk_lDiv (a := sm v p h n N) (b := Nat.gcd (sm v p h n N) (10 ^ n)) (by omega) g0 (by omega)
    have hd2 := pk_lDiv (a := 10 ^ n) (b := Nat.gcd (sm v p h n N) (10 ^ n)) (by omega) g0 (by omega)
    have ng : ¬ lN (Nat.gcd (sm v p h n N) (10 ^ n)) = 0 := fun z => absurd ((pk_lEQ (b := 0) (by omega) (by omega)).mp z) (by omega)
    have gt : (0 : Int32) < lg_cmp (lN (Nat.gcd (sm v p h n N) (10 ^ n))) 0 := lgc_gt.mpr ((pk_lLT (a := 0) (by omega) (by omega)).mpr g0)
    refine z_iload 35 dX5_meanOver_33 rfl rfl ?_
    refine z_iload_n 36 dX5_meanOver_35 rfl rfl ?_
    refine z_icmp_ge_t 53 dX5_meanOver_36 rfl (Int32.le_refl _) ?_
    refine z_lload 55 dX5_meanOver_53 rfl rfl ?_
    refine z_lload 57 dX5_meanOver_55 rfl rfl ?_
    refine y_cSs 60 (c_commonDivisor (by omega) p8 p0) cs_X5_35 ⟨by decide, by decide, rfl, rfl⟩ (Nat.le_of_ble_eq_true rfl) dX5_meanOver_57 rfl rfl ?_
    refine z_lstore 62 [_, _, _, _, _, _, _, _, _, _, _] dX5_meanOver_60 (by decide) rfl rfl rfl ?_
    refine z_lload 64 dX5_meanOver_62 rfl rfl ?_
    refine z_lconst 65 dX5_meanOver_64 vl0 rfl ?_
    refine z_lcmp 66 dX5_meanOver_65 rfl ?_
    refine z_if_gt_t 73 dX5_meanOver_66 rfl (gt) ?_
    refine z_iload 75 dX5_meanOver_73 rfl rfl ?_
    refine z_if_ne 83 78 dX5_meanOver_75 rfl rfl (fun h75 => ?_) (fun h75 => ?_)
    · skip
      have w0 : w ≠ 0 := fun q => h75 (by rw [q]; rfl)
      refine z_lload 85 dX5_meanOver_83 rfl rfl ?_
      refine z_lload 87 dX5_meanOver_85 rfl rfl ?_
      refine z_ldiv 88 dX5_meanOver_87 ng rfl ?_
      refine z_lret hq rfl dX5_meanOver_88 rfl rfl ?_
      exact ⟨_, ⟨by rw [hd2, lowV, if_neg w0], off⟩, rfl⟩
    · skip
      have w0 : w = 0 := nI_eqL (b := 0) (by omega) (by decide) h75
      refine z_lload 80 dX5_meanOver_78 rfl rfl ?_
      refine z_goto 85 dX5_meanOver_80 rfl ?_
      refine z_lload 87 dX5_meanOver_85 rfl rfl ?_
      refine z_ldiv 88 dX5_meanOver_87 ng rfl ?_
      refine z_lret hq rfl dX5_meanOver_88 rfl rfl ?_
      exact ⟨_, ⟨by rw [hd, lowV, if_pos w0], off⟩, rfl⟩
  · have e := lN10 i
    refine z_iload 35 dX5_meanOver_33 rfl rfl ?_
    refine z_iload_n 36 dX5_meanOver_35 rfl rfl ?_
    refine z_icmp_ge_f 39 53 dX5_meanOver_36 rfl (nI_ge hi (by omega)) rfl ?_
    refine z_lload 41 dX5_meanOver_39 rfl rfl ?_
    refine z_ldc2 44 kc_X5_33 dX5_meanOver_41 rfl ?_
    refine z_lmul 45 dX5_meanOver_44 rfl ?_
    rw [e]
    refine z_lstore 47 [_, _, _, _, _, _, _, _, _, _, _] dX5_meanOver_45 (by decide) rfl rfl rfl ?_
    refine z_iinc 50 [_, _, _, _, _, _, _, _, _, _, _] dX5_meanOver_47 rfl (show _ + _ = nI (_ + 1) from nI_1 _) (by decide) rfl rfl rfl ?_
    refine z_goto 33 dX5_meanOver_50 rfl ?_
    exact ih
/-- an answer that is a long; nothing but scratch has changed -/
def pQL (σ : Nat → Int32) (V : Int64) : Option Value → (Nat → Int32) → Prop := fun v σ' => v = some (.long V) ∧ same σ' σ
abbrev okLuck (N : Pg) (v p n h w : Int32) : Prop := inR v 11 ∧ inR p (N 57) ∧ inR n 9 ∧ inR h 1000 ∧ inR w 2
def vLuck (N : Pg) (v p n h w : Int32) : Int64 := if okLuck N v p n h w then lowV (sm (nN v) (some (nN p)) (nN h) (nN n) N) (10 ^ nN n) (nN w) else -1
abbrev okMean (v n w : Int32) : Prop := inR v 11 ∧ inR n 9 ∧ inR w 2
def vMean (N : Pg) (v n w : Int32) : Int64 := if okMean v n w then lowV (sm (nN v) none 0 (nN n) N) (10 ^ nN n) (nN w) else -1
set_option maxRecDepth 100000 in
theorem x_luck {l : Launch} {G : zG} {σ : Nat → Int32} {N : Pg} {v p n h w : Int32} (hc : hdc σ 1 N) (ok : okQ N) : zMet l yX6_luck mX6_luck [.ref (zGa G 0), .int v, .int p, .int n, .int h, .int w] G (zW G σ) (zP G (pQL σ (vLuck N v p n h w))) := by
  have b4 := ok.np
  have bv : bi ((0 : Int32) ≤ v ∧ v ≤ 10) = bi (inR v 11) := bi_cg (le_inR (n := 10) (by decide))
  have bn : bi ((0 : Int32) ≤ n ∧ n ≤ 8) = bi (inR n 9) := bi_cg (le_inR (n := 8) (by decide))
  have bw : bi ((0 : Int32) ≤ w ∧ w ≤ 1) = bi (inR w 2) := bi_cg (le_inR (n := 1) (by decide))
  have no : ¬ okLuck N v p n h w → pQL σ (vLuck N v p n h w) (some (.long (-1))) σ := fun h => ⟨by rw [vLuck, if_neg h], same.rf⟩
  refine zMet.of (by decide) rfl (Nat.le_of_ble_eq_true rfl) (Or.inr rfl) fun X hX hq => ?_
  subst hX
  show Y G X mX6_luck σ 0 [some (.ref (zGa G 0)), some (.int v), some (.int p), some (.int n), some (.int h), some (.int w)] []
  by_cases h1 : inR v 11
  · by_cases h2 : inR p (N 57)
    · by_cases h3 : inR n 9
      · by_cases h4 : inR h 1000
        · by_cases h5 : inR w 2
          · obtain ⟨v', hv', rfl⟩ := inR_of h1 (by decide)
            obtain ⟨p', hp', rfl⟩ := inR_of h2 (by omega)
            obtain ⟨n', hn', rfl⟩ := inR_of h3 (by decide)
            obtain ⟨h', hh', rfl⟩ := inR_of h4 (by decide)
            obtain ⟨w', hw', rfl⟩ := inR_of h5 (by decide)
            have val : vLuck N (nI v') (nI p') (nI n') (nI h') (nI w') = lowV (sm v' (some p') h' n' N) (10 ^ n') w' := by rw [vLuck, if_pos ⟨h1, h2, h3, h4, h5⟩, nN_nI (by omega), nN_nI (by omega), nN_nI (by omega), nN_nI (by omega), nN_nI (by omega)]
            have op : okp (some p') := fun q hq => by cases hq; omega
            have hcu : ∀ x y, hdc (upd (upd σ (400 * 42 + 0) x) (400 * 42 + 1) y) 1 N := fun x y i hi => by rw [pk_un (by omega), pk_un (by omega)]; exact hc i hi
            refine z_iload_n 1 dX6_luck_0 rfl rfl ?_
            refine z_iconst 2 dX6_luck_1 vi0 rfl ?_
            refine z_bipush 4 dX6_luck_2 vb10 rfl ?_
            refine y_cSs 7 (c_within) cs_X6_73 ⟨by decide, by decide, rfl, rfl⟩ (Nat.le_of_ble_eq_true rfl) dX6_luck_4 rfl rfl ?_
            rw [bv]
            refine z_if_eq_f 10 49 dX6_luck_7 rfl (by rw [bi_t h1]; decide) rfl ?_
            refine z_aload_n 11 dX6_luck_10 rfl rfl ?_
            refine y_getr 14 _ sh0 rfl fl_X6_10 dX6_luck_11 rfl ?_
            refine z_iload_n 15 dX6_luck_14 rfl rfl ?_
            refine y_cVs 18 _ (n_hasOne bkm1 hc ok) (bk0 bkm1) cv_X6_141 ⟨by decide, by decide, rfl, rfl⟩ (Nat.le_of_ble_eq_true rfl) dX6_luck_15 rfl rfl ?_
            refine z_if_eq_f 21 49 dX6_luck_18 rfl (by rw [bi_t h2]; decide) rfl ?_
            refine z_iload_n 22 dX6_luck_21 rfl rfl ?_
            refine z_iconst 23 dX6_luck_22 vi0 rfl ?_
            refine z_bipush 25 dX6_luck_23 vb8 rfl ?_
            refine y_cSs 28 (c_within) cs_X6_73 ⟨by decide, by decide, rfl, rfl⟩ (Nat.le_of_ble_eq_true rfl) dX6_luck_25 rfl rfl ?_
            rw [bn]
            refine z_if_eq_f 31 49 dX6_luck_28 rfl (by rw [bi_t h3]; decide) rfl ?_
            refine z_iload 33 dX6_luck_31 rfl rfl ?_
            refine y_cSs 36 (c_isHue) cs_X6_163 ⟨by decide, by decide, rfl, rfl⟩ (Nat.le_of_ble_eq_true rfl) dX6_luck_33 rfl rfl ?_
            refine z_if_eq_f 39 49 dX6_luck_36 rfl (by rw [bi_t h4]; decide) rfl ?_
            refine z_iload 41 dX6_luck_39 rfl rfl ?_
            refine z_iconst 42 dX6_luck_41 vi0 rfl ?_
            refine z_iconst 43 dX6_luck_42 vi1 rfl ?_
            refine y_cSs 46 (c_within) cs_X6_73 ⟨by decide, by decide, rfl, rfl⟩ (Nat.le_of_ble_eq_true rfl) dX6_luck_43 rfl rfl ?_
            rw [bw]
            refine z_if_ne_t 53 dX6_luck_46 rfl (by rw [bi_t h5]; decide) ?_
            refine z_aload_n 54 dX6_luck_53 rfl rfl ?_
            refine y_getr 57 _ sh0 rfl fl_X6_58 dX6_luck_54 rfl ?_
            refine z_iload_n 58 dX6_luck_57 rfl rfl ?_
            refine y_putI 61 _ sh42 rfl fp_X6_233 dX6_luck_58 rfl ?_
            refine z_aload_n 62 dX6_luck_61 rfl rfl ?_
            refine y_getr 65 _ sh0 rfl fl_X6_58 dX6_luck_62 rfl ?_
            refine z_iload 67 dX6_luck_65 rfl rfl ?_
            refine y_putI 70 _ sh42 rfl fp_X6_236 dX6_luck_67 rfl ?_
            refine z_aload_n 71 dX6_luck_70 rfl rfl ?_
            refine y_getr 74 _ sh0 rfl fl_X6_58 dX6_luck_71 rfl ?_
            refine z_aload_n 75 dX6_luck_74 rfl rfl ?_
            refine y_getr 78 _ sh0 rfl fl_X6_10 dX6_luck_75 rfl ?_
            refine z_iload_n 79 dX6_luck_78 rfl rfl ?_
            refine z_iload_n 80 dX6_luck_79 rfl rfl ?_
            refine z_iload 82 dX6_luck_80 rfl rfl ?_
            refine y_cVP 85 _ (c_meanOver (p := some p') (h := h') (hcu _ _) ok (fun e => by cases e) op hh' (by omega) (by omega) hw' (by rw [pk_un (by omega), pk_us]; rfl) (fun q hq => by rw [pk_us])) sh42 cv_X6_239 ⟨by decide, by decide, rfl, rfl⟩ (Nat.le_of_ble_eq_true rfl) dX6_luck_82 rfl rfl (fun v82 σ82 hp82 => ?_)
            obtain ⟨rfl, hs⟩ := hp82
            have sm1 : same σ82 σ := offW_same (fun a ha => (hs a ha).trans (by rw [pk_un (by omega), pk_un (by omega)]))
            show Y G X mX6_luck _ 85 _ [.long _]
            refine z_lret hq rfl dX6_luck_85 rfl rfl ?_
            exact ⟨_, ⟨by rw [val], sm1⟩, rfl⟩
          · have no := no (fun q => h5 q.2.2.2.2)
            refine z_iload_n 1 dX6_luck_0 rfl rfl ?_
            refine z_iconst 2 dX6_luck_1 vi0 rfl ?_
            refine z_bipush 4 dX6_luck_2 vb10 rfl ?_
            refine y_cSs 7 (c_within) cs_X6_73 ⟨by decide, by decide, rfl, rfl⟩ (Nat.le_of_ble_eq_true rfl) dX6_luck_4 rfl rfl ?_
            rw [bv]
            refine z_if_eq_f 10 49 dX6_luck_7 rfl (by rw [bi_t h1]; decide) rfl ?_
            refine z_aload_n 11 dX6_luck_10 rfl rfl ?_
            refine y_getr 14 _ sh0 rfl fl_X6_10 dX6_luck_11 rfl ?_
            refine z_iload_n 15 dX6_luck_14 rfl rfl ?_
            refine y_cVs 18 _ (n_hasOne bkm1 hc ok) (bk0 bkm1) cv_X6_141 ⟨by decide, by decide, rfl, rfl⟩ (Nat.le_of_ble_eq_true rfl) dX6_luck_15 rfl rfl ?_
            refine z_if_eq_f 21 49 dX6_luck_18 rfl (by rw [bi_t h2]; decide) rfl ?_
            refine z_iload_n 22 dX6_luck_21 rfl rfl ?_
            refine z_iconst 23 dX6_luck_22 vi0 rfl ?_
            refine z_bipush 25 dX6_luck_23 vb8 rfl ?_
            refine y_cSs 28 (c_within) cs_X6_73 ⟨by decide, by decide, rfl, rfl⟩ (Nat.le_of_ble_eq_true rfl) dX6_luck_25 rfl rfl ?_
            rw [bn]
            refine z_if_eq_f 31 49 dX6_luck_28 rfl (by rw [bi_t h3]; decide) rfl ?_
            refine z_iload 33 dX6_luck_31 rfl rfl ?_
            refine y_cSs 36 (c_isHue) cs_X6_163 ⟨by decide, by decide, rfl, rfl⟩ (Nat.le_of_ble_eq_true rfl) dX6_luck_33 rfl rfl ?_
            refine z_if_eq_f 39 49 dX6_luck_36 rfl (by rw [bi_t h4]; decide) rfl ?_
            refine z_iload 41 dX6_luck_39 rfl rfl ?_
            refine z_iconst 42 dX6_luck_41 vi0 rfl ?_
            refine z_iconst 43 dX6_luck_42 vi1 rfl ?_
            refine y_cSs 46 (c_within) cs_X6_73 ⟨by decide, by decide, rfl, rfl⟩ (Nat.le_of_ble_eq_true rfl) dX6_luck_43 rfl rfl ?_
            rw [bw]
            refine z_if_ne_f 49 53 dX6_luck_46 rfl (bi_f h5) rfl ?_
            refine z_ldc2 52 kc_X6_231 dX6_luck_49 rfl ?_
            refine z_lret hq rfl dX6_luck_52 rfl rfl ?_
            exact ⟨_, no, rfl⟩
        · have no := no (fun q => h4 q.2.2.2.1)
          refine z_iload_n 1 dX6_luck_0 rfl rfl ?_
          refine z_iconst 2 dX6_luck_1 vi0 rfl ?_
          refine z_bipush 4 dX6_luck_2 vb10 rfl ?_
          refine y_cSs 7 (c_within) cs_X6_73 ⟨by decide, by decide, rfl, rfl⟩ (Nat.le_of_ble_eq_true rfl) dX6_luck_4 rfl rfl ?_
          rw [bv]
          refine z_if_eq_f 10 49 dX6_luck_7 rfl (by rw [bi_t h1]; decide) rfl ?_
          refine z_aload_n 11 dX6_luck_10 rfl rfl ?_
          refine y_getr 14 _ sh0 rfl fl_X6_10 dX6_luck_11 rfl ?_
          refine z_iload_n 15 dX6_luck_14 rfl rfl ?_
          refine y_cVs 18 _ (n_hasOne bkm1 hc ok) (bk0 bkm1) cv_X6_141 ⟨by decide, by decide, rfl, rfl⟩ (Nat.le_of_ble_eq_true rfl) dX6_luck_15 rfl rfl ?_
          refine z_if_eq_f 21 49 dX6_luck_18 rfl (by rw [bi_t h2]; decide) rfl ?_
          refine z_iload_n 22 dX6_luck_21 rfl rfl ?_
          refine z_iconst 23 dX6_luck_22 vi0 rfl ?_
          refine z_bipush 25 dX6_luck_23 vb8 rfl ?_
          refine y_cSs 28 (c_within) cs_X6_73 ⟨by decide, by decide, rfl, rfl⟩ (Nat.le_of_ble_eq_true rfl) dX6_luck_25 rfl rfl ?_
          rw [bn]
          refine z_if_eq_f 31 49 dX6_luck_28 rfl (by rw [bi_t h3]; decide) rfl ?_
          refine z_iload 33 dX6_luck_31 rfl rfl ?_
          refine y_cSs 36 (c_isHue) cs_X6_163 ⟨by decide, by decide, rfl, rfl⟩ (Nat.le_of_ble_eq_true rfl) dX6_luck_33 rfl rfl ?_
          refine z_if_eq_t 49 dX6_luck_36 rfl (bi_f h4) ?_
          refine z_ldc2 52 kc_X6_231 dX6_luck_49 rfl ?_
          refine z_lret hq rfl dX6_luck_52 rfl rfl ?_
          exact ⟨_, no, rfl⟩
      · have no := no (fun q => h3 q.2.2.1)
        refine z_iload_n 1 dX6_luck_0 rfl rfl ?_
        refine z_iconst 2 dX6_luck_1 vi0 rfl ?_
        refine z_bipush 4 dX6_luck_2 vb10 rfl ?_
        refine y_cSs 7 (c_within) cs_X6_73 ⟨by decide, by decide, rfl, rfl⟩ (Nat.le_of_ble_eq_true rfl) dX6_luck_4 rfl rfl ?_
        rw [bv]
        refine z_if_eq_f 10 49 dX6_luck_7 rfl (by rw [bi_t h1]; decide) rfl ?_
        refine z_aload_n 11 dX6_luck_10 rfl rfl ?_
        refine y_getr 14 _ sh0 rfl fl_X6_10 dX6_luck_11 rfl ?_
        refine z_iload_n 15 dX6_luck_14 rfl rfl ?_
        refine y_cVs 18 _ (n_hasOne bkm1 hc ok) (bk0 bkm1) cv_X6_141 ⟨by decide, by decide, rfl, rfl⟩ (Nat.le_of_ble_eq_true rfl) dX6_luck_15 rfl rfl ?_
        refine z_if_eq_f 21 49 dX6_luck_18 rfl (by rw [bi_t h2]; decide) rfl ?_
        refine z_iload_n 22 dX6_luck_21 rfl rfl ?_
        refine z_iconst 23 dX6_luck_22 vi0 rfl ?_
        refine z_bipush 25 dX6_luck_23 vb8 rfl ?_
        refine y_cSs 28 (c_within) cs_X6_73 ⟨by decide, by decide, rfl, rfl⟩ (Nat.le_of_ble_eq_true rfl) dX6_luck_25 rfl rfl ?_
        rw [bn]
        refine z_if_eq_t 49 dX6_luck_28 rfl (bi_f h3) ?_
        refine z_ldc2 52 kc_X6_231 dX6_luck_49 rfl ?_
        refine z_lret hq rfl dX6_luck_52 rfl rfl ?_
        exact ⟨_, no, rfl⟩
    · have no := no (fun q => h2 q.2.1)
      refine z_iload_n 1 dX6_luck_0 rfl rfl ?_
      refine z_iconst 2 dX6_luck_1 vi0 rfl ?_
      refine z_bipush 4 dX6_luck_2 vb10 rfl ?_
      refine y_cSs 7 (c_within) cs_X6_73 ⟨by decide, by decide, rfl, rfl⟩ (Nat.le_of_ble_eq_true rfl) dX6_luck_4 rfl rfl ?_
      rw [bv]
      refine z_if_eq_f 10 49 dX6_luck_7 rfl (by rw [bi_t h1]; decide) rfl ?_
      refine z_aload_n 11 dX6_luck_10 rfl rfl ?_
      refine y_getr 14 _ sh0 rfl fl_X6_10 dX6_luck_11 rfl ?_
      refine z_iload_n 15 dX6_luck_14 rfl rfl ?_
      refine y_cVs 18 _ (n_hasOne bkm1 hc ok) (bk0 bkm1) cv_X6_141 ⟨by decide, by decide, rfl, rfl⟩ (Nat.le_of_ble_eq_true rfl) dX6_luck_15 rfl rfl ?_
      refine z_if_eq_t 49 dX6_luck_18 rfl (bi_f h2) ?_
      refine z_ldc2 52 kc_X6_231 dX6_luck_49 rfl ?_
      refine z_lret hq rfl dX6_luck_52 rfl rfl ?_
      exact ⟨_, no, rfl⟩
  · have no := no (fun q => h1 q.1)
    refine z_iload_n 1 dX6_luck_0 rfl rfl ?_
    refine z_iconst 2 dX6_luck_1 vi0 rfl ?_
    refine z_bipush 4 dX6_luck_2 vb10 rfl ?_
    refine y_cSs 7 (c_within) cs_X6_73 ⟨by decide, by decide, rfl, rfl⟩ (Nat.le_of_ble_eq_true rfl) dX6_luck_4 rfl rfl ?_
    rw [bv]
    refine z_if_eq_t 49 dX6_luck_7 rfl (bi_f h1) ?_
    refine z_ldc2 52 kc_X6_231 dX6_luck_49 rfl ?_
    refine z_lret hq rfl dX6_luck_52 rfl rfl ?_
    exact ⟨_, no, rfl⟩
set_option maxRecDepth 100000 in
theorem x_mean {l : Launch} {G : zG} {σ : Nat → Int32} {N : Pg} {v n w : Int32} (hc : hdc σ 1 N) (ok : okQ N) (oz : okZ N) : zMet l yX6_mean mX6_mean [.ref (zGa G 0), .int v, .int n, .int w] G (zW G σ) (zP G (pQL σ (vMean N v n w))) := by
  have bv : bi ((0 : Int32) ≤ v ∧ v ≤ 10) = bi (inR v 11) := bi_cg (le_inR (n := 10) (by decide))
  have bn : bi ((0 : Int32) ≤ n ∧ n ≤ 8) = bi (inR n 9) := bi_cg (le_inR (n := 8) (by decide))
  have bw : bi ((0 : Int32) ≤ w ∧ w ≤ 1) = bi (inR w 2) := bi_cg (le_inR (n := 1) (by decide))
  have no : ¬ okMean v n w → pQL σ (vMean N v n w) (some (.long (-1))) σ := fun h => ⟨by rw [vMean, if_neg h], same.rf⟩
  refine zMet.of (by decide) rfl (Nat.le_of_ble_eq_true rfl) (Or.inr rfl) fun X hX hq => ?_
  subst hX
  show Y G X mX6_mean σ 0 [some (.ref (zGa G 0)), some (.int v), some (.int n), some (.int w)] []
  by_cases h1 : inR v 11
  · by_cases h3 : inR n 9
    · by_cases h5 : inR w 2
      · obtain ⟨v', hv', rfl⟩ := inR_of h1 (by decide)
        obtain ⟨n', hn', rfl⟩ := inR_of h3 (by decide)
        obtain ⟨w', hw', rfl⟩ := inR_of h5 (by decide)
        have val : vMean N (nI v') (nI n') (nI w') = lowV (sm v' none 0 n' N) (10 ^ n') w' := by rw [vMean, if_pos ⟨h1, h3, h5⟩, nN_nI (by omega), nN_nI (by omega), nN_nI (by omega)]
        have op : okp none := fun q hq => by cases hq
        have hcu : ∀ x, hdc (upd σ (400 * 42 + 0) x) 1 N := fun x i hi => by rw [pk_un (by omega)]; exact hc i hi
        refine z_iload_n 1 dX6_mean_0 rfl rfl ?_
        refine z_iconst 2 dX6_mean_1 vi0 rfl ?_
        refine z_bipush 4 dX6_mean_2 vb10 rfl ?_
        refine y_cSs 7 (c_within) cs_X6_73 ⟨by decide, by decide, rfl, rfl⟩ (Nat.le_of_ble_eq_true rfl) dX6_mean_4 rfl rfl ?_
        rw [bv]
        refine z_if_eq_f 10 29 dX6_mean_7 rfl (by rw [bi_t h1]; decide) rfl ?_
        refine z_iload_n 11 dX6_mean_10 rfl rfl ?_
        refine z_iconst 12 dX6_mean_11 vi0 rfl ?_
        refine z_bipush 14 dX6_mean_12 vb8 rfl ?_
        refine y_cSs 17 (c_within) cs_X6_73 ⟨by decide, by decide, rfl, rfl⟩ (Nat.le_of_ble_eq_true rfl) dX6_mean_14 rfl rfl ?_
        rw [bn]
        refine z_if_eq_f 20 29 dX6_mean_17 rfl (by rw [bi_t h3]; decide) rfl ?_
        refine z_iload_n 21 dX6_mean_20 rfl rfl ?_
        refine z_iconst 22 dX6_mean_21 vi0 rfl ?_
        refine z_iconst 23 dX6_mean_22 vi1 rfl ?_
        refine y_cSs 26 (c_within) cs_X6_73 ⟨by decide, by decide, rfl, rfl⟩ (Nat.le_of_ble_eq_true rfl) dX6_mean_23 rfl rfl ?_
        rw [bw]
        refine z_if_ne_t 33 dX6_mean_26 rfl (by rw [bi_t h5]; decide) ?_
        refine z_aload_n 34 dX6_mean_33 rfl rfl ?_
        refine y_getr 37 _ sh0 rfl fl_X6_58 dX6_mean_34 rfl ?_
        refine z_iconst 38 dX6_mean_37 vim1 rfl ?_
        refine y_putI 41 _ sh42 rfl fp_X6_233 dX6_mean_38 rfl ?_
        refine z_aload_n 42 dX6_mean_41 rfl rfl ?_
        refine y_getr 45 _ sh0 rfl fl_X6_58 dX6_mean_42 rfl ?_
        refine z_aload_n 46 dX6_mean_45 rfl rfl ?_
        refine y_getr 49 _ sh0 rfl fl_X6_10 dX6_mean_46 rfl ?_
        refine z_iload_n 50 dX6_mean_49 rfl rfl ?_
        refine z_iload_n 51 dX6_mean_50 rfl rfl ?_
        refine z_iload_n 52 dX6_mean_51 rfl rfl ?_
        refine y_cVP 55 _ (c_meanOver (p := none) (h := 0) (hcu _) ok (fun _ => oz) op (by decide) (by omega) (by omega) hw' (by rw [pk_us]; rfl) (fun q hq => by cases hq)) sh42 cv_X6_239 ⟨by decide, by decide, rfl, rfl⟩ (Nat.le_of_ble_eq_true rfl) dX6_mean_52 rfl rfl (fun v52 σ52 hp52 => ?_)
        obtain ⟨rfl, hs⟩ := hp52
        have sm1 : same σ52 σ := offW_same (fun a ha => (hs a ha).trans (by rw [pk_un (by omega)]))
        show Y G X mX6_mean _ 55 _ [.long _]
        refine z_lret hq rfl dX6_mean_55 rfl rfl ?_
        exact ⟨_, ⟨by rw [val], sm1⟩, rfl⟩
      · have no := no (fun q => h5 q.2.2)
        refine z_iload_n 1 dX6_mean_0 rfl rfl ?_
        refine z_iconst 2 dX6_mean_1 vi0 rfl ?_
        refine z_bipush 4 dX6_mean_2 vb10 rfl ?_
        refine y_cSs 7 (c_within) cs_X6_73 ⟨by decide, by decide, rfl, rfl⟩ (Nat.le_of_ble_eq_true rfl) dX6_mean_4 rfl rfl ?_
        rw [bv]
        refine z_if_eq_f 10 29 dX6_mean_7 rfl (by rw [bi_t h1]; decide) rfl ?_
        refine z_iload_n 11 dX6_mean_10 rfl rfl ?_
        refine z_iconst 12 dX6_mean_11 vi0 rfl ?_
        refine z_bipush 14 dX6_mean_12 vb8 rfl ?_
        refine y_cSs 17 (c_within) cs_X6_73 ⟨by decide, by decide, rfl, rfl⟩ (Nat.le_of_ble_eq_true rfl) dX6_mean_14 rfl rfl ?_
        rw [bn]
        refine z_if_eq_f 20 29 dX6_mean_17 rfl (by rw [bi_t h3]; decide) rfl ?_
        refine z_iload_n 21 dX6_mean_20 rfl rfl ?_
        refine z_iconst 22 dX6_mean_21 vi0 rfl ?_
        refine z_iconst 23 dX6_mean_22 vi1 rfl ?_
        refine y_cSs 26 (c_within) cs_X6_73 ⟨by decide, by decide, rfl, rfl⟩ (Nat.le_of_ble_eq_true rfl) dX6_mean_23 rfl rfl ?_
        rw [bw]
        refine z_if_ne_f 29 33 dX6_mean_26 rfl (bi_f h5) rfl ?_
        refine z_ldc2 32 kc_X6_231 dX6_mean_29 rfl ?_
        refine z_lret hq rfl dX6_mean_32 rfl rfl ?_
        exact ⟨_, no, rfl⟩
    · have no := no (fun q => h3 q.2.1)
      refine z_iload_n 1 dX6_mean_0 rfl rfl ?_
      refine z_iconst 2 dX6_mean_1 vi0 rfl ?_
      refine z_bipush 4 dX6_mean_2 vb10 rfl ?_
      refine y_cSs 7 (c_within) cs_X6_73 ⟨by decide, by decide, rfl, rfl⟩ (Nat.le_of_ble_eq_true rfl) dX6_mean_4 rfl rfl ?_
      rw [bv]
      refine z_if_eq_f 10 29 dX6_mean_7 rfl (by rw [bi_t h1]; decide) rfl ?_
      refine z_iload_n 11 dX6_mean_10 rfl rfl ?_
      refine z_iconst 12 dX6_mean_11 vi0 rfl ?_
      refine z_bipush 14 dX6_mean_12 vb8 rfl ?_
      refine y_cSs 17 (c_within) cs_X6_73 ⟨by decide, by decide, rfl, rfl⟩ (Nat.le_of_ble_eq_true rfl) dX6_mean_14 rfl rfl ?_
      rw [bn]
      refine z_if_eq_t 29 dX6_mean_17 rfl (bi_f h3) ?_
      refine z_ldc2 32 kc_X6_231 dX6_mean_29 rfl ?_
      refine z_lret hq rfl dX6_mean_32 rfl rfl ?_
      exact ⟨_, no, rfl⟩
  · have no := no (fun q => h1 q.1)
    refine z_iload_n 1 dX6_mean_0 rfl rfl ?_
    refine z_iconst 2 dX6_mean_1 vi0 rfl ?_
    refine z_bipush 4 dX6_mean_2 vb10 rfl ?_
    refine y_cSs 7 (c_within) cs_X6_73 ⟨by decide, by decide, rfl, rfl⟩ (Nat.le_of_ble_eq_true rfl) dX6_mean_4 rfl rfl ?_
    rw [bv]
    refine z_if_eq_t 29 dX6_mean_7 rfl (bi_f h1) ?_
    refine z_ldc2 32 kc_X6_231 dX6_mean_29 rfl ?_
    refine z_lret hq rfl dX6_mean_32 rfl rfl ?_
    exact ⟨_, no, rfl⟩

