/-! ===== small numbers; the class's own small functions ===== -/
section YD
variable {G : zG} {X : zX} {μ : zM} {σ : Nat → Int32} {pc : Nat} {L : List (Option Value)} {S S0 : List Value}
theorem y_cVv (n r : Nat) {y : MethodName} {μ' : zM} {As : List Value} {idx ci lo len : Nat} {sl : List (Bool × Nat)} {σ' : Nat → Int32} (hM : zMet (zXl X) y μ' (.ref (zGa G r) :: As) G (zW G σ) (zFn G none σ')) (hr : zSh[r]? = some (ci + 5, lo, len, sl)) (hc : zCV (zMo μ) idx ci y μ' As.length) (hm : zRm0 μ' μ) (hs : (S.map fun v => v.category).sum ≤ 8) (hd : decode (zMc μ) pc = .ok (.invokevirtual idx, 3)) (hS0 : S0 = As.reverse ++ .ref (zGa G r) :: S) (hn : pc + 3 = n)
    (k : Y G X μ σ' n L S) : Y G X μ σ pc L S0 := y_cV n r hM hr hc hm hs hd hS0 hn k
theorem y_cVs (n r : Nat) {y : MethodName} {μ' : zM} {As : List Value} {idx ci lo len : Nat} {sl : List (Bool × Nat)} {v : Value} {σ' : Nat → Int32} (hM : zMet (zXl X) y μ' (.ref (zGa G r) :: As) G (zW G σ) (zFn G (some v) σ')) (hr : zSh[r]? = some (ci + 5, lo, len, sl)) (hc : zCV (zMo μ) idx ci y μ' As.length) (hm : zRm0 μ' μ) (hs : (S.map fun v => v.category).sum ≤ 8) (hd : decode (zMc μ) pc = .ok (.invokevirtual idx, 3)) (hS0 : S0 = As.reverse ++ .ref (zGa G r) :: S) (hn : pc + 3 = n)
    (k : Y G X μ σ' n L (v :: S)) : Y G X μ σ pc L S0 := y_cV n r hM hr hc hm hs hd hS0 hn k
theorem y_cSv (n : Nat) {y : MethodName} {μ' : zM} {As : List Value} {idx : Nat} {σ' : Nat → Int32} (hM : zMet (zXl X) y μ' As G (zW G σ) (zFn G none σ')) (hc : zCS (zMo μ) idx y μ' As.length) (hm : zRm0 μ' μ) (hs : (S.map fun v => v.category).sum ≤ 8) (hd : decode (zMc μ) pc = .ok (.invokestatic idx, 3)) (hS0 : S0 = As.reverse ++ S) (hn : pc + 3 = n)
    (k : Y G X μ σ' n L S) : Y G X μ σ pc L S0 := y_cS n hM hc hm hs hd hS0 hn k
theorem y_cSs (n : Nat) {y : MethodName} {μ' : zM} {As : List Value} {idx : Nat} {v : Value} {σ' : Nat → Int32} (hM : zMet (zXl X) y μ' As G (zW G σ) (zFn G (some v) σ')) (hc : zCS (zMo μ) idx y μ' As.length) (hm : zRm0 μ' μ) (hs : (S.map fun v => v.category).sum ≤ 8) (hd : decode (zMc μ) pc = .ok (.invokestatic idx, 3)) (hS0 : S0 = As.reverse ++ S) (hn : pc + 3 = n)
    (k : Y G X μ σ' n L (v :: S)) : Y G X μ σ pc L S0 := y_cS n hM hc hm hs hd hS0 hn k
theorem y_cNv (n : Nat) {y : MethodName} {μ' : zM} {As : List Value} {idx : Nat} {σ' : Nat → Int32} (hM : zMet (zXl X) y μ' As G (zW G σ) (zFn G none σ')) (hc : zCN (zMo μ) idx y μ' As.length) (hm : zRm0 μ' μ) (hs : (S.map fun v => v.category).sum ≤ 8) (hd : decode (zMc μ) pc = .ok (.invokestatic idx, 3)) (hS0 : S0 = As.reverse ++ S) (hn : pc + 3 = n)
    (k : Y G X μ σ' n L S) : Y G X μ σ pc L S0 := y_cN n hM hc hm hs hd hS0 hn k
theorem y_cNs (n : Nat) {y : MethodName} {μ' : zM} {As : List Value} {idx : Nat} {v : Value} {σ' : Nat → Int32} (hM : zMet (zXl X) y μ' As G (zW G σ) (zFn G (some v) σ')) (hc : zCN (zMo μ) idx y μ' As.length) (hm : zRm0 μ' μ) (hs : (S.map fun v => v.category).sum ≤ 8) (hd : decode (zMc μ) pc = .ok (.invokestatic idx, 3)) (hS0 : S0 = As.reverse ++ S) (hn : pc + 3 = n)
    (k : Y G X μ σ' n L (v :: S)) : Y G X μ σ pc L S0 := y_cN n hM hc hm hs hd hS0 hn k
end YD
theorem sp_sp {σ : Nat → Int32} {r : Nat} {Q Q' : Pg} : sp (sp σ r Q) r Q' = sp σ r Q' := ov_ov
abbrev inR (x : Int32) (n : Nat) : Prop := 0 ≤ x.toInt ∧ x.toInt < (n : Int)
theorem inR_nI {j n : Nat} (hj : j < 2 ^ 31) : inR (nI j) n ↔ j < n := by
  simp only [inR, nI_toInt hj]; omega
theorem inR_of {x : Int32} {n : Nat} (h : inR x n) (hn : n < 2 ^ 31) : ∃ j, j < n ∧ x = nI j := vp_in_of (vp_in_iff.mpr h) hn
theorem le_inR {x : Int32} {n : Nat} (hn : n < 2 ^ 30) : ((0 : Int32) ≤ x ∧ x ≤ nI n) ↔ inR x (n + 1) := by
  rw [Int32.le_iff_toInt_le, Int32.le_iff_toInt_le, nI_toInt (by omega), Int32.toInt_zero]
  simp only [inR]; omega
theorem le_inR1 {x : Int32} {n : Nat} (hn : n < 2 ^ 30) : ((0 : Int32) ≤ x ∧ x ≤ nI n - 1) ↔ inR x n := by
  have e : (nI n - 1).toInt = (n : Int) - 1 := pk_sub_toInt (a := n) (b := 1) hn (by decide)
  rw [Int32.le_iff_toInt_le, Int32.le_iff_toInt_le, e, Int32.toInt_zero]
  simp only [inR]; omega
set_option maxRecDepth 100000 in
theorem c_within {l : Launch} {G : zG} {σ : Nat → Int32} {v lo hi : Int32} : zMet l yX6_within mX6_within [.int v, .int lo, .int hi] G (zW G σ) (zFn G (some (.int (bi (lo ≤ v ∧ v ≤ hi)))) σ) := by
  refine zMet.of (by decide) rfl (Nat.le_of_ble_eq_true rfl) (Or.inr rfl) fun X hX hq => ?_
  subst hX
  show Y G X mX6_within σ 0 [some (.int v), some (.int lo), some (.int hi)] []
  refine z_iload_n 1 dX6_within_0 rfl rfl ?_
  refine z_iload_n 2 dX6_within_1 rfl rfl ?_
  refine z_icmp_lt 14 5 dX6_within_2 rfl rfl (fun h2 => ?_) (fun h2 => ?_)
  · skip
    have e : bi (lo ≤ v ∧ v ≤ hi) = 0 := bi_f (fun h => absurd h2 (Int32.not_lt.mpr h.1))
    refine z_iconst 15 dX6_within_14 vi0 rfl ?_
    refine z_zret hq rfl rfl dX6_within_15 rfl rfl ?_
    exact ⟨by rw [e], rfl⟩
  · skip
    refine z_iload_n 6 dX6_within_5 rfl rfl ?_
    refine z_iload_n 7 dX6_within_6 rfl rfl ?_
    refine z_icmp_gt 14 10 dX6_within_7 rfl rfl (fun h7 => ?_) (fun h7 => ?_)
    · skip
      have e : bi (lo ≤ v ∧ v ≤ hi) = 0 := bi_f (fun h => absurd h7 (Int32.not_lt.mpr h.2))
      refine z_iconst 15 dX6_within_14 vi0 rfl ?_
      refine z_zret hq rfl rfl dX6_within_15 rfl rfl ?_
      exact ⟨by rw [e], rfl⟩
    · skip
      have e : bi (lo ≤ v ∧ v ≤ hi) = 1 := bi_t ⟨Int32.not_lt.mp h2, Int32.not_lt.mp h7⟩
      refine z_iconst 11 dX6_within_10 vi1 rfl ?_
      refine z_goto 15 dX6_within_11 rfl ?_
      refine z_zret hq rfl rfl dX6_within_15 rfl rfl ?_
      exact ⟨by rw [e], rfl⟩
set_option maxRecDepth 100000 in
theorem c_isHue {l : Launch} {G : zG} {σ : Nat → Int32} {h : Int32} : zMet l yX6_isHue mX6_isHue [.int h] G (zW G σ) (zFn G (some (.int (bi (inR h 1000)))) σ) := by
  refine zMet.of (by decide) rfl (Nat.le_of_ble_eq_true rfl) (Or.inr rfl) fun X hX hq => ?_
  subst hX
  show Y G X mX6_isHue σ 0 [some (.int h)] []
  have e : bi ((0 : Int32) ≤ h ∧ h ≤ 999) = bi (inR h 1000) := bi_cg (le_inR (n := 999) (by decide))
  refine z_iload_n 1 dX6_isHue_0 rfl rfl ?_
  refine z_iconst 2 dX6_isHue_1 vi0 rfl ?_
  refine z_sipush 5 dX6_isHue_2 vs999 rfl ?_
  refine y_cSs 8 (c_within) cs_X6_73 ⟨by decide, by decide, rfl, rfl⟩ (Nat.le_of_ble_eq_true rfl) dX6_isHue_5 rfl rfl ?_
  refine z_zret hq rfl bi_nar dX6_isHue_8 rfl rfl ?_
  exact ⟨by rw [e], rfl⟩
set_option maxRecDepth 100000 in
theorem c_sum {l : Launch} {G : zG} {σ : Nat → Int32} {r lo len a b : Nat} {sl : List (Bool × Nat)} (f : Nat → Nat) (hr : zSh[r]? = some (0, lo, len, sl)) (hab : a + b ≤ len) (hlen : len < 1000) (hf : ∀ i, i < b → σ (lo + (a + i)) = nI (f i)) : zMet l yX6_sum mX6_sum [.ref (zGa G r), .int (nI a), .int (nI b)] G (zW G σ) (zFn G (some (.int (nI (sumN f b)))) σ) := by
  refine zMet.of (by decide) rfl (Nat.le_of_ble_eq_true rfl) (Or.inr rfl) fun X hX hq => ?_
  subst hX
  show Y G X mX6_sum σ 0 [some (.ref (zGa G r)), some (.int (nI a)), some (.int (nI b)), none, none] []
  refine z_iconst 1 dX6_sum_0 vi0 rfl ?_
  refine z_istore_n 2 [_, _, _, _, _] dX6_sum_1 (by decide) rfl rfl rfl ?_
  refine z_iload_n 3 dX6_sum_2 rfl rfl ?_
  refine z_istore 5 [_, _, _, _, _] dX6_sum_3 (by decide) rfl rfl rfl ?_
  refine zup (P := fun i => Y G X mX6_sum σ 5 [some (.ref (zGa G r)), some (.int (nI a)), some (.int (nI b)), some (.int (nI (sumN f i))), some (.int (nI (a + i)))] []) b ?_ (fun i hi ih => ?_) 0 (Nat.zero_le _)
  · skip
    refine z_iload 7 dX6_sum_5 rfl rfl ?_
    refine z_iload_n 8 dX6_sum_7 rfl rfl ?_
    refine z_iload_n 9 dX6_sum_8 rfl rfl ?_
    refine z_iaddN 10 rfl rfl dX6_sum_9 rfl ?_
    refine z_icmp_ge_t 33 dX6_sum_10 rfl (Int32.le_refl _) ?_
    refine z_iload_n 34 dX6_sum_33 rfl rfl ?_
    refine z_iret hq rfl dX6_sum_34 rfl rfl ?_
    exact ⟨rfl, rfl⟩
  · skip
    refine z_iload 7 dX6_sum_5 rfl rfl ?_
    refine z_iload_n 8 dX6_sum_7 rfl rfl ?_
    refine z_iload_n 9 dX6_sum_8 rfl rfl ?_
    refine z_iaddN 10 rfl rfl dX6_sum_9 rfl ?_
    refine z_icmp_ge_f 13 33 dX6_sum_10 rfl (nI_ge (by omega) (by omega)) rfl ?_
    refine z_iload 15 dX6_sum_13 rfl rfl ?_
    refine z_aload_n 16 dX6_sum_15 rfl rfl ?_
    refine y_len 17 _ hr rfl dX6_sum_16 rfl ?_
    refine z_icmp_ge_f 20 33 dX6_sum_17 rfl (nI_ge (b := len) (by omega) (by omega)) rfl ?_
    refine z_iload_n 21 dX6_sum_20 rfl rfl ?_
    refine z_aload_n 22 dX6_sum_21 rfl rfl ?_
    refine z_iload 24 dX6_sum_22 rfl rfl ?_
    refine y_ld 25 _ _ hr rfl (by omega) (by omega) dX6_sum_24 rfl ?_
    rw [hf i hi]
    refine z_iaddN 26 rfl rfl dX6_sum_25 rfl ?_
    refine z_istore_n 27 [_, _, _, _, _] dX6_sum_26 (by decide) rfl rfl rfl ?_
    refine z_iinc 30 [_, _, _, _, _] dX6_sum_27 rfl (show _ + _ = nI (_ + 1) from nI_1 _) (by decide) rfl rfl rfl ?_
    refine z_goto 5 dX6_sum_30 rfl ?_
    exact ih

