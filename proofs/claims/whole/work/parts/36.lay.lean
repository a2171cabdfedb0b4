/-! ===== lay ===== -/
theorem shl8 (x : Int32) : (x <<< ((24 : Int32) &&& 31)) >>> ((24 : Int32) &&& 31) = x.toInt8.toInt32 := by
  rw [show (24 : Int32) &&& 31 = 24 from by decide]
  apply Int32.toBitVec_inj.mp
  show ((x.toBitVec <<< (BitVec.smod 24#32 32#32)).sshiftRight' (BitVec.smod 24#32 32#32)) = (x.toBitVec.signExtend 8).signExtend 32
  rw [show BitVec.smod 24#32 32#32 = 24#32 from by decide]
  apply BitVec.eq_of_getLsbD_eq
  intro i hi
  simp only [BitVec.sshiftRight_eq', BitVec.shiftLeft_eq', BitVec.getLsbD_sshiftRight, BitVec.getLsbD_signExtend, BitVec.getLsbD_shiftLeft, BitVec.msb_eq_getLsbD_last, BitVec.toNat_ofNat]
  have h32 : ¬ 32 ≤ i := by omega
  by_cases h : i < 8
  · have a1 : 24 + i < 32 := by omega
    have a2 : ¬ 24 + i < 24 := by omega
    simp [h, hi, h32, a1, a2]
  · have : ¬ (24 + i < 32) := by omega
    simp [h, hi, this, h32]
theorem shl16 (x : Int32) : (x <<< ((16 : Int32) &&& 31)) >>> ((16 : Int32) &&& 31) = x.toInt16.toInt32 := by
  rw [show (16 : Int32) &&& 31 = 16 from by decide]
  apply Int32.toBitVec_inj.mp
  show ((x.toBitVec <<< (BitVec.smod 16#32 32#32)).sshiftRight' (BitVec.smod 16#32 32#32)) = (x.toBitVec.signExtend 16).signExtend 32
  rw [show BitVec.smod 16#32 32#32 = 16#32 from by decide]
  apply BitVec.eq_of_getLsbD_eq
  intro i hi
  simp only [BitVec.sshiftRight_eq', BitVec.shiftLeft_eq', BitVec.getLsbD_sshiftRight, BitVec.getLsbD_signExtend, BitVec.getLsbD_shiftLeft, BitVec.msb_eq_getLsbD_last, BitVec.toNat_ofNat]
  have h32 : ¬ 32 ≤ i := by omega
  by_cases h : i < 16
  · have a1 : 16 + i < 32 := by omega
    have a2 : ¬ 16 + i < 16 := by omega
    simp [h, hi, h32, a1, a2]
  · have : ¬ (16 + i < 32) := by omega
    simp [h, hi, this, h32]
def cutV (L : Nat) (v : Int32) : Int32 := if L = 0 then v.toInt8.toInt32 else if L = 1 then v.toInt16.toInt32 else v
def vLay (T : Sht) (k i : Int32) : Int32 := if inR k 4 then (match T (nN k) with | none => -11 | some (_, s) => if inR i s then 1 else -12) else -1
def sLay (σ : Nat → Int32) (T : Sht) (k i v : Int32) (a : Nat) : Nat → Int32 := if inR k 4 then (match T (nN k) with | none => σ | some (L, s) => if inR i s then upd σ (a + nN i) (cutV L v) else σ) else σ
set_option maxRecDepth 100000 in
theorem c_cut {l : Launch} {G : zG} {σ : Nat → Int32} {j L : Nat} {v : Int32} (hj : j < 4) (hL : σ (400 * (150 + 2 * j) + 0) = nI L) (h3 : L < 3) : zMet l yX3_cut mX3_cut [.ref (zGa G (150 + 2 * j)), .int v] G (zW G σ) (zFn G (some (.int (cutV L v))) σ) := by
  refine zMet.of (by decide) rfl (Nat.le_of_ble_eq_true rfl) (Or.inr rfl) fun X hX hq => ?_
  subst hX
  show Y G X mX3_cut σ 0 [some (.ref (zGa G (150 + 2 * j))), some (.int v)] []
  refine z_aload_n 1 dX3_cut_0 rfl rfl ?_
  refine y_get 4 _ (sho hj) rfl fl_X3_19 dX3_cut_1 rfl ?_
  rw [hL]
  refine z_if_ne 10 7 dX3_cut_4 rfl rfl (fun h4 => ?_) (fun h4 => ?_)
  · skip
    have n0 : L ≠ 0 := fun e => h4 (by rw [e]; rfl)
    refine z_aload_n 11 dX3_cut_10 rfl rfl ?_
    refine y_get 14 _ (sho hj) rfl fl_X3_19 dX3_cut_11 rfl ?_
    rw [hL]
    refine z_iconst 15 dX3_cut_14 vi1 rfl ?_
    refine z_icmp_ne 23 18 dX3_cut_15 rfl rfl (fun h15 => ?_) (fun h15 => ?_)
    · skip
      have n1 : L ≠ 1 := fun e => h15 (by rw [e]; rfl)
      refine z_iload_n 24 dX3_cut_23 rfl rfl ?_
      refine z_iret hq rfl dX3_cut_24 rfl rfl ?_
      exact ⟨by rw [cutV, if_neg n0, if_neg n1], rfl⟩
    · skip
      have e : L = 1 := nI_eqL (b := 1) (by omega) (by decide) h15
      refine z_iload_n 19 dX3_cut_18 rfl rfl ?_
      refine z_i2s 20 dX3_cut_19 rfl ?_
      refine z_goto 24 dX3_cut_20 rfl ?_
      refine z_iret hq rfl dX3_cut_24 rfl rfl ?_
      exact ⟨by rw [cutV, if_neg n0, if_pos e], rfl⟩
  · skip
    have e : L = 0 := nI_eqL (b := 0) (by omega) (by decide) h4
    refine z_iload_n 8 dX3_cut_7 rfl rfl ?_
    refine z_i2b 9 dX3_cut_8 rfl ?_
    refine z_iret hq rfl dX3_cut_9 rfl rfl ?_
    exact ⟨by rw [cutV, if_pos e], rfl⟩
theorem nI_neg4 {L : Nat} (h : L < 3) : nI L ≠ -4 := by
  rcases (show L = 0 ∨ L = 1 ∨ L = 2 by omega) with rfl | rfl | rfl <;> decide
theorem nI_p {s : Nat} (h : s ≤ 40) : ∀ x : Int32, ((0 : Int32) ≤ x ∧ x ≤ nI s - 1) ↔ inR x s := by
  intro x
  rcases Nat.eq_zero_or_pos s with rfl | q
  · constructor
    · intro h2; exfalso
      have a1 := Int32.le_iff_toInt_le.mp h2.1
      have a2 := Int32.le_iff_toInt_le.mp h2.2
      have : (nI 0 - 1).toInt = -1 := by decide
      rw [this] at a2; rw [Int32.toInt_zero] at a1; omega
    · intro h2; simp only [inR] at h2; exfalso; omega
  · rw [show nI s - 1 = nI (s - 1) from (by rw [show (1 : Int32) = nI 1 from rfl, pk_sub q])]
    have := le_inR (x := x) (n := s - 1) (by omega)
    rw [show s - 1 + 1 = s by omega] at this
    exact this
set_option maxRecDepth 100000 in
theorem x_lay {l : Launch} {G : zG} {σ : Nat → Int32} {T : Sht} {k i v : Int32} (hT : hTC σ T) : zMet l yX6_lay mX6_lay [.ref (zGa G 0), .int k, .int i, .int v] G (zW G σ) (zFn G (some (.int (vLay T k i))) (sLay σ T k i v (400 * (150 + 2 * nN k + 1) + 0))) := by
  have b1 : bi ((0 : Int32) ≤ k ∧ k ≤ 3) = bi (inR k 4) := bi_cg (le_inR (n := 3) (by decide))
  refine zMet.of (by decide) rfl (Nat.le_of_ble_eq_true rfl) (Or.inr rfl) fun X hX hq => ?_
  subst hX
  show Y G X mX6_lay σ 0 [some (.ref (zGa G 0)), some (.int k), some (.int i), some (.int v), none] []
  by_cases h1 : inR k 4
  · obtain ⟨j, hj, rfl⟩ := inR_of h1 (by decide)
    have ej : nN (nI j) = j := nN_nI (by omega)
    have ht := hT j hj
    cases hs : T j with
    | none =>
      rw [hs] at ht
      refine z_iload_n 1 dX6_lay_0 rfl rfl ?_
      refine z_iconst 2 dX6_lay_1 vi0 rfl ?_
      refine z_iconst 3 dX6_lay_2 vi3 rfl ?_
      refine y_cSs 6 (c_within) cs_X6_73 ⟨by decide, by decide, rfl, rfl⟩ (Nat.le_of_ble_eq_true rfl) dX6_lay_3 rfl rfl ?_
      rw [b1]
      refine z_if_ne_t 11 dX6_lay_6 rfl (by rw [bi_t h1]; decide) ?_
      refine z_aload_n 12 dX6_lay_11 rfl rfl ?_
      refine y_getr 15 _ sh0 rfl fl_X6_64 dX6_lay_12 rfl ?_
      refine z_iload_n 16 dX6_lay_15 rfl rfl ?_
      refine y_aaS 17 _ j sh107 rfl hj (by decide) (aa107 hj) dX6_lay_16 rfl ?_
      refine z_astore 19 [_, _, _, _, _] dX6_lay_17 (by decide) rfl rfl rfl ?_
      refine z_aload 21 dX6_lay_19 rfl rfl ?_
      refine y_get 24 _ (sho hj) rfl fl_X6_269 dX6_lay_21 rfl ?_
      refine z_if_ge_f 27 30 dX6_lay_24 rfl (Int32.not_le.mpr ht) rfl ?_
      refine z_bipush 29 dX6_lay_27 vbm11 rfl ?_
      refine z_iret hq rfl dX6_lay_29 rfl rfl ?_
      exact ⟨by rw [vLay, if_pos h1, ej, hs], by rw [sLay, if_pos h1, ej, hs]⟩
    | some q =>
      obtain ⟨L, s⟩ := q
      rw [hs] at ht
      obtain ⟨hL, hz, h3, h40⟩ := ht
      have b2 := bi_cg (nI_p h40 i)
      by_cases h2 : inR i s
      · obtain ⟨t, hst, rfl⟩ := inR_of h2 (by omega)
        have et : nN (nI t) = t := nN_nI (by omega)
        refine z_iload_n 1 dX6_lay_0 rfl rfl ?_
        refine z_iconst 2 dX6_lay_1 vi0 rfl ?_
        refine z_iconst 3 dX6_lay_2 vi3 rfl ?_
        refine y_cSs 6 (c_within) cs_X6_73 ⟨by decide, by decide, rfl, rfl⟩ (Nat.le_of_ble_eq_true rfl) dX6_lay_3 rfl rfl ?_
        rw [b1]
        refine z_if_ne_t 11 dX6_lay_6 rfl (by rw [bi_t h1]; decide) ?_
        refine z_aload_n 12 dX6_lay_11 rfl rfl ?_
        refine y_getr 15 _ sh0 rfl fl_X6_64 dX6_lay_12 rfl ?_
        refine z_iload_n 16 dX6_lay_15 rfl rfl ?_
        refine y_aaS 17 _ j sh107 rfl hj (by decide) (aa107 hj) dX6_lay_16 rfl ?_
        refine z_astore 19 [_, _, _, _, _] dX6_lay_17 (by decide) rfl rfl rfl ?_
        refine z_aload 21 dX6_lay_19 rfl rfl ?_
        refine y_get 24 _ (sho hj) rfl fl_X6_269 dX6_lay_21 rfl ?_
        rw [hz]
        refine z_if_ge_t 30 dX6_lay_24 rfl (nI_le (a := 0) (by omega) (by omega)) ?_
        refine z_iload_n 31 dX6_lay_30 rfl rfl ?_
        refine z_iconst 32 dX6_lay_31 vi0 rfl ?_
        refine z_aload 34 dX6_lay_32 rfl rfl ?_
        refine y_get 37 _ (sho hj) rfl fl_X6_269 dX6_lay_34 rfl ?_
        rw [hz]
        refine z_iconst 38 dX6_lay_37 vi1 rfl ?_
        refine z_isub 39 dX6_lay_38 rfl ?_
        refine y_cSs 42 (c_within) cs_X6_73 ⟨by decide, by decide, rfl, rfl⟩ (Nat.le_of_ble_eq_true rfl) dX6_lay_39 rfl rfl ?_
        rw [b2]
        refine z_if_ne_t 48 dX6_lay_42 rfl (by rw [bi_t h2]; decide) ?_
        refine z_aload 50 dX6_lay_48 rfl rfl ?_
        refine y_getr 53 _ (sho hj) rfl fl_X6_270 dX6_lay_50 rfl ?_
        refine z_iload_n 54 dX6_lay_53 rfl rfl ?_
        refine z_aload 56 dX6_lay_54 rfl rfl ?_
        refine z_iload_n 57 dX6_lay_56 rfl rfl ?_
        refine y_cVs 60 _ (c_cut hj hL h3) (sho hj) cv_X6_273 ⟨by decide, by decide, rfl, rfl⟩ (Nat.le_of_ble_eq_true rfl) dX6_lay_57 rfl rfl ?_
        refine y_st 61 _ t (shc hj) rfl (by omega) (by omega) dX6_lay_60 rfl ?_
        refine z_iconst 62 dX6_lay_61 vi1 rfl ?_
        refine z_iret hq rfl dX6_lay_62 rfl rfl ?_
        exact ⟨by rw [vLay, if_pos h1, ej, hs]; exact congrArg _ (congrArg _ (if_pos h2).symm), by rw [sLay, if_pos h1, ej, hs]; exact congrArg _ ((if_pos h2).trans (by rw [et])).symm⟩
      · skip
        refine z_iload_n 1 dX6_lay_0 rfl rfl ?_
        refine z_iconst 2 dX6_lay_1 vi0 rfl ?_
        refine z_iconst 3 dX6_lay_2 vi3 rfl ?_
        refine y_cSs 6 (c_within) cs_X6_73 ⟨by decide, by decide, rfl, rfl⟩ (Nat.le_of_ble_eq_true rfl) dX6_lay_3 rfl rfl ?_
        rw [b1]
        refine z_if_ne_t 11 dX6_lay_6 rfl (by rw [bi_t h1]; decide) ?_
        refine z_aload_n 12 dX6_lay_11 rfl rfl ?_
        refine y_getr 15 _ sh0 rfl fl_X6_64 dX6_lay_12 rfl ?_
        refine z_iload_n 16 dX6_lay_15 rfl rfl ?_
        refine y_aaS 17 _ j sh107 rfl hj (by decide) (aa107 hj) dX6_lay_16 rfl ?_
        refine z_astore 19 [_, _, _, _, _] dX6_lay_17 (by decide) rfl rfl rfl ?_
        refine z_aload 21 dX6_lay_19 rfl rfl ?_
        refine y_get 24 _ (sho hj) rfl fl_X6_269 dX6_lay_21 rfl ?_
        rw [hz]
        refine z_if_ge_t 30 dX6_lay_24 rfl (nI_le (a := 0) (by omega) (by omega)) ?_
        refine z_iload_n 31 dX6_lay_30 rfl rfl ?_
        refine z_iconst 32 dX6_lay_31 vi0 rfl ?_
        refine z_aload 34 dX6_lay_32 rfl rfl ?_
        refine y_get 37 _ (sho hj) rfl fl_X6_269 dX6_lay_34 rfl ?_
        rw [hz]
        refine z_iconst 38 dX6_lay_37 vi1 rfl ?_
        refine z_isub 39 dX6_lay_38 rfl ?_
        refine y_cSs 42 (c_within) cs_X6_73 ⟨by decide, by decide, rfl, rfl⟩ (Nat.le_of_ble_eq_true rfl) dX6_lay_39 rfl rfl ?_
        rw [b2]
        refine z_if_ne_f 45 48 dX6_lay_42 rfl (bi_f h2) rfl ?_
        refine z_bipush 47 dX6_lay_45 vbm12 rfl ?_
        refine z_iret hq rfl dX6_lay_47 rfl rfl ?_
        exact ⟨by rw [vLay, if_pos h1, ej, hs]; exact congrArg _ (congrArg _ (if_neg h2).symm), by rw [sLay, if_pos h1, ej, hs]; exact congrArg _ (if_neg h2).symm⟩
  · skip
    refine z_iload_n 1 dX6_lay_0 rfl rfl ?_
    refine z_iconst 2 dX6_lay_1 vi0 rfl ?_
    refine z_iconst 3 dX6_lay_2 vi3 rfl ?_
    refine y_cSs 6 (c_within) cs_X6_73 ⟨by decide, by decide, rfl, rfl⟩ (Nat.le_of_ble_eq_true rfl) dX6_lay_3 rfl rfl ?_
    rw [b1]
    refine z_if_ne_f 9 11 dX6_lay_6 rfl (bi_f h1) rfl ?_
    refine z_iconst 10 dX6_lay_9 vim1 rfl ?_
    refine z_iret hq rfl dX6_lay_10 rfl rfl ?_
    exact ⟨by rw [vLay, if_neg h1], by rw [sLay, if_neg h1]⟩
set_option maxRecDepth 100000 in
theorem r_lay {l : Launch} {G : zG} {σ : Nat → Int32} {T : Sht} {k i v : Int32} (hT : hTR σ T) : zMet l yX7_lay mX7_lay [.ref (zGa G 158), .int k, .int i, .int v] G (zW G σ) (zFn G (some (.int (vLay T k i))) (sLay σ T k i v (400 * 172 + 0 + 40 * nN k))) := by
  have b1 : bi ((0 : Int64) ≤ k.toInt64 ∧ k.toInt64 ≤ 3) = bi (inR k 4) := bi_in7 (n := 3) (by decide)
  refine zMet.of (by decide) rfl (Nat.le_of_ble_eq_true rfl) (Or.inr rfl) fun X hX hq => ?_
  subst hX
  show Y G X mX7_lay σ 0 [some (.ref (zGa G 158)), some (.int k), some (.int i), some (.int v)] []
  by_cases h1 : inR k 4
  · obtain ⟨j, hj, rfl⟩ := inR_of h1 (by decide)
    have ej : nN (nI j) = j := nN_nI (by omega)
    have ht := hT j hj
    cases hs : T j with
    | none =>
      rw [hs] at ht
      refine z_iload_n 1 dX7_lay_0 rfl rfl ?_
      refine z_i2l 2 dX7_lay_1 rfl ?_
      refine z_lconst 3 dX7_lay_2 vl0 rfl ?_
      refine z_ldc2 6 kc_X7_220 dX7_lay_3 rfl ?_
      refine y_cSs 9 (c_in) cs_X7_55 ⟨by decide, by decide, rfl, rfl⟩ (Nat.le_of_ble_eq_true rfl) dX7_lay_6 rfl rfl ?_
      rw [b1]
      refine z_if_ne_t 14 dX7_lay_9 rfl (by rw [bi_t h1]; decide) ?_
      refine z_aload_n 15 dX7_lay_14 rfl rfl ?_
      refine y_getr 18 _ sh158 rfl fl_X7_44 dX7_lay_15 rfl ?_
      refine z_iload_n 19 dX7_lay_18 rfl rfl ?_
      refine y_ld 20 _ j sh170 rfl hj (by omega) dX7_lay_19 rfl ?_
      refine z_bipush 22 dX7_lay_20 vbm4 rfl ?_
      refine z_icmp_ne_f 25 28 dX7_lay_22 rfl (ht) rfl ?_
      refine z_bipush 27 dX7_lay_25 vbm11 rfl ?_
      refine z_iret hq rfl dX7_lay_27 rfl rfl ?_
      exact ⟨by rw [vLay, if_pos h1, ej, hs], by rw [sLay, if_pos h1, ej, hs]⟩
    | some q =>
      obtain ⟨L, s⟩ := q
      rw [hs] at ht
      obtain ⟨hL, hz, h3, h40⟩ := ht
      have n4 : σ (400 * 170 + 0 + j) ≠ -4 := by rw [hL]; exact nI_neg4 h3
      have b2 : bi ((0 : Int64) ≤ i.toInt64 ∧ i.toInt64 ≤ (nI s - 1).toInt64) = bi (inR i s) := bi_cg (Iff.trans (by rw [Int64.le_iff_toInt_le, Int64.le_iff_toInt_le, Int32.le_iff_toInt_le, Int32.le_iff_toInt_le, Int32.toInt_toInt64, Int32.toInt_toInt64]; rfl) (nI_p h40 i))
      by_cases h2 : inR i s
      · obtain ⟨t, hst, rfl⟩ := inR_of h2 (by omega)
        have et : nN (nI t) = t := nN_nI (by omega)
        have fin : ∀ x a, x = cutV L v → a = 400 * 172 + 0 + 40 * j + t → zFn G (some (.int (vLay T (nI j) (nI t)))) (sLay σ T (nI j) (nI t) v (400 * 172 + 0 + 40 * nN (nI j))) (some (.int 1)) (zW G (upd σ a x)) := fun x a hx ha => ⟨by rw [vLay, if_pos h1, ej, hs]; exact congrArg _ (congrArg _ (if_pos h2).symm), by rw [sLay, if_pos h1, ej, hs, hx, ha]; exact congrArg _ ((if_pos h2).trans (by rw [et])).symm⟩
        refine z_iload_n 1 dX7_lay_0 rfl rfl ?_
        refine z_i2l 2 dX7_lay_1 rfl ?_
        refine z_lconst 3 dX7_lay_2 vl0 rfl ?_
        refine z_ldc2 6 kc_X7_220 dX7_lay_3 rfl ?_
        refine y_cSs 9 (c_in) cs_X7_55 ⟨by decide, by decide, rfl, rfl⟩ (Nat.le_of_ble_eq_true rfl) dX7_lay_6 rfl rfl ?_
        rw [b1]
        refine z_if_ne_t 14 dX7_lay_9 rfl (by rw [bi_t h1]; decide) ?_
        refine z_aload_n 15 dX7_lay_14 rfl rfl ?_
        refine y_getr 18 _ sh158 rfl fl_X7_44 dX7_lay_15 rfl ?_
        refine z_iload_n 19 dX7_lay_18 rfl rfl ?_
        refine y_ld 20 _ j sh170 rfl hj (by omega) dX7_lay_19 rfl ?_
        refine z_bipush 22 dX7_lay_20 vbm4 rfl ?_
        refine z_icmp_ne_t 28 dX7_lay_22 rfl (n4) ?_
        refine z_iload_n 29 dX7_lay_28 rfl rfl ?_
        refine z_i2l 30 dX7_lay_29 rfl ?_
        refine z_lconst 31 dX7_lay_30 vl0 rfl ?_
        refine z_aload_n 32 dX7_lay_31 rfl rfl ?_
        refine y_getr 35 _ sh158 rfl fl_X7_47 dX7_lay_32 rfl ?_
        refine z_iload_n 36 dX7_lay_35 rfl rfl ?_
        refine y_ld 37 _ j sh171 rfl hj (by omega) dX7_lay_36 rfl ?_
        rw [hz]
        refine z_iconst 38 dX7_lay_37 vi1 rfl ?_
        refine z_isub 39 dX7_lay_38 rfl ?_
        refine z_i2l 40 dX7_lay_39 rfl ?_
        refine y_cSs 43 (c_in) cs_X7_55 ⟨by decide, by decide, rfl, rfl⟩ (Nat.le_of_ble_eq_true rfl) dX7_lay_40 rfl rfl ?_
        rw [b2]
        refine z_if_ne_t 49 dX7_lay_43 rfl (by rw [bi_t h2]; decide) ?_
        refine z_aload_n 50 dX7_lay_49 rfl rfl ?_
        refine y_getr 53 _ sh158 rfl fl_X7_50 dX7_lay_50 rfl ?_
        refine z_bipush 55 dX7_lay_53 vb40 rfl ?_
        refine z_iload_n 56 dX7_lay_55 rfl rfl ?_
        refine z_imulN 57 (show (40 : Int32) = nI 40 from rfl) rfl dX7_lay_56 rfl ?_
        refine z_iload_n 58 dX7_lay_57 rfl rfl ?_
        refine z_iaddN 59 rfl rfl dX7_lay_58 rfl ?_
        refine z_aload_n 60 dX7_lay_59 rfl rfl ?_
        refine y_getr 63 _ sh158 rfl fl_X7_44 dX7_lay_60 rfl ?_
        refine z_iload_n 64 dX7_lay_63 rfl rfl ?_
        refine y_ld 65 _ j sh170 rfl hj (by omega) dX7_lay_64 rfl ?_
        rw [hL]
        refine z_if_ne 78 68 dX7_lay_65 rfl rfl (fun h65 => ?_) (fun h65 => ?_)
        · skip
          have n0 : L ≠ 0 := fun e => h65 (by rw [e]; rfl)
          refine z_aload_n 79 dX7_lay_78 rfl rfl ?_
          refine y_getr 82 _ sh158 rfl fl_X7_44 dX7_lay_79 rfl ?_
          refine z_iload_n 83 dX7_lay_82 rfl rfl ?_
          refine y_ld 84 _ j sh170 rfl hj (by omega) dX7_lay_83 rfl ?_
          rw [hL]
          refine z_iconst 85 dX7_lay_84 vi1 rfl ?_
          refine z_icmp_ne 98 88 dX7_lay_85 rfl rfl (fun h85 => ?_) (fun h85 => ?_)
          · skip
            have n1 : L ≠ 1 := fun e => h85 (by rw [e]; rfl)
            refine z_iload_n 99 dX7_lay_98 rfl rfl ?_
            refine y_st 100 _ _ sh172 rfl (by omega) (by omega) dX7_lay_99 rfl ?_
            refine z_iconst 101 dX7_lay_100 vi1 rfl ?_
            refine z_iret hq rfl dX7_lay_101 rfl rfl ?_
            exact fin _ _ (by rw [cutV, if_neg n0, if_neg n1]) (by omega)
          · skip
            have e : L = 1 := nI_eqL (b := 1) (by omega) (by decide) h85
            refine z_iload_n 89 dX7_lay_88 rfl rfl ?_
            refine z_bipush 91 dX7_lay_89 vb16 rfl ?_
            refine z_ishl 92 dX7_lay_91 rfl ?_
            refine z_bipush 94 dX7_lay_92 vb16 rfl ?_
            refine z_ishr 95 dX7_lay_94 rfl ?_
            refine z_goto 99 dX7_lay_95 rfl ?_
            refine y_st 100 _ _ sh172 rfl (by omega) (by omega) dX7_lay_99 rfl ?_
            refine z_iconst 101 dX7_lay_100 vi1 rfl ?_
            refine z_iret hq rfl dX7_lay_101 rfl rfl ?_
            exact fin _ _ (by rw [cutV, if_neg n0, if_pos e, shl16]) (by omega)
        · skip
          have e : L = 0 := nI_eqL (b := 0) (by omega) (by decide) h65
          refine z_iload_n 69 dX7_lay_68 rfl rfl ?_
          refine z_bipush 71 dX7_lay_69 vb24 rfl ?_
          refine z_ishl 72 dX7_lay_71 rfl ?_
          refine z_bipush 74 dX7_lay_72 vb24 rfl ?_
          refine z_ishr 75 dX7_lay_74 rfl ?_
          refine z_goto 99 dX7_lay_75 rfl ?_
          refine y_st 100 _ _ sh172 rfl (by omega) (by omega) dX7_lay_99 rfl ?_
          refine z_iconst 101 dX7_lay_100 vi1 rfl ?_
          refine z_iret hq rfl dX7_lay_101 rfl rfl ?_
          exact fin _ _ (by rw [cutV, if_pos e, shl8]) (by omega)
      · skip
        refine z_iload_n 1 dX7_lay_0 rfl rfl ?_
        refine z_i2l 2 dX7_lay_1 rfl ?_
        refine z_lconst 3 dX7_lay_2 vl0 rfl ?_
        refine z_ldc2 6 kc_X7_220 dX7_lay_3 rfl ?_
        refine y_cSs 9 (c_in) cs_X7_55 ⟨by decide, by decide, rfl, rfl⟩ (Nat.le_of_ble_eq_true rfl) dX7_lay_6 rfl rfl ?_
        rw [b1]
        refine z_if_ne_t 14 dX7_lay_9 rfl (by rw [bi_t h1]; decide) ?_
        refine z_aload_n 15 dX7_lay_14 rfl rfl ?_
        refine y_getr 18 _ sh158 rfl fl_X7_44 dX7_lay_15 rfl ?_
        refine z_iload_n 19 dX7_lay_18 rfl rfl ?_
        refine y_ld 20 _ j sh170 rfl hj (by omega) dX7_lay_19 rfl ?_
        refine z_bipush 22 dX7_lay_20 vbm4 rfl ?_
        refine z_icmp_ne_t 28 dX7_lay_22 rfl (n4) ?_
        refine z_iload_n 29 dX7_lay_28 rfl rfl ?_
        refine z_i2l 30 dX7_lay_29 rfl ?_
        refine z_lconst 31 dX7_lay_30 vl0 rfl ?_
        refine z_aload_n 32 dX7_lay_31 rfl rfl ?_
        refine y_getr 35 _ sh158 rfl fl_X7_47 dX7_lay_32 rfl ?_
        refine z_iload_n 36 dX7_lay_35 rfl rfl ?_
        refine y_ld 37 _ j sh171 rfl hj (by omega) dX7_lay_36 rfl ?_
        rw [hz]
        refine z_iconst 38 dX7_lay_37 vi1 rfl ?_
        refine z_isub 39 dX7_lay_38 rfl ?_
        refine z_i2l 40 dX7_lay_39 rfl ?_
        refine y_cSs 43 (c_in) cs_X7_55 ⟨by decide, by decide, rfl, rfl⟩ (Nat.le_of_ble_eq_true rfl) dX7_lay_40 rfl rfl ?_
        rw [b2]
        refine z_if_ne_f 46 49 dX7_lay_43 rfl (bi_f h2) rfl ?_
        refine z_bipush 48 dX7_lay_46 vbm12 rfl ?_
        refine z_iret hq rfl dX7_lay_48 rfl rfl ?_
        exact ⟨by rw [vLay, if_pos h1, ej, hs]; exact congrArg _ (congrArg _ (if_neg h2).symm), by rw [sLay, if_pos h1, ej, hs]; exact congrArg _ (if_neg h2).symm⟩
  · skip
    refine z_iload_n 1 dX7_lay_0 rfl rfl ?_
    refine z_i2l 2 dX7_lay_1 rfl ?_
    refine z_lconst 3 dX7_lay_2 vl0 rfl ?_
    refine z_ldc2 6 kc_X7_220 dX7_lay_3 rfl ?_
    refine y_cSs 9 (c_in) cs_X7_55 ⟨by decide, by decide, rfl, rfl⟩ (Nat.le_of_ble_eq_true rfl) dX7_lay_6 rfl rfl ?_
    rw [b1]
    refine z_if_ne_f 12 14 dX7_lay_9 rfl (bi_f h1) rfl ?_
    refine z_iconst 13 dX7_lay_12 vim1 rfl ?_
    refine z_iret hq rfl dX7_lay_13 rfl rfl ?_
    exact ⟨by rw [vLay, if_neg h1], by rw [sLay, if_neg h1]⟩

