/-! ===== bits ===== -/
theorem sh_k : ∀ k, k < 32 → ((nI k &&& 31).toBitVec.smod 32).toNat = k := by decide +kernel
abbrev hb (x : Int32) (k : Nat) : Prop := x.toBitVec.getLsbD k = true
theorem shl_two {k : Nat} (hk : k < 32) : ((1 : Int32) <<< (nI k &&& 31)).toBitVec = BitVec.twoPow 32 k := by
  apply BitVec.eq_of_toNat_eq
  rw [pk_shl 1 _ k (sh_k k hk), BitVec.toNat_twoPow]
  show 1 * 2 ^ k % 2 ^ 32 = _
  rw [Nat.one_mul]
theorem hb_and {x : Int32} {k : Nat} (hk : k < 32) : x &&& ((1 : Int32) <<< (nI k &&& 31)) = 0 ↔ ¬ hb x k := by
  rw [← Int32.toBitVec_inj, Int32.toBitVec_and, shl_two hk, BitVec.and_twoPow]
  simp only [hb]
  by_cases h : x.toBitVec.getLsbD k = true
  · rw [if_pos h]
    refine ⟨fun e => ?_, fun e => absurd h e⟩
    have e2 := congrArg BitVec.toNat e
    rw [BitVec.toNat_twoPow_of_lt hk] at e2
    have : 2 ^ k = 0 := e2
    have := Nat.two_pow_pos k
    omega
  · rw [if_neg h]
    exact ⟨fun _ => h, fun _ => rfl⟩
theorem hb_shr {x : Int32} {k : Nat} (hk : k < 32) : (x >>> (nI k &&& 31)) &&& 1 = 1 ↔ hb x k := by
  have e1 : (x >>> (nI k &&& 31)).toBitVec = x.toBitVec.sshiftRight k := by
    rw [show (x >>> (nI k &&& 31)).toBitVec = x.toBitVec.sshiftRight ((nI k &&& 31).toBitVec.smod 32).toNat from rfl, sh_k k hk]
  rw [← Int32.toBitVec_inj, Int32.toBitVec_and, e1, show (1 : Int32).toBitVec = 1#32 from rfl, BitVec.and_one_eq_setWidth_ofBool_getLsbD, BitVec.getLsbD_sshiftRight]
  rw [Nat.add_zero, if_pos hk, show (!decide (32 ≤ 0)) = true from rfl, Bool.true_and]
  cases h : x.toBitVec.getLsbD k
  · exact ⟨fun q => absurd q (by decide), fun q => by rw [hb, h] at q; cases q⟩
  · exact ⟨fun _ => h, fun _ => by decide⟩
theorem hb_or {x : Int32} {k j : Nat} (hk : k < 32) (hj : j < 32) : hb (x ||| ((1 : Int32) <<< (nI k &&& 31))) j ↔ hb x j ∨ j = k := by
  simp only [hb]
  rw [Int32.toBitVec_or, shl_two hk, BitVec.getLsbD_or, BitVec.getLsbD_twoPow, Bool.or_eq_true]
  simp only [Bool.and_eq_true, decide_eq_true_eq]
  constructor
  · rintro (h | h)
    · exact Or.inl h
    · exact Or.inr h.2.symm
  · rintro (h | h)
    · exact Or.inl h
    · exact Or.inr ⟨hk, h.symm⟩
theorem hb_0 {k : Nat} : ¬ hb 0 k := by simp [hb]
set_option maxRecDepth 100000 in
theorem c_hasBit {l : Launch} {G : zG} {σ : Nat → Int32} {x : Int32} {k : Nat} (hk : k < 32) : zMet l yX6_hasBit mX6_hasBit [.int x, .int (nI k)] G (zW G σ) (zFn G (some (.int (bi (hb x k)))) σ) := by
  refine zMet.of (by decide) rfl (Nat.le_of_ble_eq_true rfl) (Or.inr rfl) fun X hX hq => ?_
  subst hX
  show Y G X mX6_hasBit σ 0 [some (.int x), some (.int (nI k))] []
  refine z_iload_n 1 dX6_hasBit_0 rfl rfl ?_
  refine z_iconst 2 dX6_hasBit_1 vi1 rfl ?_
  refine z_iload_n 3 dX6_hasBit_2 rfl rfl ?_
  refine z_ishl 4 dX6_hasBit_3 rfl ?_
  refine z_iand 5 dX6_hasBit_4 rfl ?_
  refine z_if_eq 12 8 dX6_hasBit_5 rfl rfl (fun h5 => ?_) (fun h5 => ?_)
  · skip
    have e : bi (hb x k) = 0 := bi_f ((hb_and hk).mp h5)
    refine z_iconst 13 dX6_hasBit_12 vi0 rfl ?_
    refine z_zret hq rfl rfl dX6_hasBit_13 rfl rfl ?_
    exact ⟨by rw [e], rfl⟩
  · skip
    have e : bi (hb x k) = 1 := bi_t (Decidable.of_not_not (fun q => h5 ((hb_and hk).mpr q)))
    refine z_iconst 9 dX6_hasBit_8 vi1 rfl ?_
    refine z_goto 13 dX6_hasBit_9 rfl ?_
    refine z_zret hq rfl rfl dX6_hasBit_13 rfl rfl ?_
    exact ⟨by rw [e], rfl⟩
def bcA (x : Int32) : Int32 := x - ((x.toUInt32 >>> ((1 : Int32).toUInt32 &&& Int32.toUInt32 31)).toInt32 &&& 1431655765)
def bcB (x : Int32) : Int32 := (x &&& 858993459) + ((x.toUInt32 >>> ((2 : Int32).toUInt32 &&& Int32.toUInt32 31)).toInt32 &&& 858993459)
def bcC (x : Int32) : Int32 := (x + (x.toUInt32 >>> ((4 : Int32).toUInt32 &&& Int32.toUInt32 31)).toInt32) &&& 252645135
def bcD (x : Int32) : Int32 := x + (x.toUInt32 >>> ((8 : Int32).toUInt32 &&& Int32.toUInt32 31)).toInt32
def bcE (x : Int32) : Int32 := x + (x.toUInt32 >>> ((16 : Int32).toUInt32 &&& Int32.toUInt32 31)).toInt32
def bcV (x : Int32) : Int32 := bcE (bcD (bcC (bcB (bcA x)))) &&& 63
set_option maxRecDepth 100000 in
theorem c_bitCount {l : Launch} {G : zG} {σ : Nat → Int32} {x : Int32} : zMet l yJ6_bitCount_0f7a4 mJ6_bitCount_0f7a4 [.int x] G (zW G σ) (zFn G (some (.int (bcV x))) σ) := by
  refine zMet.of (by decide) rfl (Nat.le_of_ble_eq_true rfl) (Or.inr rfl) fun X hX hq => ?_
  subst hX
  show Y G X mJ6_bitCount_0f7a4 σ 0 [some (.int x)] []
  refine z_iload_n 1 dJ6_bitCount_0f7a4_0 rfl rfl ?_
  refine z_iload_n 2 dJ6_bitCount_0f7a4_1 rfl rfl ?_
  refine z_iconst 3 dJ6_bitCount_0f7a4_2 vi1 rfl ?_
  refine z_iushr 4 dJ6_bitCount_0f7a4_3 rfl rfl ?_
  refine z_ldcw 7 kc_J6_265 dJ6_bitCount_0f7a4_4 rfl ?_
  refine z_iand 8 dJ6_bitCount_0f7a4_7 rfl ?_
  refine z_isub 9 dJ6_bitCount_0f7a4_8 rfl ?_
  refine z_istore_n 10 [_] dJ6_bitCount_0f7a4_9 (by decide) rfl rfl rfl ?_
  show Y G X mJ6_bitCount_0f7a4 σ 10 [some (.int (bcA x))] []
  refine z_iload_n 11 dJ6_bitCount_0f7a4_10 rfl rfl ?_
  refine z_ldcw 14 kc_J6_266 dJ6_bitCount_0f7a4_11 rfl ?_
  refine z_iand 15 dJ6_bitCount_0f7a4_14 rfl ?_
  refine z_iload_n 16 dJ6_bitCount_0f7a4_15 rfl rfl ?_
  refine z_iconst 17 dJ6_bitCount_0f7a4_16 vi2 rfl ?_
  refine z_iushr 18 dJ6_bitCount_0f7a4_17 rfl rfl ?_
  refine z_ldcw 21 kc_J6_266 dJ6_bitCount_0f7a4_18 rfl ?_
  refine z_iand 22 dJ6_bitCount_0f7a4_21 rfl ?_
  refine z_iadd 23 dJ6_bitCount_0f7a4_22 rfl ?_
  refine z_istore_n 24 [_] dJ6_bitCount_0f7a4_23 (by decide) rfl rfl rfl ?_
  show Y G X mJ6_bitCount_0f7a4 σ 24 [some (.int (bcB (bcA x)))] []
  refine z_iload_n 25 dJ6_bitCount_0f7a4_24 rfl rfl ?_
  refine z_iload_n 26 dJ6_bitCount_0f7a4_25 rfl rfl ?_
  refine z_iconst 27 dJ6_bitCount_0f7a4_26 vi4 rfl ?_
  refine z_iushr 28 dJ6_bitCount_0f7a4_27 rfl rfl ?_
  refine z_iadd 29 dJ6_bitCount_0f7a4_28 rfl ?_
  refine z_ldcw 32 kc_J6_267 dJ6_bitCount_0f7a4_29 rfl ?_
  refine z_iand 33 dJ6_bitCount_0f7a4_32 rfl ?_
  refine z_istore_n 34 [_] dJ6_bitCount_0f7a4_33 (by decide) rfl rfl rfl ?_
  show Y G X mJ6_bitCount_0f7a4 σ 34 [some (.int (bcC (bcB (bcA x))))] []
  refine z_iload_n 35 dJ6_bitCount_0f7a4_34 rfl rfl ?_
  refine z_iload_n 36 dJ6_bitCount_0f7a4_35 rfl rfl ?_
  refine z_bipush 38 dJ6_bitCount_0f7a4_36 vb8 rfl ?_
  refine z_iushr 39 dJ6_bitCount_0f7a4_38 rfl rfl ?_
  refine z_iadd 40 dJ6_bitCount_0f7a4_39 rfl ?_
  refine z_istore_n 41 [_] dJ6_bitCount_0f7a4_40 (by decide) rfl rfl rfl ?_
  show Y G X mJ6_bitCount_0f7a4 σ 41 [some (.int (bcD (bcC (bcB (bcA x)))))] []
  refine z_iload_n 42 dJ6_bitCount_0f7a4_41 rfl rfl ?_
  refine z_iload_n 43 dJ6_bitCount_0f7a4_42 rfl rfl ?_
  refine z_bipush 45 dJ6_bitCount_0f7a4_43 vb16 rfl ?_
  refine z_iushr 46 dJ6_bitCount_0f7a4_45 rfl rfl ?_
  refine z_iadd 47 dJ6_bitCount_0f7a4_46 rfl ?_
  refine z_istore_n 48 [_] dJ6_bitCount_0f7a4_47 (by decide) rfl rfl rfl ?_
  show Y G X mJ6_bitCount_0f7a4 σ 48 [some (.int (bcE (bcD (bcC (bcB (bcA x))))))] []
  refine z_iload_n 49 dJ6_bitCount_0f7a4_48 rfl rfl ?_
  refine z_bipush 51 dJ6_bitCount_0f7a4_49 vb63 rfl ?_
  refine z_iand 52 dJ6_bitCount_0f7a4_51 rfl ?_
  refine z_iret hq rfl dJ6_bitCount_0f7a4_52 rfl rfl ?_
  exact ⟨rfl, rfl⟩
def cntN (f : Nat → Bool) (n : Nat) : Nat := sumN (fun k => if f k = true then 1 else 0) n
def kb4 (a b c d : Bool) : Int32 := kB (fun k => match k with | 0 => a | 1 => b | 2 => c | _ => d) 4
theorem kB_4 (f : Nat → Bool) : kB f 4 = kb4 (f 0) (f 1) (f 2) (f 3) := kB_cg 4 (fun k hk => by
  rcases (show k = 0 ∨ k = 1 ∨ k = 2 ∨ k = 3 by omega) with rfl | rfl | rfl | rfl <;> rfl)
theorem kb4_bc : ∀ a b c d : Bool, bcV (kb4 a b c d) = nI (cntN (fun k => match k with | 0 => a | 1 => b | 2 => c | _ => d) 4) := by decide +kernel
theorem kB_bc (f : Nat → Bool) : bcV (kB f 4) = nI (cntN f 4) := by
  rw [kB_4, kb4_bc]; rfl
theorem kb4_hb : ∀ a b c d : Bool, ∀ k, k < 4 → ((kb4 a b c d).toBitVec.getLsbD k = (match k with | 0 => a | 1 => b | 2 => c | _ => d)) := by decide +kernel
theorem kB_hb (f : Nat → Bool) {k : Nat} (hk : k < 4) : (hb (kB f 4) k) ↔ f k = true := by
  rw [hb, kB_4, kb4_hb _ _ _ _ k hk]
  rcases (show k = 0 ∨ k = 1 ∨ k = 2 ∨ k = 3 by omega) with rfl | rfl | rfl | rfl <;> exact Iff.rfl
theorem kb4_shr : ∀ a b c d : Bool, ∀ k, k < 4 → ((kb4 a b c d >>> (nI k &&& 31)) &&& 1 = nI (if (match k with | 0 => a | 1 => b | 2 => c | _ => d) = true then 1 else 0)) := by decide +kernel
theorem kB_shr (f : Nat → Bool) {k : Nat} (hk : k < 4) : (kB f 4 >>> (nI k &&& 31)) &&& 1 = nI (if f k = true then 1 else 0) := by
  rw [kB_4, kb4_shr _ _ _ _ k hk]
  rcases (show k = 0 ∨ k = 1 ∨ k = 2 ∨ k = 3 by omega) with rfl | rfl | rfl | rfl <;> rfl
theorem nI_max {a b : Nat} (ha : a < 2 ^ 31) (hb : b < 2 ^ 31) : (if nI a < nI b then nI b else nI a) = nI (max a b) := by
  by_cases h : a < b
  · rw [if_pos (nI_lt h hb), Nat.max_eq_right (by omega)]
  · rw [if_neg (nI_nlt (by omega) ha), Nat.max_eq_left (by omega)]

