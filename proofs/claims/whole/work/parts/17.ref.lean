/-! ===== the reference's pages: page number i of the page at o ===== -/
def aR (o i : Nat) : Nat := if i < 55 then 63600 + o + i else if i = 55 then 63220 else if i = 56 then 63201 else if i = 57 then 63202 else 65600 + (i - 58)
def pR (o : Nat) : Nat → Option Nat := fun a => if 63600 + o ≤ a ∧ a < 63600 + o + 55 then some (a - (63600 + o)) else if a = 63220 then some 55 else if a = 63201 then some 56 else if a = 63202 then some 57 else if 65600 ≤ a ∧ a < 65604 then some (a - 65600 + 58) else none
abbrev rsp (σ : Nat → Int32) (o : Nat) (Q : Pg) : Nat → Int32 := ov (pR o) Q σ
def hdr (σ : Nat → Int32) (o : Nat) (Q : Pg) : Prop := ∀ i, i < 62 → σ (aR o i) = nI (Q i)
theorem pR_at {o i : Nat} (ho : o ≤ 275) (hi : i < 62) : pR o (aR o i) = some i := by
  simp only [pR, aR]
  by_cases h1 : i < 55
  · simp only [if_pos h1]; rw [if_pos (by omega)]; congr 1; omega
  simp only [if_neg h1]
  by_cases h2 : i = 55
  · simp only [if_pos h2]; rw [if_neg (by omega), h2]; rfl
  simp only [if_neg h2]
  by_cases h3 : i = 56
  · simp only [if_pos h3]; rw [if_neg (by omega), h3]; rfl
  simp only [if_neg h3]
  by_cases h4 : i = 57
  · simp only [if_pos h4]; rw [if_neg (by omega), h4]; rfl
  simp only [if_neg h4]
  rw [if_neg (by omega), if_neg (by omega), if_neg (by omega), if_neg (by omega), if_pos (by omega)]; congr 1; omega
theorem pR_of {o a i : Nat} (h : pR o a = some i) : i < 62 ∧ a = aR o i := by
  simp only [pR] at h
  by_cases h1 : 63600 + o ≤ a ∧ a < 63600 + o + 55
  · rw [if_pos h1] at h; cases h; simp only [aR]; rw [if_pos (by omega)]; omega
  rw [if_neg h1] at h
  by_cases h2 : a = 63220
  · rw [if_pos h2] at h; cases h; exact ⟨by decide, h2⟩
  rw [if_neg h2] at h
  by_cases h3 : a = 63201
  · rw [if_pos h3] at h; cases h; exact ⟨by decide, h3⟩
  rw [if_neg h3] at h
  by_cases h4 : a = 63202
  · rw [if_pos h4] at h; cases h; exact ⟨by decide, h4⟩
  rw [if_neg h4] at h
  by_cases h5 : 65600 ≤ a ∧ a < 65604
  · rw [if_pos h5] at h; cases h; simp only [aR]; rw [if_neg (by omega), if_neg (by omega), if_neg (by omega), if_neg (by omega)]; omega
  · rw [if_neg h5] at h; cases h
theorem pR_off {o a : Nat} (h : ¬ (63600 + o ≤ a ∧ a < 63600 + o + 55)) (h2 : a ≠ 63220 ∧ a ≠ 63201 ∧ a ≠ 63202) (h3 : ¬ (65600 ≤ a ∧ a < 65604)) : pR o a = none := by
  simp only [pR]; rw [if_neg h, if_neg h2.1, if_neg h2.2.1, if_neg h2.2.2, if_neg h3]
theorem rsp_at {σ : Nat → Int32} {o i : Nat} {Q : Pg} (ho : o ≤ 275) (hi : i < 62) : rsp σ o Q (aR o i) = nI (Q i) := ov_at (pR_at ho hi)
theorem rsp_upd {σ : Nat → Int32} {o i v : Nat} {Q : Pg} {x : Int32} (ho : o ≤ 275) (hi : i < 62) (hx : x = nI v) : upd (rsp σ o Q) (aR o i) x = rsp σ o (un Q i v) := ov_upd (pR_at ho hi) (fun _ h => (pR_of h).2) hx
theorem rsp_self {σ : Nat → Int32} {o : Nat} {Q : Pg} (h : hdr σ o Q) : rsp σ o Q = σ := ov_self fun a i hi => by
  obtain ⟨h1, h2⟩ := pR_of hi
  rw [h2]; exact h i h1
theorem hdr_rsp' {σ : Nat → Int32} {o : Nat} {Q : Pg} (ho : o ≤ 275) : hdr (rsp σ o Q) o Q := fun _ hi => rsp_at ho hi
theorem rsp_rsp {σ : Nat → Int32} {o : Nat} {Q Q' : Pg} : rsp (rsp σ o Q) o Q' = rsp σ o Q' := ov_ov
theorem rsp_cg {σ : Nat → Int32} {o : Nat} {Q Q' : Pg} (h : ∀ i, i < 62 → Q i = Q' i) : rsp σ o Q = rsp σ o Q' := ov_cg fun _ i hi => h i (pR_of hi).1
theorem nI_all (x : Int32) : ∃ n, x = nI n := ⟨x.toUInt32.toNat, by
  simp only [nI]
  apply Int32.toBitVec_inj.mp
  apply BitVec.eq_of_toNat_eq
  simp [Int32.ofNat]⟩
section YR
variable {G : zG} {X : zX} {μ : zM} {σ : Nat → Int32} {pc : Nat} {L : List (Option Value)} {S : List Value} {Q : Pg}
theorem m_get (n : Nat) {o idx j i : Nat} (hQ : hdr σ o Q) (hj : ([0, 56, 57, 0, 0, 0, 0, 0, 0, 0, 0, 0, 0, 0, 0, 0, 0, 0, 0, 0, 55] : List Nat)[j]? = some i) (h0 : i ≠ 0) (hf : zFld (zMo μ) idx 7 j) (hd : decode (zMc μ) pc = .ok (.getfield idx, 3)) (hn : pc + 3 = n) (k : Y G X μ σ n L (.int (nI (Q i)) :: S)) : Y G X μ σ pc L (.ref (zGa G 158) :: S) := by
  have h9 : j < 21 := (List.getElem?_eq_some_iff.mp hj).1
  rcases (show j = 1 ∨ j = 2 ∨ j = 20 ∨ (j ≠ 1 ∧ j ≠ 2 ∧ j ≠ 20) by omega) with e | e | e | e
  · subst e; cases hj; exact y_get n 158 sh158 rfl hf hd hn (by rw [show 400 * 158 + 1 = aR o 56 from rfl, hQ 56 (by decide)]; exact k)
  · subst e; cases hj; exact y_get n 158 sh158 rfl hf hd hn (by rw [show 400 * 158 + 2 = aR o 57 from rfl, hQ 57 (by decide)]; exact k)
  · subst e; cases hj; exact y_get n 158 sh158 rfl hf hd hn (by rw [show 400 * 158 + 20 = aR o 55 from rfl, hQ 55 (by decide)]; exact k)
  · exfalso
    have : j = 0 ∨ j = 3 ∨ j = 4 ∨ j = 5 ∨ j = 6 ∨ j = 7 ∨ j = 8 ∨ j = 9 ∨ j = 10 ∨ j = 11 ∨ j = 12 ∨ j = 13 ∨ j = 14 ∨ j = 15 ∨ j = 16 ∨ j = 17 ∨ j = 18 ∨ j = 19 := by omega
    rcases this with e | e | e | e | e | e | e | e | e | e | e | e | e | e | e | e | e | e <;> subst e <;> cases hj <;> exact h0 rfl
theorem m_ld (n k : Nat) {o j : Nat} {i : Int32} (hQ : hdr σ o Q) (hi : i = nI j) (hj : j = o + k) (hk : k < 55) (ho : o ≤ 275) (hd : decode (zMc μ) pc = .ok (.iaload, 1)) (hn : pc + 1 = n) (kk : Y G X μ σ n L (.int (nI (Q k)) :: S)) : Y G X μ σ pc L (.int i :: .ref (zGa G 159) :: S) := by
  refine y_ld n 159 j sh159 hi (by omega) (by decide) hd hn ?_
  have e : 400 * 159 + 0 + j = aR o k := by simp only [aR]; rw [if_pos hk]; omega
  rw [e, hQ k (by omega)]
  exact kk
theorem m_ldS (n k : Nat) {o j : Nat} {i : Int32} (hQ : hdr σ o Q) (hi : i = nI j) (hj : j = k) (hk : k < 4) (hd : decode (zMc μ) pc = .ok (.iaload, 1)) (hn : pc + 1 = n) (kk : Y G X μ σ n L (.int (nI (Q (58 + k))) :: S)) : Y G X μ σ pc L (.int i :: .ref (zGa G 164) :: S) := by
  refine y_ld n 164 j sh164 hi (by omega) (by decide) hd hn ?_
  have e : 400 * 164 + 0 + j = aR o (58 + k) := by simp only [aR]; rw [if_neg (by omega), if_neg (by omega), if_neg (by omega), if_neg (by omega)]; omega
  rw [e, hQ (58 + k) (by omega)]
  exact kk
theorem w_st (n k : Nat) {o j v : Nat} {i x : Int32} (hi : i = nI j) (hj : j = o + k) (hk : k < 55) (ho : o ≤ 275) (hx : x = nI v) (hd : decode (zMc μ) pc = .ok (.iastore, 1)) (hn : pc + 1 = n) (kk : Y G X μ (rsp σ o (un Q k v)) n L S) : Y G X μ (rsp σ o Q) pc L (.int x :: .int i :: .ref (zGa G 159) :: S) := by
  refine y_st n 159 j sh159 hi (by omega) (by decide) hd hn ?_
  have e : 400 * 159 + 0 + j = aR o k := by simp only [aR]; rw [if_pos hk]; omega
  rw [e, rsp_upd ho (by omega) hx]
  exact kk
theorem w_stS (n k : Nat) {o j v : Nat} {i x : Int32} (hi : i = nI j) (hj : j = k) (hk : k < 4) (ho : o ≤ 275) (hx : x = nI v) (hd : decode (zMc μ) pc = .ok (.iastore, 1)) (hn : pc + 1 = n) (kk : Y G X μ (rsp σ o (un Q (58 + k) v)) n L S) : Y G X μ (rsp σ o Q) pc L (.int x :: .int i :: .ref (zGa G 164) :: S) := by
  refine y_st n 164 j sh164 hi (by omega) (by decide) hd hn ?_
  have e : 400 * 164 + 0 + j = aR o (58 + k) := by simp only [aR]; rw [if_neg (by omega), if_neg (by omega), if_neg (by omega), if_neg (by omega)]; omega
  rw [e, rsp_upd ho (by omega) hx]
  exact kk
theorem w_put (n : Nat) {o idx v : Nat} {x : Int32} (ho : o ≤ 275) (hx : x = nI v) (hf : zFldP (zMo μ) idx 7 20 .int false) (hd : decode (zMc μ) pc = .ok (.putfield idx, 3)) (hn : pc + 3 = n) (k : Y G X μ (rsp σ o (un Q 55 v)) n L S) : Y G X μ (rsp σ o Q) pc L (.int x :: .ref (zGa G 158) :: S) := by
  refine y_putI n 158 sh158 rfl hf hd hn ?_
  rw [show 400 * 158 + 20 = aR o 55 from rfl, rsp_upd ho (by decide) hx]
  exact k
end YR
/-! ===== the reference's small methods ===== -/
theorem lgc_lt {x y : Int64} : lg_cmp x y < 0 ↔ x < y := by
  simp only [lg_cmp]
  by_cases h : x > y
  · rw [if_pos h]; exact ⟨fun q => absurd q (by decide), fun q => absurd (Int64.lt_trans h q) (Int64.lt_irrefl)⟩
  · rw [if_neg h]
    by_cases h2 : x = y
    · rw [if_pos h2]; exact ⟨fun q => absurd q (by decide), fun q => absurd (h2 ▸ q) (Int64.lt_irrefl)⟩
    · rw [if_neg h2]; refine ⟨fun _ => ?_, fun _ => by decide⟩
      rw [Int64.lt_iff_toInt_lt]
      have a1 : ¬ y.toInt < x.toInt := fun q => h (Int64.lt_iff_toInt_lt.mpr q)
      have a2 : x.toInt ≠ y.toInt := fun q => h2 (Int64.toInt_inj.mp q)
      omega
theorem lgc_gt {x y : Int64} : (0 : Int32) < lg_cmp x y ↔ y < x := by
  simp only [lg_cmp]
  by_cases h : x > y
  · rw [if_pos h]; exact ⟨fun _ => h, fun _ => by decide⟩
  · rw [if_neg h]
    by_cases h2 : x = y
    · rw [if_pos h2]; exact ⟨fun q => absurd q (by decide), fun q => absurd q h⟩
    · rw [if_neg h2]; exact ⟨fun q => absurd q (by decide), fun q => absurd q h⟩
set_option maxRecDepth 100000 in
theorem c_in {l : Launch} {G : zG} {σ : Nat → Int32} {v lo hi : Int64} : zMet l yX7_in mX7_in [.long v, .long lo, .long hi] G (zW G σ) (zFn G (some (.int (bi (lo ≤ v ∧ v ≤ hi)))) σ) := by
  refine zMet.of (by decide) rfl (Nat.le_of_ble_eq_true rfl) (Or.inr rfl) fun X hX hq => ?_
  subst hX
  show Y G X mX7_in σ 0 [some (.long v), none, some (.long lo), none, some (.long hi), none] []
  refine z_lload_n 1 dX7_in_0 rfl rfl ?_
  refine z_lload_n 2 dX7_in_1 rfl rfl ?_
  refine z_lcmp 3 dX7_in_2 rfl ?_
  refine z_if_lt 17 6 dX7_in_3 rfl rfl (fun h3 => ?_) (fun h3 => ?_)
  · skip
    have e : bi (lo ≤ v ∧ v ≤ hi) = 0 := bi_f (fun h => absurd (lgc_lt.mp h3) (Int64.not_lt.mpr h.1))
    refine z_iconst 18 dX7_in_17 vi0 rfl ?_
    refine z_zret hq rfl rfl dX7_in_18 rfl rfl ?_
    exact ⟨by rw [e], rfl⟩
  · skip
    refine z_lload_n 7 dX7_in_6 rfl rfl ?_
    refine z_lload 9 dX7_in_7 rfl rfl ?_
    refine z_lcmp 10 dX7_in_9 rfl ?_
    refine z_if_gt 17 13 dX7_in_10 rfl rfl (fun h10 => ?_) (fun h10 => ?_)
    · skip
      have e : bi (lo ≤ v ∧ v ≤ hi) = 0 := bi_f (fun h => absurd (lgc_gt.mp h10) (Int64.not_lt.mpr h.2))
      refine z_iconst 18 dX7_in_17 vi0 rfl ?_
      refine z_zret hq rfl rfl dX7_in_18 rfl rfl ?_
      exact ⟨by rw [e], rfl⟩
    · skip
      have e : bi (lo ≤ v ∧ v ≤ hi) = 1 := bi_t ⟨Int64.not_lt.mp (fun q => h3 (lgc_lt.mpr q)), Int64.not_lt.mp (fun q => h10 (lgc_gt.mpr q))⟩
      refine z_iconst 14 dX7_in_13 vi1 rfl ?_
      refine z_goto 18 dX7_in_14 rfl ?_
      refine z_zret hq rfl rfl dX7_in_18 rfl rfl ?_
      exact ⟨by rw [e], rfl⟩
theorem in_inR {x : Int32} {n : Nat} {c : Int64} (hc : c.toInt = n) : ((0 : Int64) ≤ x.toInt64 ∧ x.toInt64 ≤ c) ↔ inR x (n + 1) := by
  rw [Int64.le_iff_toInt_le, Int64.le_iff_toInt_le, Int32.toInt_toInt64, hc, show (0 : Int64).toInt = 0 by decide]
  simp only [inR]; omega
theorem in_inR1 {x : Int32} {n : Nat} (hn : n < 2 ^ 30) : ((0 : Int64) ≤ x.toInt64 ∧ x.toInt64 ≤ (nI n - 1).toInt64) ↔ inR x n := by
  have e : (nI n - 1).toInt = (n : Int) - 1 := pk_sub_toInt (a := n) (b := 1) hn (by decide)
  rw [Int64.le_iff_toInt_le, Int64.le_iff_toInt_le, Int32.toInt_toInt64, Int32.toInt_toInt64, e, show (0 : Int64).toInt = 0 by decide]
  simp only [inR]; omega
set_option maxRecDepth 100000 in
theorem c_isColour7 {l : Launch} {G : zG} {σ : Nat → Int32} {o : Nat} {Q : Pg} {c : Int32} (hQ : hdr σ o Q) (hn : Q 56 ≤ 5) : zMet l yX7_isColour mX7_isColour [.ref (zGa G 158), .int c] G (zW G σ) (zFn G (some (.int (bi (inR c (Q 56))))) σ) := by
  have e : bi ((0 : Int64) ≤ c.toInt64 ∧ c.toInt64 ≤ (nI (Q 56) - 1).toInt64) = bi (inR c (Q 56)) := bi_cg (in_inR1 (by omega))
  refine zMet.of (by decide) rfl (Nat.le_of_ble_eq_true rfl) (Or.inr rfl) fun X hX hq => ?_
  subst hX
  show Y G X mX7_isColour σ 0 [some (.ref (zGa G 158)), some (.int c)] []
  refine z_iload_n 1 dX7_isColour_0 rfl rfl ?_
  refine z_i2l 2 dX7_isColour_1 rfl ?_
  refine z_lconst 3 dX7_isColour_2 vl0 rfl ?_
  refine z_aload_n 4 dX7_isColour_3 rfl rfl ?_
  refine m_get 7 hQ rfl (by decide) fl_X7_142 dX7_isColour_4 rfl ?_
  refine z_iconst 8 dX7_isColour_7 vi1 rfl ?_
  refine z_isub 9 dX7_isColour_8 rfl ?_
  refine z_i2l 10 dX7_isColour_9 rfl ?_
  refine y_cSs 13 (c_in) cs_X7_55 ⟨by decide, by decide, rfl, rfl⟩ (Nat.le_of_ble_eq_true rfl) dX7_isColour_10 rfl rfl ?_
  refine z_zret hq rfl bi_nar dX7_isColour_13 rfl rfl ?_
  exact ⟨by rw [e], rfl⟩
set_option maxRecDepth 100000 in
theorem c_isOne7 {l : Launch} {G : zG} {σ : Nat → Int32} {o : Nat} {Q : Pg} {c : Int32} (hQ : hdr σ o Q) (hn : Q 57 ≤ 4) : zMet l yX7_isOne mX7_isOne [.ref (zGa G 158), .int c] G (zW G σ) (zFn G (some (.int (bi (inR c (Q 57))))) σ) := by
  have e : bi ((0 : Int64) ≤ c.toInt64 ∧ c.toInt64 ≤ (nI (Q 57) - 1).toInt64) = bi (inR c (Q 57)) := bi_cg (in_inR1 (by omega))
  refine zMet.of (by decide) rfl (Nat.le_of_ble_eq_true rfl) (Or.inr rfl) fun X hX hq => ?_
  subst hX
  show Y G X mX7_isOne σ 0 [some (.ref (zGa G 158)), some (.int c)] []
  refine z_iload_n 1 dX7_isOne_0 rfl rfl ?_
  refine z_i2l 2 dX7_isOne_1 rfl ?_
  refine z_lconst 3 dX7_isOne_2 vl0 rfl ?_
  refine z_aload_n 4 dX7_isOne_3 rfl rfl ?_
  refine m_get 7 hQ rfl (by decide) fl_X7_145 dX7_isOne_4 rfl ?_
  refine z_iconst 8 dX7_isOne_7 vi1 rfl ?_
  refine z_isub 9 dX7_isOne_8 rfl ?_
  refine z_i2l 10 dX7_isOne_9 rfl ?_
  refine y_cSs 13 (c_in) cs_X7_55 ⟨by decide, by decide, rfl, rfl⟩ (Nat.le_of_ble_eq_true rfl) dX7_isOne_10 rfl rfl ?_
  refine z_zret hq rfl bi_nar dX7_isOne_13 rfl rfl ?_
  exact ⟨by rw [e], rfl⟩
theorem nI_eqL {a b : Nat} (ha : a < 2 ^ 31) (hb : b < 2 ^ 31) (h : nI a = nI b) : a = b := (nI_eq ha hb).mp h
set_option maxRecDepth 100000 in
theorem c_rentOn {l : Launch} {G : zG} {σ : Nat → Int32} {o c : Nat} {Q : Pg} (hQ : hdr σ o Q) (ho : o ≤ 275) (hc : c < 5) (hkd : Q c < 4) : zMet l yX7_rentOn mX7_rentOn [.ref (zGa G 158), .int (nI o), .int (nI c)] G (zW G σ) (zFn G (some (.int (nI (rentK (Q c))))) σ) := by
  refine zMet.of (by decide) rfl (Nat.le_of_ble_eq_true rfl) (Or.inr rfl) fun X hX hq => ?_
  subst hX
  show Y G X mX7_rentOn σ 0 [some (.ref (zGa G 158)), some (.int (nI o)), some (.int (nI c)), none] []
  refine z_aload_n 1 dX7_rentOn_0 rfl rfl ?_
  refine y_getr 4 _ sh158 rfl fl_X7_7 dX7_rentOn_1 rfl ?_
  refine z_iload_n 5 dX7_rentOn_4 rfl rfl ?_
  refine z_iload_n 6 dX7_rentOn_5 rfl rfl ?_
  refine z_iaddN 7 rfl rfl dX7_rentOn_6 rfl ?_
  refine m_ld 8 (c) hQ rfl (by omega) (by omega) (by omega) dX7_rentOn_7 rfl ?_
  refine z_istore_n 9 [_, _, _, _] dX7_rentOn_8 (by decide) rfl rfl rfl ?_
  refine z_iload_n 10 dX7_rentOn_9 rfl rfl ?_
  refine z_if_ne 17 13 dX7_rentOn_10 rfl rfl (fun h10 => ?_) (fun h10 => ?_)
  · skip
    have n0 : Q c ≠ 0 := fun e => h10 (by rw [e]; rfl)
    refine z_iload_n 18 dX7_rentOn_17 rfl rfl ?_
    refine z_iconst 19 dX7_rentOn_18 vi1 rfl ?_
    refine z_icmp_ne 26 22 dX7_rentOn_19 rfl rfl (fun h19 => ?_) (fun h19 => ?_)
    · skip
      have n1 : Q c ≠ 1 := fun e => h19 (by rw [e]; rfl)
      refine z_iload_n 27 dX7_rentOn_26 rfl rfl ?_
      refine z_iconst 28 dX7_rentOn_27 vi2 rfl ?_
      refine z_icmp_ne 36 31 dX7_rentOn_28 rfl rfl (fun h28 => ?_) (fun h28 => ?_)
      · skip
        have e : Q c = 3 := by
            have n2 : Q c ≠ 2 := fun e => h28 (by rw [e]; rfl)
            omega
        refine z_iconst 37 dX7_rentOn_36 vi1 rfl ?_
        refine z_iret hq rfl dX7_rentOn_37 rfl rfl ?_
        exact ⟨by rw [e]; rfl, rfl⟩
      · skip
        have e : Q c = 2 := nI_eqL (b := 2) (by omega) (by decide) h28
        refine z_bipush 33 dX7_rentOn_31 vb6 rfl ?_
        refine z_goto 37 dX7_rentOn_33 rfl ?_
        refine z_iret hq rfl dX7_rentOn_37 rfl rfl ?_
        exact ⟨by rw [e]; rfl, rfl⟩
    · skip
      have e : Q c = 1 := nI_eqL (b := 1) (by omega) (by decide) h19
      refine z_iconst 23 dX7_rentOn_22 vi3 rfl ?_
      refine z_goto 37 dX7_rentOn_23 rfl ?_
      refine z_iret hq rfl dX7_rentOn_37 rfl rfl ?_
      exact ⟨by rw [e]; rfl, rfl⟩
  · skip
    have e : Q c = 0 := nI_eqL (b := 0) (by omega) (by decide) h10
    refine z_iconst 14 dX7_rentOn_13 vi2 rfl ?_
    refine z_goto 37 dX7_rentOn_14 rfl ?_
    refine z_iret hq rfl dX7_rentOn_37 rfl rfl ?_
    exact ⟨by rw [e]; rfl, rfl⟩
set_option maxRecDepth 100000 in
theorem c_fadesOn {l : Launch} {G : zG} {σ : Nat → Int32} {o c : Nat} {Q : Pg} (hQ : hdr σ o Q) (ho : o ≤ 275) (hc : c < 5) (hkd : Q c < 4) : zMet l yX7_fadesOn mX7_fadesOn [.ref (zGa G 158), .int (nI o), .int (nI c)] G (zW G σ) (zFn G (some (.int (nI (fadeK (Q c))))) σ) := by
  refine zMet.of (by decide) rfl (Nat.le_of_ble_eq_true rfl) (Or.inr rfl) fun X hX hq => ?_
  subst hX
  show Y G X mX7_fadesOn σ 0 [some (.ref (zGa G 158)), some (.int (nI o)), some (.int (nI c)), none] []
  refine z_aload_n 1 dX7_fadesOn_0 rfl rfl ?_
  refine y_getr 4 _ sh158 rfl fl_X7_7 dX7_fadesOn_1 rfl ?_
  refine z_iload_n 5 dX7_fadesOn_4 rfl rfl ?_
  refine z_iload_n 6 dX7_fadesOn_5 rfl rfl ?_
  refine z_iaddN 7 rfl rfl dX7_fadesOn_6 rfl ?_
  refine m_ld 8 (c) hQ rfl (by omega) (by omega) (by omega) dX7_fadesOn_7 rfl ?_
  refine z_istore_n 9 [_, _, _, _] dX7_fadesOn_8 (by decide) rfl rfl rfl ?_
  refine z_iload_n 10 dX7_fadesOn_9 rfl rfl ?_
  refine z_if_ne 17 13 dX7_fadesOn_10 rfl rfl (fun h10 => ?_) (fun h10 => ?_)
  · skip
    have n0 : Q c ≠ 0 := fun e => h10 (by rw [e]; rfl)
    refine z_iload_n 18 dX7_fadesOn_17 rfl rfl ?_
    refine z_iconst 19 dX7_fadesOn_18 vi3 rfl ?_
    refine z_icmp_ne 26 22 dX7_fadesOn_19 rfl rfl (fun h19 => ?_) (fun h19 => ?_)
    · skip
      have n3 : Q c ≠ 3 := fun e => h19 (by rw [e]; rfl)
      have e : Q c = 1 ∨ Q c = 2 := by omega
      refine z_iconst 27 dX7_fadesOn_26 vi0 rfl ?_
      refine z_iret hq rfl dX7_fadesOn_27 rfl rfl ?_
      exact ⟨by first | (rw [e]; rfl) | (rcases e with e | e <;> rw [e] <;> rfl), rfl⟩
    · skip
      have e : Q c = 3 := nI_eqL (b := 3) (by omega) (by decide) h19
      refine z_iconst 23 dX7_fadesOn_22 vi3 rfl ?_
      refine z_goto 27 dX7_fadesOn_23 rfl ?_
      refine z_iret hq rfl dX7_fadesOn_27 rfl rfl ?_
      exact ⟨by first | (rw [e]; rfl) | (rcases e with e | e <;> rw [e] <;> rfl), rfl⟩
  · skip
    have e : Q c = 0 := nI_eqL (b := 0) (by omega) (by decide) h10
    refine z_iconst 14 dX7_fadesOn_13 vi1 rfl ?_
    refine z_goto 27 dX7_fadesOn_14 rfl ?_
    refine z_iret hq rfl dX7_fadesOn_27 rfl rfl ?_
    exact ⟨by first | (rw [e]; rfl) | (rcases e with e | e <;> rw [e] <;> rfl), rfl⟩
set_option maxRecDepth 100000 in
theorem c_heldOn {l : Launch} {G : zG} {σ : Nat → Int32} {o p : Nat} {Q : Pg} (hQ : hdr σ o Q) (ho : o ≤ 275) (hn : Q 56 ≤ 5) (hp : p < 4) : zMet l yX7_heldOn mX7_heldOn [.ref (zGa G 158), .int (nI o), .int (nI p)] G (zW G σ) (zFn G (some (.int (nI (heldQ Q p)))) σ) := by
  refine zMet.of (by decide) rfl (Nat.le_of_ble_eq_true rfl) (Or.inr rfl) fun X hX hq => ?_
  subst hX
  show Y G X mX7_heldOn σ 0 [some (.ref (zGa G 158)), some (.int (nI o)), some (.int (nI p)), none, none] []
  refine z_iconst 1 dX7_heldOn_0 vi0 rfl ?_
  refine z_istore_n 2 [_, _, _, _, _] dX7_heldOn_1 (by decide) rfl rfl rfl ?_
  refine z_iconst 3 dX7_heldOn_2 vi0 rfl ?_
  refine z_istore 5 [_, _, _, _, _] dX7_heldOn_3 (by decide) rfl rfl rfl ?_
  refine zup (P := fun i => Y G X mX7_heldOn σ 5 [some (.ref (zGa G 158)), some (.int (nI o)), some (.int (nI p)), some (.int (nI (sumN (fun c => Q (33 + 5 * p + c)) i))), some (.int (nI i))] []) (Q 56) ?_ (fun i hi ih => ?_) 0 (Nat.zero_le _)
  · skip
    refine z_iload 7 dX7_heldOn_5 rfl rfl ?_
    refine z_aload_n 8 dX7_heldOn_7 rfl rfl ?_
    refine m_get 11 hQ rfl (by decide) fl_X7_142 dX7_heldOn_8 rfl ?_
    refine z_icmp_ge_t 39 dX7_heldOn_11 rfl (Int32.le_refl _) ?_
    refine z_iload_n 40 dX7_heldOn_39 rfl rfl ?_
    refine z_iret hq rfl dX7_heldOn_40 rfl rfl ?_
    exact ⟨rfl, rfl⟩
  · skip
    refine z_iload 7 dX7_heldOn_5 rfl rfl ?_
    refine z_aload_n 8 dX7_heldOn_7 rfl rfl ?_
    refine m_get 11 hQ rfl (by decide) fl_X7_142 dX7_heldOn_8 rfl ?_
    refine z_icmp_ge_f 14 39 dX7_heldOn_11 rfl (nI_ge hi (by omega)) rfl ?_
    refine z_iload_n 15 dX7_heldOn_14 rfl rfl ?_
    refine z_aload_n 16 dX7_heldOn_15 rfl rfl ?_
    refine y_getr 19 _ sh158 rfl fl_X7_7 dX7_heldOn_16 rfl ?_
    refine z_iload_n 20 dX7_heldOn_19 rfl rfl ?_
    refine z_bipush 22 dX7_heldOn_20 vb33 rfl ?_
    refine z_iaddN 23 rfl (show (33 : Int32) = nI 33 from rfl) dX7_heldOn_22 rfl ?_
    refine z_iconst 24 dX7_heldOn_23 vi5 rfl ?_
    refine z_iload_n 25 dX7_heldOn_24 rfl rfl ?_
    refine z_imulN 26 (show (5 : Int32) = nI 5 from rfl) rfl dX7_heldOn_25 rfl ?_
    refine z_iaddN 27 rfl rfl dX7_heldOn_26 rfl ?_
    refine z_iload 29 dX7_heldOn_27 rfl rfl ?_
    refine z_iaddN 30 rfl rfl dX7_heldOn_29 rfl ?_
    refine m_ld 31 (33 + 5 * p + i) hQ rfl (by omega) (by omega) (by omega) dX7_heldOn_30 rfl ?_
    refine z_iaddN 32 rfl rfl dX7_heldOn_31 rfl ?_
    refine z_istore_n 33 [_, _, _, _, _] dX7_heldOn_32 (by decide) rfl rfl rfl ?_
    refine z_iinc 36 [_, _, _, _, _] dX7_heldOn_33 rfl (show _ + _ = nI (_ + 1) from nI_1 _) (by decide) rfl rfl rfl ?_
    refine z_goto 5 dX7_heldOn_36 rfl ?_
    exact ih
set_option maxRecDepth 100000 in
theorem c_heldByAll7 {l : Launch} {G : zG} {σ : Nat → Int32} {o : Nat} {Q : Pg} (hQ : hdr σ o Q) (ho : o ≤ 275) (hn : Q 56 ≤ 5) (hm : Q 57 ≤ 4) : zMet l yX7_heldByAll mX7_heldByAll [.ref (zGa G 158), .int (nI o)] G (zW G σ) (zFn G (some (.int (nI (heldA Q)))) σ) := by
  refine zMet.of (by decide) rfl (Nat.le_of_ble_eq_true rfl) (Or.inr rfl) fun X hX hq => ?_
  subst hX
  show Y G X mX7_heldByAll σ 0 [some (.ref (zGa G 158)), some (.int (nI o)), none, none] []
  refine z_iconst 1 dX7_heldByAll_0 vi0 rfl ?_
  refine z_istore_n 2 [_, _, _, _] dX7_heldByAll_1 (by decide) rfl rfl rfl ?_
  refine z_iconst 3 dX7_heldByAll_2 vi0 rfl ?_
  refine z_istore_n 4 [_, _, _, _] dX7_heldByAll_3 (by decide) rfl rfl rfl ?_
  refine zup (P := fun i => Y G X mX7_heldByAll σ 4 [some (.ref (zGa G 158)), some (.int (nI o)), some (.int (nI (sumN (fun p => heldQ Q p) i))), some (.int (nI i))] []) (Q 57) ?_ (fun i hi ih => ?_) 0 (Nat.zero_le _)
  · skip
    refine z_iload_n 5 dX7_heldByAll_4 rfl rfl ?_
    refine z_aload_n 6 dX7_heldByAll_5 rfl rfl ?_
    refine m_get 9 hQ rfl (by decide) fl_X7_145 dX7_heldByAll_6 rfl ?_
    refine z_icmp_ge_t 27 dX7_heldByAll_9 rfl (Int32.le_refl _) ?_
    refine z_iload_n 28 dX7_heldByAll_27 rfl rfl ?_
    refine z_iret hq rfl dX7_heldByAll_28 rfl rfl ?_
    exact ⟨rfl, rfl⟩
  · skip
    refine z_iload_n 5 dX7_heldByAll_4 rfl rfl ?_
    refine z_aload_n 6 dX7_heldByAll_5 rfl rfl ?_
    refine m_get 9 hQ rfl (by decide) fl_X7_145 dX7_heldByAll_6 rfl ?_
    refine z_icmp_ge_f 12 27 dX7_heldByAll_9 rfl (nI_ge hi (by omega)) rfl ?_
    refine z_iload_n 13 dX7_heldByAll_12 rfl rfl ?_
    refine z_aload_n 14 dX7_heldByAll_13 rfl rfl ?_
    refine z_iload_n 15 dX7_heldByAll_14 rfl rfl ?_
    refine z_iload_n 16 dX7_heldByAll_15 rfl rfl ?_
    refine y_cVs 19 _ (c_heldOn hQ ho hn (by omega)) sh158 cv_X7_151 ⟨by decide, by decide, rfl, rfl⟩ (Nat.le_of_ble_eq_true rfl) dX7_heldByAll_16 rfl rfl ?_
    refine z_iaddN 20 rfl rfl dX7_heldByAll_19 rfl ?_
    refine z_istore_n 21 [_, _, _, _] dX7_heldByAll_20 (by decide) rfl rfl rfl ?_
    refine z_iinc 24 [_, _, _, _] dX7_heldByAll_21 rfl (show _ + _ = nI (_ + 1) from nI_1 _) (by decide) rfl rfl rfl ?_
    refine z_goto 4 dX7_heldByAll_24 rfl ?_
    exact ih
set_option maxRecDepth 100000 in
theorem c_vatsOn {l : Launch} {G : zG} {σ : Nat → Int32} {o : Nat} {Q : Pg} (hQ : hdr σ o Q) (ho : o ≤ 275) (hn : Q 56 ≤ 5) : zMet l yX7_vatsOn mX7_vatsOn [.ref (zGa G 158), .int (nI o)] G (zW G σ) (zFn G (some (.int (nI (vatsQ Q)))) σ) := by
  refine zMet.of (by decide) rfl (Nat.le_of_ble_eq_true rfl) (Or.inr rfl) fun X hX hq => ?_
  subst hX
  show Y G X mX7_vatsOn σ 0 [some (.ref (zGa G 158)), some (.int (nI o)), none, none] []
  refine z_iconst 1 dX7_vatsOn_0 vi0 rfl ?_
  refine z_istore_n 2 [_, _, _, _] dX7_vatsOn_1 (by decide) rfl rfl rfl ?_
  refine z_iconst 3 dX7_vatsOn_2 vi0 rfl ?_
  refine z_istore_n 4 [_, _, _, _] dX7_vatsOn_3 (by decide) rfl rfl rfl ?_
  refine zup (P := fun i => Y G X mX7_vatsOn σ 4 [some (.ref (zGa G 158)), some (.int (nI o)), some (.int (nI (sumN (fun c => Q (20 + c)) i))), some (.int (nI i))] []) (Q 56) ?_ (fun i hi ih => ?_) 0 (Nat.zero_le _)
  · skip
    refine z_iload_n 5 dX7_vatsOn_4 rfl rfl ?_
    refine z_aload_n 6 dX7_vatsOn_5 rfl rfl ?_
    refine m_get 9 hQ rfl (by decide) fl_X7_142 dX7_vatsOn_6 rfl ?_
    refine z_icmp_ge_t 32 dX7_vatsOn_9 rfl (Int32.le_refl _) ?_
    refine z_iload_n 33 dX7_vatsOn_32 rfl rfl ?_
    refine z_iret hq rfl dX7_vatsOn_33 rfl rfl ?_
    exact ⟨rfl, rfl⟩
  · skip
    refine z_iload_n 5 dX7_vatsOn_4 rfl rfl ?_
    refine z_aload_n 6 dX7_vatsOn_5 rfl rfl ?_
    refine m_get 9 hQ rfl (by decide) fl_X7_142 dX7_vatsOn_6 rfl ?_
    refine z_icmp_ge_f 12 32 dX7_vatsOn_9 rfl (nI_ge hi (by omega)) rfl ?_
    refine z_iload_n 13 dX7_vatsOn_12 rfl rfl ?_
    refine z_aload_n 14 dX7_vatsOn_13 rfl rfl ?_
    refine y_getr 17 _ sh158 rfl fl_X7_7 dX7_vatsOn_14 rfl ?_
    refine z_iload_n 18 dX7_vatsOn_17 rfl rfl ?_
    refine z_bipush 20 dX7_vatsOn_18 vb20 rfl ?_
    refine z_iaddN 21 rfl (show (20 : Int32) = nI 20 from rfl) dX7_vatsOn_20 rfl ?_
    refine z_iload_n 22 dX7_vatsOn_21 rfl rfl ?_
    refine z_iaddN 23 rfl rfl dX7_vatsOn_22 rfl ?_
    refine m_ld 24 (20 + i) hQ rfl (by omega) (by omega) (by omega) dX7_vatsOn_23 rfl ?_
    refine z_iaddN 25 rfl rfl dX7_vatsOn_24 rfl ?_
    refine z_istore_n 26 [_, _, _, _] dX7_vatsOn_25 (by decide) rfl rfl rfl ?_
    refine z_iinc 29 [_, _, _, _] dX7_vatsOn_26 rfl (show _ + _ = nI (_ + 1) from nI_1 _) (by decide) rfl rfl rfl ?_
    refine z_goto 4 dX7_vatsOn_29 rfl ?_
    exact ih

