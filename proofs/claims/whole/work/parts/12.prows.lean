/-! ===== Math, System.arraycopy ===== -/
theorem kl_X0_46 : Cond.methodLink RX0 46 arraycopyName ∈ zws := zws_t 291 (by decide +kernel) rfl
theorem kl_X6_291 : Cond.methodLink RX6 291 Lib.Math.abs.name ∈ zws := zws_t 481 (by decide +kernel) rfl
theorem kl_X0_78 : Cond.methodLink RX0 78 Lib.Math.min.name ∈ zws := zws_t 515 (by decide +kernel) rfl
theorem kl_X0_95 : Cond.methodLink RX0 95 Lib.Math.max.name ∈ zws := zws_t 536 (by decide +kernel) rfl
theorem kl_X2_60 : Cond.methodLink RX2 60 arraycopyName ∈ zws := zws_t 576 (by decide +kernel) rfl
theorem kl_X2_47 : Cond.methodLink RX2 47 Lib.Math.min.name ∈ zws := zws_t 578 (by decide +kernel) rfl
theorem kl_X6_220 : Cond.methodLink RX6 220 Lib.Math.min.name ∈ zws := zws_t 591 (by decide +kernel) rfl
theorem kl_X1_43 : Cond.methodLink RX1 43 Lib.Math.max.name ∈ zws := zws_t 675 (by decide +kernel) rfl
theorem kl_X6_298 : Cond.methodLink RX6 298 Lib.Math.max.name ∈ zws := zws_t 701 (by decide +kernel) rfl
theorem km_min : Cond.static Lib.Math.min.name ∈ zws ∧ Cond.initialized "java/lang/Math" ∈ zws ∧ Cond.code Lib.Math.min.name Lib.Math.min.code 2 (some .int) ∈ zws := ⟨zws_t 516 (by decide +kernel) rfl, zws_t 14 (by decide +kernel) rfl, zws_t 517 (by decide +kernel) rfl⟩
theorem km_max : Cond.static Lib.Math.max.name ∈ zws ∧ Cond.initialized "java/lang/Math" ∈ zws ∧ Cond.code Lib.Math.max.name Lib.Math.max.code 2 (some .int) ∈ zws := ⟨zws_t 537 (by decide +kernel) rfl, zws_t 14 (by decide +kernel) rfl, zws_t 538 (by decide +kernel) rfl⟩
theorem km_abs : Cond.static Lib.Math.abs.name ∈ zws ∧ Cond.initialized "java/lang/Math" ∈ zws ∧ Cond.code Lib.Math.abs.name Lib.Math.abs.code 1 (some .int) ∈ zws := ⟨zws_t 482 (by decide +kernel) rfl, zws_t 14 (by decide +kernel) rfl, zws_t 483 (by decide +kernel) rfl⟩
theorem km_copy : Cond.native arraycopyName ∈ zws ∧ Cond.static arraycopyName ∈ zws ∧ Cond.initialized "java/lang/System" ∈ zws := ⟨zws_t 293 (by decide +kernel) rfl, zws_t 292 (by decide +kernel) rfl, zws_t 9 (by decide +kernel) rfl⟩
/-- a stretch of the flat row, copied -/
def cp (σ : Nat → Int32) (from_ to n : Nat) : Nat → Int32 := fun a => if to ≤ a ∧ a < to + n then σ (from_ + (a - to)) else σ a
theorem zW_cp {G : zG} {σ : Nat → Int32} {r lo0 lo1 n : Nat} {s : zS} {e : va_E} (hr : zSh[r]? = some s) (ha : s.2.1 = lo1 ∧ s.2.2.1 = n) (he : zEq e (zE G (cp σ lo0 lo1 n) s)) : zWeq ((zW G σ).set r (zGa G r, e)) (zW G (cp σ lo0 lo1 n)) := by
  intro k q hq
  have hk : ∃ t, zSh[k]? = some t := by
    cases h : zSh[k]? with
    | some t => exact ⟨t, rfl⟩
    | none => rw [zW_def, List.getElem?_mapIdx, h] at hq; cases hq
  obtain ⟨t, ht⟩ := hk
  rw [zW_at ht] at hq
  cases hq
  have hl : r < (zW G σ).length := (List.getElem?_eq_some_iff.mp (zW_at (G := G) (σ := σ) hr)).1
  by_cases hkr : k = r
  · subst hkr
    rw [hr] at ht
    cases ht
    exact ⟨e, List.getElem?_set_self hl, he⟩
  · refine ⟨zE G σ t, ?_, ?_⟩
    · rw [List.getElem?_set_ne (Ne.symm hkr)]
      exact zW_at ht
    · have hap : ∀ a, zIn t a → cp σ lo0 lo1 n a = σ a := by
        intro a h
        simp only [cp]
        rw [if_neg]
        intro h2
        exact zApart_in (Ne.symm hkr) hr ht (a := a) (by simp only [zIn]; omega) h
      have hg := List.all_eq_true.mp zSh_good t (List.mem_of_getElem? ht)
      obtain ⟨c, lo, m, sl⟩ := t
      simp only [zGood, Bool.and_eq_true, Bool.or_eq_true, decide_eq_true_eq] at hg
      match c with
      | 0 => exact Or.inr ⟨_, _, _, _, rfl, rfl, fun j hj => (hap _ (by have : j < m := hj; simp only [zIn]; omega)).symm⟩
      | 1 =>
        have hn : m = 15 := by
          rcases hg.2 with q | q
          · exact absurd rfl q
          · exact q
        exact Or.inr ⟨_, _, _, _, rfl, rfl, fun j hj => (hap _ (by have : j < m := hj; simp only [zIn]; omega)).symm⟩
      | 2 => exact Or.inr ⟨_, _, _, _, rfl, rfl, fun j hj => (hap _ (by have : j < m := hj; simp only [zIn]; omega)).symm⟩
      | 3 => exact Or.inl rfl
      | 4 => exact Or.inl rfl
      | c + 5 =>
        refine Or.inl ?_
        show Sum.inr (c, sl.map _) = Sum.inr (c, sl.map _)
        congr 2
        refine List.map_congr_left fun q hq => ?_
        have h9 := List.all_eq_true.mp hg.1 q hq
        simp only [Bool.or_eq_true, Bool.and_eq_true, decide_eq_true_eq] at h9
        cases hq1 : q.1 with
        | true => simp
        | false =>
          rw [hq1] at h9
          have : zIn (c + 5, lo, m, sl) q.2 := by simp at h9; simp only [zIn]; omega
          simp [hap _ this]
theorem nfw : nativeFrameWords "java/lang/System" "arraycopy" 5 ≤ 40 := by decide +kernel
section YM
variable {G : zG} {X : zX} {μ : zM} {σ : Nat → Int32} {pc : Nat} {L : List (Option Value)} {S S0 : List Value} {Q : Pg}
theorem y_mn (n : Nat) {idx : Nat} {x y : Int32} (hl : Cond.methodLink (zMo μ) idx Lib.Math.min.name ∈ zws) (h0 : 1 ≤ zMd μ) (hs : (S.map fun v => v.category).sum ≤ 8) (hd : decode (zMc μ) pc = .ok (.invokestatic idx, 3)) (hn : pc + 3 = n) (k : Y G X μ σ n L (.int (if y < x then y else x) :: S)) : Y G X μ σ pc L (.int y :: .int x :: S) := y_min n hl km_min.1 km_min.2.1 km_min.2.2 h0 hs hd hn k
theorem y_mx (n : Nat) {idx : Nat} {x y : Int32} (hl : Cond.methodLink (zMo μ) idx Lib.Math.max.name ∈ zws) (h0 : 1 ≤ zMd μ) (hs : (S.map fun v => v.category).sum ≤ 8) (hd : decode (zMc μ) pc = .ok (.invokestatic idx, 3)) (hn : pc + 3 = n) (k : Y G X μ σ n L (.int (if x < y then y else x) :: S)) : Y G X μ σ pc L (.int y :: .int x :: S) := by
  subst hn
  intro ok H locs ls hP hD hS hl'
  have hts := ok.2.2.2.2.2.2.1
  obtain ⟨o1, o2, o3, o4, -⟩ := ok.2.2.2.2.2.2.2.2.2.2
  exact va_mmax ok.1 ok.2.1 (ok.2.2.2.1.trans hl'.1.symm) ok.2.2.2.2.1 (hts _ hl) (hts _ km_max.1) (hts _ km_max.2.1) (hts _ km_max.2.2) (by omega) (by omega) (Nat.zero_le _) (Nat.zero_le _) hd (k ok H locs ls hP hD hS hl')
theorem y_ab (n : Nat) {idx : Nat} {x : Int32} (hl : Cond.methodLink (zMo μ) idx Lib.Math.abs.name ∈ zws) (h0 : 1 ≤ zMd μ) (hs : (S.map fun v => v.category).sum ≤ 8) (hd : decode (zMc μ) pc = .ok (.invokestatic idx, 3)) (hn : pc + 3 = n) (k : Y G X μ σ n L (.int (if 0 ≤ x then x else 0 - x) :: S)) : Y G X μ σ pc L (.int x :: S) := by
  subst hn
  intro ok H locs ls hP hD hS hl'
  have hts := ok.2.2.2.2.2.2.1
  obtain ⟨o1, o2, o3, o4, -⟩ := ok.2.2.2.2.2.2.2.2.2.2
  exact va_mabs ok.1 ok.2.1 (ok.2.2.2.1.trans hl'.1.symm) ok.2.2.2.2.1 (hts _ hl) (hts _ km_abs.1) (hts _ km_abs.2.1) (hts _ km_abs.2.2) (by omega) (by omega) (Nat.zero_le _) (Nat.zero_le _) hd (k ok H locs ls hP hD hS hl')
theorem y_copy (n : Nat) {idx r0 r1 lo0 lo1 len : Nat} {sl0 sl1 : List (Bool × Nat)} {c : Int32} (hl : Cond.methodLink (zMo μ) idx arraycopyName ∈ zws) (h0 : zSh[r0]? = some (0, lo0, len, sl0)) (h1 : zSh[r1]? = some (0, lo1, len, sl1)) (hlen : len < 2 ^ 31) (hc : c = nI len) (hdp : 1 ≤ zMd μ) (hd : decode (zMc μ) pc = .ok (.invokestatic idx, 3)) (hn : pc + 3 = n) (k : Y G X μ (cp σ lo0 lo1 len) n L []) : Y G X μ σ pc L [.int c, .int 0, .ref (zGa G r1), .int 0, .ref (zGa G r0)] := by
  subst hn; subst hc
  intro ok H locs ls hP hD hS hl'
  have hts := ok.2.2.2.2.2.2.1
  obtain ⟨o1, o2, o3, o4, -⟩ := ok.2.2.2.2.2.2.2.2.2.2
  have e0 : (0 : Int32).toNatClampNeg = 0 := by decide
  have hroomL : (([] : List Value).map (fun v => v.category)).sum + (nativeFrameWords "java/lang/System" "arraycopy" 5 + 11) ≤ (zXR X).locals := by
    have h7 := nfw
    simp only [List.map_nil, List.sum_nil]
    omega
  refine va_copyi (sp := 0) (dp := 0) ok.1 ok.2.1 (ok.2.2.2.1.trans hl'.1.symm) ok.2.2.2.2.1 (hts _ hl) (hts _ km_copy.1) (hts _ km_copy.2.1) (hts _ km_copy.2.2) ok.2.2.2.2.2.2.2.1 hP hD hS r0 r1 0 0 (zW_at h0) (zW_at h1) rfl rfl rfl (by decide) (by decide) (nI_pos hlen) (by rw [nI_clamp hlen, e0]; exact Nat.le_of_eq (Nat.zero_add _)) (by rw [nI_clamp hlen, e0]; exact Nat.le_of_eq (Nat.zero_add _)) (fun _ _ => rfl) (by omega) hroomL hd (fun H1 locs1 hP1 hD1 hS1 => ?_)
  rw [nI_clamp hlen, e0] at hP1 hD1
  refine Z.weq (zW_cp (lo0 := lo0) h1 ⟨rfl, rfl⟩ (Or.inr ⟨_, _, _, _, rfl, rfl, fun j hj => ?_⟩)) k ok H1 locs1 ls hP1 hD1 hS1 hl'
  have hj : j < len := hj
  show va_cpy _ _ 0 0 len j = cp σ lo0 lo1 len (lo1 + j)
  rw [pk_cpy_in (Nat.zero_le _) (by omega)]
  simp only [cp]
  rw [if_pos (by omega)]
  show σ (lo0 + (0 + (j - 0))) = _
  congr 1
  omega
theorem y_copyL (n : Nat) {idx r0 r1 lo0 lo1 : Nat} {sl0 sl1 : List (Bool × Nat)} {c : Int32} (hl : Cond.methodLink (zMo μ) idx arraycopyName ∈ zws) (h0 : zSh[r0]? = some (1, lo0, 15, sl0)) (h1 : zSh[r1]? = some (1, lo1, 15, sl1)) (hlen : 15 < 2 ^ 31) (hc : c = nI 15) (hdp : 1 ≤ zMd μ) (hd : decode (zMc μ) pc = .ok (.invokestatic idx, 3)) (hn : pc + 3 = n) (k : Y G X μ (cp σ lo0 lo1 15) n L []) : Y G X μ σ pc L [.int c, .int 0, .ref (zGa G r1), .int 0, .ref (zGa G r0)] := by
  subst hn; subst hc
  intro ok H locs ls hP hD hS hl'
  have hts := ok.2.2.2.2.2.2.1
  obtain ⟨o1, o2, o3, o4, -⟩ := ok.2.2.2.2.2.2.2.2.2.2
  have e0 : (0 : Int32).toNatClampNeg = 0 := by decide
  have hroomL : (([] : List Value).map (fun v => v.category)).sum + (nativeFrameWords "java/lang/System" "arraycopy" 5 + 11) ≤ (zXR X).locals := by
    have h7 := nfw
    simp only [List.map_nil, List.sum_nil]
    omega
  refine va_copyi (sp := 0) (dp := 0) ok.1 ok.2.1 (ok.2.2.2.1.trans hl'.1.symm) ok.2.2.2.2.1 (hts _ hl) (hts _ km_copy.1) (hts _ km_copy.2.1) (hts _ km_copy.2.2) ok.2.2.2.2.2.2.2.1 hP hD hS r0 r1 0 0 (zW_at h0) (zW_at h1) rfl rfl rfl (by decide) (by decide) (nI_pos hlen) (by rw [nI_clamp hlen, e0]; exact Nat.le_of_eq (Nat.zero_add _)) (by rw [nI_clamp hlen, e0]; exact Nat.le_of_eq (Nat.zero_add _)) (fun _ _ => rfl) (by omega) hroomL hd (fun H1 locs1 hP1 hD1 hS1 => ?_)
  rw [nI_clamp hlen, e0] at hP1 hD1
  refine Z.weq (zW_cp (lo0 := lo0) h1 ⟨rfl, rfl⟩ (Or.inr ⟨_, _, _, _, rfl, rfl, fun j hj => ?_⟩)) k ok H1 locs1 ls hP1 hD1 hS1 hl'
  have hj : j < 15 := hj
  show va_cpy _ _ 0 0 15 j = cp σ lo0 lo1 15 (lo1 + (5 * (j % 3) + j / 3))
  rw [pk_cpy_in (Nat.zero_le _) (by omega)]
  simp only [cp]
  rw [if_pos (by omega)]
  show σ (lo0 + (5 * ((0 + (j - 0)) % 3) + (0 + (j - 0)) / 3)) = _
  congr 1
  omega
theorem z_iaddN (n : Nat) {x y : Int32} {u v : Nat} (hx : x = nI u) (hy : y = nI v) (hd : decode (zMc μ) pc = .ok (.iadd, 1)) (hn : pc + 1 = n) (k : Y G X μ σ n L (.int (nI (u + v)) :: S)) : Y G X μ σ pc L (.int y :: .int x :: S) := z_iadd n hd hn (by rw [zi_add hx hy]; exact k)
theorem z_imulN (n : Nat) {x y : Int32} {u v : Nat} (hx : x = nI u) (hy : y = nI v) (hd : decode (zMc μ) pc = .ok (.imul, 1)) (hn : pc + 1 = n) (k : Y G X μ σ n L (.int (nI (u * v)) :: S)) : Y G X μ σ pc L (.int y :: .int x :: S) := z_imul n hd hn (by rw [zi_mul hx hy]; exact k)
theorem z_isubN (n : Nat) {x y : Int32} {u v : Nat} (hx : x = nI u) (hy : y = nI v) (h : v ≤ u) (hd : decode (zMc μ) pc = .ok (.isub, 1)) (hn : pc + 1 = n) (k : Y G X μ σ n L (.int (nI (u - v)) :: S)) : Y G X μ σ pc L (.int y :: .int x :: S) := z_isub n hd hn (by rw [zi_sub hx hy h]; exact k)
theorem z_idivN (n : Nat) {x y : Int32} {u v : Nat} (hx : x = nI u) (hy : y = nI v) (hu : u < 2 ^ 31) (hv : 0 < v ∧ v < 2 ^ 31) (hd : decode (zMc μ) pc = .ok (.idiv, 1)) (hn : pc + 1 = n) (k : Y G X μ σ n L (.int (nI (u / v)) :: S)) : Y G X μ σ pc L (.int y :: .int x :: S) := z_idiv n hd (by rw [hy]; exact nI_ne0 hv.1 hv.2) hn (by rw [hx, hy, pk_div hu hv.1 hv.2]; exact k)
theorem z_iremN (n : Nat) {x y : Int32} {u v : Nat} (hx : x = nI u) (hy : y = nI v) (hu : u < 2 ^ 31) (hv : 0 < v ∧ v < 2 ^ 31) (hd : decode (zMc μ) pc = .ok (.irem, 1)) (hn : pc + 1 = n) (k : Y G X μ σ n L (.int (nI (u % v)) :: S)) : Y G X μ σ pc L (.int y :: .int x :: S) := z_irem n hd (by rw [hy]; exact nI_ne0 hv.1 hv.2) hn (by rw [hx, hy, pk_rem hu hv.1 hv.2]; exact k)
/-! a book, as a page -/
theorem p_get (n : Nat) {r idx j i : Nat} (hk : zBk r) (hj : ([56, 57, 53, 54, 55] : List Nat)[j]? = some i) (hf : zFld (zMo μ) idx 0 j) (hd : decode (zMc μ) pc = .ok (.getfield idx, 3)) (hn : pc + 3 = n) (k : Y G X μ (sp σ r Q) n L (.int (nI (Q i)) :: S)) : Y G X μ (sp σ r Q) pc L (.ref (zGa G r) :: S) := by
  have h9 : i < 62 ∧ ([(false, 400 * r + 56), (false, 400 * r + 57), (false, 400 * r + 53), (false, 400 * r + 54), (false, 400 * r + 55), (true, r + 1), (true, r + 2), (true, r + 3), (true, r + 4), (true, r + 5), (true, r + 6)] : List (Bool × Nat))[j]? = some (false, 400 * r + i) := by
    match j, hj with
    | 0, h => cases h; exact ⟨by decide, rfl⟩
    | 1, h => cases h; exact ⟨by decide, rfl⟩
    | 2, h => cases h; exact ⟨by decide, rfl⟩
    | 3, h => cases h; exact ⟨by decide, rfl⟩
    | 4, h => cases h; exact ⟨by decide, rfl⟩
  refine y_get n r (bk0 hk) h9.2 hf hd hn ?_
  rw [sp_at rfl h9.1]
  exact k
theorem h_get (n : Nat) {r idx j i : Nat} (hk : zBk r) (hQ : hds σ r Q) (hj : ([56, 57, 53, 54, 55] : List Nat)[j]? = some i) (hf : zFld (zMo μ) idx 0 j) (hd : decode (zMc μ) pc = .ok (.getfield idx, 3)) (hn : pc + 3 = n) (k : Y G X μ σ n L (.int (nI (Q i)) :: S)) : Y G X μ σ pc L (.ref (zGa G r) :: S) := by
  have h9 : i < 62 ∧ ([(false, 400 * r + 56), (false, 400 * r + 57), (false, 400 * r + 53), (false, 400 * r + 54), (false, 400 * r + 55), (true, r + 1), (true, r + 2), (true, r + 3), (true, r + 4), (true, r + 5), (true, r + 6)] : List (Bool × Nat))[j]? = some (false, 400 * r + i) := by
    match j, hj with
    | 0, h => cases h; exact ⟨by decide, rfl⟩
    | 1, h => cases h; exact ⟨by decide, rfl⟩
    | 2, h => cases h; exact ⟨by decide, rfl⟩
    | 3, h => cases h; exact ⟨by decide, rfl⟩
    | 4, h => cases h; exact ⟨by decide, rfl⟩
  refine y_get n r (bk0 hk) h9.2 hf hd hn ?_
  rw [hQ i h9.1]
  exact k
theorem h_ld (n j : Nat) {r r' lo len : Nat} {sl : List (Bool × Nat)} {i : Int32} (hQ : hds σ r Q) (hr : zSh[r']? = some (0, 400 * r + lo, len, sl)) (hi : i = nI j) (hj : j < len) (hN : lo + len < 62) (hd : decode (zMc μ) pc = .ok (.iaload, 1)) (hn : pc + 1 = n) (k : Y G X μ σ n L (.int (nI (Q (lo + j))) :: S)) : Y G X μ σ pc L (.int i :: .ref (zGa G r') :: S) := by
  refine y_ld n r' j hr hi hj (by omega) hd hn ?_
  rw [Nat.add_assoc, hQ (lo + j) (by omega)]
  exact k
theorem h_ldL (n j : Nat) {r r' : Nat} {sl : List (Bool × Nat)} {i : Int32} (hQ : hds σ r Q) (hr : zSh[r']? = some (1, 400 * r + 5, 15, sl)) (hi : i = nI j) (hj : j < 15) (hd : decode (zMc μ) pc = .ok (.iaload, 1)) (hn : pc + 1 = n) (k : Y G X μ σ n L (.int (nI (Q (5 + (5 * (j % 3) + j / 3)))) :: S)) : Y G X μ σ pc L (.int i :: .ref (zGa G r') :: S) := by
  refine y_ldL n r' j hr hi hj (by decide) hd hn ?_
  rw [Nat.add_assoc, hQ (5 + (5 * (j % 3) + j / 3)) (by omega)]
  exact k
theorem p_put (n : Nat) {r idx j i v : Nat} {x : Int32} (hk : zBk r) (hj : ([56, 57, 53, 54, 55] : List Nat)[j]? = some i) (hx : x = nI v) (hf : zFldP (zMo μ) idx 0 j .int false) (hd : decode (zMc μ) pc = .ok (.putfield idx, 3)) (hn : pc + 3 = n) (k : Y G X μ (sp σ r (un Q i v)) n L S) : Y G X μ (sp σ r Q) pc L (.int x :: .ref (zGa G r) :: S) := by
  have h9 : i < 62 ∧ ([(false, 400 * r + 56), (false, 400 * r + 57), (false, 400 * r + 53), (false, 400 * r + 54), (false, 400 * r + 55), (true, r + 1), (true, r + 2), (true, r + 3), (true, r + 4), (true, r + 5), (true, r + 6)] : List (Bool × Nat))[j]? = some (false, 400 * r + i) := by
    match j, hj with
    | 0, h => cases h; exact ⟨by decide, rfl⟩
    | 1, h => cases h; exact ⟨by decide, rfl⟩
    | 2, h => cases h; exact ⟨by decide, rfl⟩
    | 3, h => cases h; exact ⟨by decide, rfl⟩
    | 4, h => cases h; exact ⟨by decide, rfl⟩
  refine y_putI n r (bk0 hk) h9.2 hf hd hn ?_
  rw [sp_upd rfl h9.1 hx]
  exact k
theorem p_ld (n j : Nat) {r r' lo len : Nat} {sl : List (Bool × Nat)} {i : Int32} (hr : zSh[r']? = some (0, 400 * r + lo, len, sl)) (hi : i = nI j) (hj : j < len) (hN : lo + len < 62) (hd : decode (zMc μ) pc = .ok (.iaload, 1)) (hn : pc + 1 = n) (k : Y G X μ (sp σ r Q) n L (.int (nI (Q (lo + j))) :: S)) : Y G X μ (sp σ r Q) pc L (.int i :: .ref (zGa G r') :: S) := by
  refine y_ld n r' j hr hi hj (by omega) hd hn ?_
  rw [sp_at (i := lo + j) (by omega) (by omega)]
  exact k
theorem p_ldL (n j : Nat) {r r' : Nat} {sl : List (Bool × Nat)} {i : Int32} (hr : zSh[r']? = some (1, 400 * r + 5, 15, sl)) (hi : i = nI j) (hj : j < 15) (hd : decode (zMc μ) pc = .ok (.iaload, 1)) (hn : pc + 1 = n) (k : Y G X μ (sp σ r Q) n L (.int (nI (Q (5 + (5 * (j % 3) + j / 3)))) :: S)) : Y G X μ (sp σ r Q) pc L (.int i :: .ref (zGa G r') :: S) := by
  refine y_ldL n r' j hr hi hj (by decide) hd hn ?_
  rw [sp_at (i := 5 + (5 * (j % 3) + j / 3)) (by omega) (by omega)]
  exact k
theorem p_st (n j : Nat) {r r' lo len v : Nat} {sl : List (Bool × Nat)} {i x : Int32} (hr : zSh[r']? = some (0, 400 * r + lo, len, sl)) (hi : i = nI j) (hj : j < len) (hx : x = nI v) (hN : lo + len < 62) (hd : decode (zMc μ) pc = .ok (.iastore, 1)) (hn : pc + 1 = n) (k : Y G X μ (sp σ r (un Q (lo + j) v)) n L S) : Y G X μ (sp σ r Q) pc L (.int x :: .int i :: .ref (zGa G r') :: S) := by
  refine y_st n r' j hr hi hj (by omega) hd hn ?_
  rw [sp_upd (i := lo + j) (by omega) (by omega) hx]
  exact k
theorem p_stL (n j : Nat) {r r' v : Nat} {sl : List (Bool × Nat)} {i x : Int32} (hr : zSh[r']? = some (1, 400 * r + 5, 15, sl)) (hi : i = nI j) (hj : j < 15) (hx : x = nI v) (hd : decode (zMc μ) pc = .ok (.iastore, 1)) (hn : pc + 1 = n) (k : Y G X μ (sp σ r (un Q (5 + (5 * (j % 3) + j / 3)) v)) n L S) : Y G X μ (sp σ r Q) pc L (.int x :: .int i :: .ref (zGa G r') :: S) := by
  refine y_stL n r' j hr rfl hi hj hd hn ?_
  rw [sp_upd (i := 5 + (5 * (j % 3) + j / 3)) (by omega) (by omega) hx]
  exact k
/-- numbers of the flat row that no cell holds may be told anew -/
theorem y_ghost {r i v : Nat} (hk : zBk r) (hi : 58 ≤ i ∧ i < 62) (k : Y G X μ (sp σ r (un Q i v)) pc L S) : Y G X μ (sp σ r Q) pc L S := by
  refine Z.weq (fun kk q hq => ?_) k
  rw [← sp_upd (i := i) (v := v) rfl hi.2 rfl] at hq
  have hk' : ∃ t, zSh[kk]? = some t := by
    cases h : zSh[kk]? with
    | some t => exact ⟨t, rfl⟩
    | none => rw [zW_def, List.getElem?_mapIdx, h] at hq; cases hq
  obtain ⟨t, ht⟩ := hk'
  rw [zW_at ht] at hq
  cases hq
  refine ⟨_, zW_at ht, zE_off (List.all_eq_true.mp zSh_good t (List.mem_of_getElem? ht)) ?_⟩
  have h1 : ∀ a, a = 400 * r + i → (zSh.all fun s => decide (s.2.1 ≤ a ∧ a < s.2.1 + s.2.2.1) == false) = true := by
    intro a ha
    have h2 : (zBks.all fun r => (zSh.all fun s => (decide (s.2.1 ≤ 400 * r + 58 ∧ 400 * r + 58 < s.2.1 + s.2.2.1) == false) && (decide (s.2.1 ≤ 400 * r + 59 ∧ 400 * r + 59 < s.2.1 + s.2.2.1) == false) && (decide (s.2.1 ≤ 400 * r + 60 ∧ 400 * r + 60 < s.2.1 + s.2.2.1) == false) && (decide (s.2.1 ≤ 400 * r + 61 ∧ 400 * r + 61 < s.2.1 + s.2.2.1) == false))) = true := by decide +kernel
    have h3 := List.all_eq_true.mp h2 r hk
    refine List.all_eq_true.mpr fun s hs => ?_
    have h4 := List.all_eq_true.mp h3 s hs
    simp only [Bool.and_eq_true] at h4
    rcases (show i = 58 ∨ i = 59 ∨ i = 60 ∨ i = 61 by omega) with e | e | e | e <;> subst e <;> subst ha
    · exact h4.1.1.1
    · exact h4.1.1.2
    · exact h4.1.2
    · exact h4.2
  have h5 := List.all_eq_true.mp (h1 _ rfl) t (List.mem_of_getElem? ht)
  simp at h5
  simp only [zIn]
  omega
end YM
