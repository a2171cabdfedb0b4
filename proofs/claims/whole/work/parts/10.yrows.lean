/-! ===== rows over the flat world ===== -/
def zUq : List (Bool × Nat) → Bool
  | [] => true
  | (t, q) :: l => (t || l.all fun p => p.1 || decide (p.2 ≠ q)) && zUq l
theorem zUq_of : ∀ (l : List (Bool × Nat)), zUq l = true → ∀ (i j q : Nat), l[i]? = some (false, q) → l[j]? = some (false, q) → i = j
  | [], _, i, j, q, h, _ => by simp at h
  | (t, c) :: l, hu, i, j, q, hi, hj => by
    simp only [zUq, Bool.and_eq_true] at hu
    have key : ∀ k : Nat, (t, c) = (false, q) → l[k]? = some (false, q) → False := by
      intro k h1 h2
      cases h1
      have h3 : (l.all fun p => p.1 || decide (p.2 ≠ c)) = true := by simpa only [Bool.false_or] using hu.1
      have := List.all_eq_true.mp h3 _ (List.mem_of_getElem? h2)
      simp at this
    cases i with
    | zero =>
      cases j with
      | zero => rfl
      | succ j =>
        simp only [List.getElem?_cons_zero, Option.some.injEq, List.getElem?_cons_succ] at hi hj
        exact absurd hj (fun h => key j hi h)
    | succ i =>
      cases j with
      | zero =>
        simp only [List.getElem?_cons_zero, Option.some.injEq, List.getElem?_cons_succ] at hi hj
        exact absurd hi (fun h => key i hj h)
      | succ j =>
        simp only [List.getElem?_cons_succ] at hi hj
        rw [zUq_of l hu.2 i j q hi hj]
theorem zSh_uq : (zSh.all fun s => zUq s.2.2.2) = true := by decide +kernel
/-- an answer and a state, both told -/
def zFn (G : zG) (v : Option Value) (σ' : Nat → Int32) : Option Value → va_W → Prop := fun r w => r = v ∧ w = zW G σ'
/-- an answer and a state of which something is told -/
def zP (G : zG) (P : Option Value → (Nat → Int32) → Prop) : Option Value → va_W → Prop := fun r w => ∃ σ', P r σ' ∧ w = zW G σ'
section YC
variable {G : zG} {X : zX} {μ : zM} {σ : Nat → Int32} {pc : Nat} {L : List (Option Value)} {S S0 : List Value}
theorem y_putI (n r : Nat) {lo len : Nat} {sl : List (Bool × Nat)} {idx ci j ad : Nat} {x : Int32} (hr : zSh[r]? = some (ci + 5, lo, len, sl)) (hj : sl[j]? = some (false, ad)) (hf : zFldP (zMo μ) idx ci j .int false) (hd : decode (zMc μ) pc = .ok (.putfield idx, 3)) (hn : pc + 3 = n) (k : Y G X μ (upd σ ad x) n L S) : Y G X μ σ pc L (.int x :: .ref (zGa G r) :: S) :=
  y_put n r hr hj (fun i q hi e => zUq_of sl (List.all_eq_true.mp zSh_uq _ (List.mem_of_getElem? hr)) i j ad (e ▸ hi) hj) hf hd hn k
/-- a callee that makes nothing -/
def zRm0 (μ' μ : zM) : Prop := zMd μ' + 1 ≤ zMd μ ∧ zMl μ' ≤ 45 ∧ zMk μ' = 0 ∧ zMs μ' = 0
theorem zRm0.rm {μ' μ : zM} (h : zRm0 μ' μ) : zRm μ' μ 0 0 := by
  obtain ⟨h1, h2, h3, h4⟩ := h
  exact ⟨h1, h2, by omega, by omega⟩
theorem y_cVP (n r : Nat) {y : MethodName} {μ' : zM} {As : List Value} {idx ci lo len : Nat} {sl : List (Bool × Nat)} {P : Option Value → (Nat → Int32) → Prop} (hM : zMet (zXl X) y μ' (.ref (zGa G r) :: As) G (zW G σ) (zP G P)) (hr : zSh[r]? = some (ci + 5, lo, len, sl)) (hc : zCV (zMo μ) idx ci y μ' As.length) (hm : zRm0 μ' μ) (hs : (S.map fun v => v.category).sum ≤ 8) (hd : decode (zMc μ) pc = .ok (.invokevirtual idx, 3)) (hS0 : S0 = As.reverse ++ .ref (zGa G r) :: S) (hn : pc + 3 = n)
    (k : ∀ v σ', P v σ' → Y G X μ σ' n L (v.toList ++ S)) : Y G X μ σ pc L S0 :=
  z_callV n r hM (zW_at hr) hc hm.rm hs hd hS0 hn (fun v w h => by
    obtain ⟨σ', h1, h2⟩ := h
    rw [h2, hm.2.2.1, hm.2.2.2]
    exact k v σ' h1)
theorem y_cV (n r : Nat) {y : MethodName} {μ' : zM} {As : List Value} {idx ci lo len : Nat} {sl : List (Bool × Nat)} {v : Option Value} {σ' : Nat → Int32} (hM : zMet (zXl X) y μ' (.ref (zGa G r) :: As) G (zW G σ) (zFn G v σ')) (hr : zSh[r]? = some (ci + 5, lo, len, sl)) (hc : zCV (zMo μ) idx ci y μ' As.length) (hm : zRm0 μ' μ) (hs : (S.map fun v => v.category).sum ≤ 8) (hd : decode (zMc μ) pc = .ok (.invokevirtual idx, 3)) (hS0 : S0 = As.reverse ++ .ref (zGa G r) :: S) (hn : pc + 3 = n)
    (k : Y G X μ σ' n L (v.toList ++ S)) : Y G X μ σ pc L S0 :=
  z_callV n r hM (zW_at hr) hc hm.rm hs hd hS0 hn (fun v w h => by
    obtain ⟨h1, h2⟩ := h
    rw [h1, h2, hm.2.2.1, hm.2.2.2]
    exact k)
theorem y_cSP (n : Nat) {y : MethodName} {μ' : zM} {As : List Value} {idx : Nat} {P : Option Value → (Nat → Int32) → Prop} (hM : zMet (zXl X) y μ' As G (zW G σ) (zP G P)) (hc : zCS (zMo μ) idx y μ' As.length) (hm : zRm0 μ' μ) (hs : (S.map fun v => v.category).sum ≤ 8) (hd : decode (zMc μ) pc = .ok (.invokestatic idx, 3)) (hS0 : S0 = As.reverse ++ S) (hn : pc + 3 = n)
    (k : ∀ v σ', P v σ' → Y G X μ σ' n L (v.toList ++ S)) : Y G X μ σ pc L S0 :=
  z_callS n hM hc hm.rm hs hd hS0 hn (fun v w h => by
    obtain ⟨σ', h1, h2⟩ := h
    rw [h2, hm.2.2.1, hm.2.2.2]
    exact k v σ' h1)
theorem y_cS (n : Nat) {y : MethodName} {μ' : zM} {As : List Value} {idx : Nat} {v : Option Value} {σ' : Nat → Int32} (hM : zMet (zXl X) y μ' As G (zW G σ) (zFn G v σ')) (hc : zCS (zMo μ) idx y μ' As.length) (hm : zRm0 μ' μ) (hs : (S.map fun v => v.category).sum ≤ 8) (hd : decode (zMc μ) pc = .ok (.invokestatic idx, 3)) (hS0 : S0 = As.reverse ++ S) (hn : pc + 3 = n)
    (k : Y G X μ σ' n L (v.toList ++ S)) : Y G X μ σ pc L S0 :=
  z_callS n hM hc hm.rm hs hd hS0 hn (fun v w h => by
    obtain ⟨h1, h2⟩ := h
    rw [h1, h2, hm.2.2.1, hm.2.2.2]
    exact k)
theorem y_cN (n : Nat) {y : MethodName} {μ' : zM} {As : List Value} {idx : Nat} {v : Option Value} {σ' : Nat → Int32} (hM : zMet (zXl X) y μ' As G (zW G σ) (zFn G v σ')) (hc : zCN (zMo μ) idx y μ' As.length) (hm : zRm0 μ' μ) (hs : (S.map fun v => v.category).sum ≤ 8) (hd : decode (zMc μ) pc = .ok (.invokestatic idx, 3)) (hS0 : S0 = As.reverse ++ S) (hn : pc + 3 = n)
    (k : Y G X μ σ' n L (v.toList ++ S)) : Y G X μ σ pc L S0 :=
  z_callN n hM hc hm.rm hs hd hS0 hn (fun v w h => by
    obtain ⟨h1, h2⟩ := h
    rw [h1, h2, hm.2.2.1, hm.2.2.2]
    exact k)
theorem y_min (n : Nat) {idx : Nat} {x y : Int32} (hl : Cond.methodLink (zMo μ) idx Lib.Math.min.name ∈ zws) (h1 : Cond.static Lib.Math.min.name ∈ zws) (h2 : Cond.initialized "java/lang/Math" ∈ zws) (h3 : Cond.code Lib.Math.min.name Lib.Math.min.code 2 (some .int) ∈ zws) (h0 : 1 ≤ zMd μ) (hs : (S.map fun v => v.category).sum ≤ 8) (hd : decode (zMc μ) pc = .ok (.invokestatic idx, 3)) (hn : pc + 3 = n) (k : Y G X μ σ n L (.int (if y < x then y else x) :: S)) : Y G X μ σ pc L (.int y :: .int x :: S) := by
  subst hn
  intro ok H locs ls hP hD hS hl'
  have hts := ok.2.2.2.2.2.2.1
  obtain ⟨o1, o2, o3, o4, -⟩ := ok.2.2.2.2.2.2.2.2.2.2
  exact va_mmin ok.1 ok.2.1 (ok.2.2.2.1.trans hl'.1.symm) ok.2.2.2.2.1 (hts _ hl) (hts _ h1) (hts _ h2) (hts _ h3) (by omega) (by omega) (Nat.zero_le _) (Nat.zero_le _) hd (k ok H locs ls hP hD hS hl')
end YC
/-! numbers -/
theorem zi_add {x y : Int32} {a b : Nat} (hx : x = nI a) (hy : y = nI b) : x + y = nI (a + b) := by rw [hx, hy, nI_add]
theorem zi_mul {x y : Int32} {a b : Nat} (hx : x = nI a) (hy : y = nI b) : x * y = nI (a * b) := by rw [hx, hy, pk_mul]
theorem zi_sub {x y : Int32} {a b : Nat} (hx : x = nI a) (hy : y = nI b) (h : b ≤ a) : x - y = nI (a - b) := by rw [hx, hy, pk_sub h]
/-- a loop that counts up: its end, and each step, give its beginning -/
theorem zup {P : Nat → Prop} (N : Nat) (he : P N) (hs : ∀ i, i < N → P (i + 1) → P i) : ∀ i, i ≤ N → P i := by
  intro i hi
  obtain ⟨k, rfl⟩ : ∃ k, N = i + k := ⟨N - i, by omega⟩
  clear hi
  induction k generalizing i with
  | zero => exact he
  | succ k ih =>
    have h : P (i + 1) := ih (i + 1) (by rw [show i + 1 + k = i + (k + 1) by omega]; exact he) (fun j hj => hs j (by omega))
    exact hs i (by omega) h
def bi (p : Prop) [Decidable p] : Int32 := if p then 1 else 0
theorem bi_t {p : Prop} [Decidable p] (h : p) : bi p = 1 := if_pos h
theorem bi_f {p : Prop} [Decidable p] (h : ¬ p) : bi p = 0 := if_neg h
theorem bi0 {p : Prop} [Decidable p] : bi p = 0 ↔ ¬ p := by
  by_cases h : p
  · rw [bi_t h]; exact ⟨fun q => absurd q (by decide), fun q => absurd h q⟩
  · rw [bi_f h]; exact ⟨fun _ => h, fun _ => rfl⟩
theorem bin0 {p : Prop} [Decidable p] : ¬ bi p = 0 ↔ p := by
  rw [bi0]; exact Decidable.not_not
theorem bi_nar {p : Prop} [Decidable p] : narrow .boolean (.int (bi p)) = .int (bi p) := by
  by_cases h : p
  · rw [bi_t h]; rfl
  · rw [bi_f h]; rfl
theorem bi_cg {p q : Prop} [Decidable p] [Decidable q] (h : p ↔ q) : bi p = bi q := by
  by_cases hp : p
  · rw [bi_t hp, bi_t (h.mp hp)]
  · rw [bi_f hp, bi_f (fun z => hp (h.mpr z))]
