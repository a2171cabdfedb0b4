/-! ===== pages: what a COLOURS-and-PEOPLE book is, as natural numbers =====
0..4 kinds, 5..19 lights (5 + 5 l + c), 20..24 vats, 25..28 purses, 29..32 earned, 33..52 held (33 + 5 p + c), 53 day, 54 seizures, 55 paid, 56 colours, 57 people, 58..61 seizures by one -/
abbrev Pg : Type := Nat → Nat
def un (Q : Pg) (i v : Nat) : Pg := fun j => if j = i then v else Q j
theorem un_s {Q : Pg} {i v : Nat} : un Q i v i = v := if_pos rfl
theorem un_n {Q : Pg} {i j v : Nat} (h : j ≠ i) : un Q i v j = Q j := if_neg h
theorem un_un {Q : Pg} {i v w : Nat} : un (un Q i v) i w = un Q i w := by
  funext j; simp only [un]; split <;> rfl
theorem un_co {Q : Pg} {i j v w : Nat} (h : i ≠ j) : un (un Q i v) j w = un (un Q j w) i v := by
  funext k; simp only [un]
  by_cases h1 : k = i
  · subst h1; simp [h]
  · simp [h1]
theorem un_self {Q : Pg} {i : Nat} : un Q i (Q i) = Q := by
  funext j; simp only [un]; split
  · rename_i h; rw [h]
  · rfl
def sumN (f : Nat → Nat) : Nat → Nat
  | 0 => 0
  | n + 1 => sumN f n + f n
theorem sumN_cg {f g : Nat → Nat} : ∀ {n : Nat}, (∀ i, i < n → f i = g i) → sumN f n = sumN g n
  | 0, _ => rfl
  | n + 1, h => by rw [sumN, sumN, sumN_cg (fun i hi => h i (by omega)), h n (by omega)]
theorem sumN_le {f : Nat → Nat} {m : Nat} : ∀ {n : Nat}, (∀ i, i < n → f i ≤ m) → sumN f n ≤ n * m
  | 0, _ => by simp [sumN]
  | n + 1, h => by
    have h1 := sumN_le (f := f) (m := m) (n := n) (fun i hi => h i (by omega))
    have h2 := h n (by omega)
    rw [sumN, Nat.succ_mul]; omega
/-- numbers of the flat row laid over by a page -/
def ov (f : Nat → Option Nat) (Q : Pg) (σ : Nat → Int32) : Nat → Int32 := fun a => match f a with
  | some i => nI (Q i)
  | none => σ a
theorem ov_at {f : Nat → Option Nat} {Q : Pg} {σ : Nat → Int32} {a i : Nat} (h : f a = some i) : ov f Q σ a = nI (Q i) := by simp only [ov, h]
theorem ov_off {f : Nat → Option Nat} {Q : Pg} {σ : Nat → Int32} {a : Nat} (h : f a = none) : ov f Q σ a = σ a := by simp only [ov, h]
theorem ov_upd {f : Nat → Option Nat} {Q : Pg} {σ : Nat → Int32} {a i v : Nat} {x : Int32} (h : f a = some i) (hi : ∀ b, f b = some i → b = a) (hx : x = nI v) : upd (ov f Q σ) a x = ov f (un Q i v) σ := by
  funext b
  simp only [upd, ov, un]
  by_cases hb : b = a
  · subst hb; simp [h, hx]
  · rw [if_neg hb]
    cases hf : f b with
    | none => rfl
    | some k =>
      have : k ≠ i := fun e => hb (hi b (by rw [hf, e]))
      simp [this]
theorem ov_ov {f : Nat → Option Nat} {Q Q' : Pg} {σ : Nat → Int32} : ov f Q' (ov f Q σ) = ov f Q' σ := by
  funext b; simp only [ov]; split <;> rfl
theorem ov_self {f : Nat → Option Nat} {Q : Pg} {σ : Nat → Int32} (h : ∀ a i, f a = some i → σ a = nI (Q i)) : ov f Q σ = σ := by
  funext b; simp only [ov]; split
  · rename_i i hi; exact (h b i hi).symm
  · rfl
theorem ov_cg {f : Nat → Option Nat} {Q Q' : Pg} {σ : Nat → Int32} (h : ∀ a i, f a = some i → Q i = Q' i) : ov f Q σ = ov f Q' σ := by
  funext b; simp only [ov]; split
  · rename_i i hi; rw [h b i hi]
  · rfl
/-- a book of the class: page number i at 400 r + i -/
def pC (r : Nat) : Nat → Option Nat := fun a => if 400 * r ≤ a ∧ a < 400 * r + 62 then some (a - 400 * r) else none
abbrev sp (σ : Nat → Int32) (r : Nat) (Q : Pg) : Nat → Int32 := ov (pC r) Q σ
def hds (σ : Nat → Int32) (r : Nat) (Q : Pg) : Prop := ∀ i, i < 62 → σ (400 * r + i) = nI (Q i)
theorem pC_at {r a i : Nat} (h : a = 400 * r + i) (hi : i < 62) : pC r a = some i := by
  subst h; simp only [pC]; rw [if_pos (by omega)]; congr 1; omega
theorem pC_inj {r a i : Nat} (h : a = 400 * r + i) (b : Nat) (hb : pC r b = some i) : b = a := by
  simp only [pC] at hb
  split at hb
  · cases hb; omega
  · cases hb
theorem pC_of {r a i : Nat} (h : pC r a = some i) : i < 62 ∧ a = 400 * r + i := by
  simp only [pC] at h
  split at h
  · cases h; omega
  · cases h
theorem sp_at {σ : Nat → Int32} {r a i : Nat} {Q : Pg} (h : a = 400 * r + i) (hi : i < 62) : sp σ r Q a = nI (Q i) := ov_at (pC_at h hi)
theorem sp_upd {σ : Nat → Int32} {r a i v : Nat} {Q : Pg} {x : Int32} (h : a = 400 * r + i) (hi : i < 62) (hx : x = nI v) : upd (sp σ r Q) a x = sp σ r (un Q i v) := ov_upd (pC_at h hi) (pC_inj h) hx
theorem sp_self {σ : Nat → Int32} {r : Nat} {Q : Pg} (h : hds σ r Q) : sp σ r Q = σ := ov_self fun a i hi => by
  obtain ⟨h1, h2⟩ := pC_of hi
  rw [h2]; exact h i h1
theorem hds_sp {σ : Nat → Int32} {r : Nat} {Q : Pg} : hds (sp σ r Q) r Q := fun i hi => sp_at rfl hi
theorem sp_off {σ : Nat → Int32} {r a : Nat} {Q : Pg} (h : a < 400 * r ∨ 400 * r + 62 ≤ a) : sp σ r Q a = σ a := ov_off (by simp only [pC]; rw [if_neg (by omega)])
theorem hds_off {σ : Nat → Int32} {r q : Nat} {Q R : Pg} (h : hds σ q R) (hne : q ≠ r) : hds (sp σ r Q) q R := fun i hi => by rw [sp_off (by omega)]; exact h i hi
theorem sp_cg {σ : Nat → Int32} {r : Nat} {Q Q' : Pg} (h : ∀ i, i < 62 → Q i = Q' i) : sp σ r Q = sp σ r Q' := ov_cg fun a i hi => h i (pC_of hi).1
theorem sp_co {σ : Nat → Int32} {r q : Nat} {Q R : Pg} (hne : q ≠ r) : sp (sp σ r Q) q R = sp (sp σ q R) r Q := by
  funext a
  by_cases h1 : 400 * r ≤ a ∧ a < 400 * r + 62
  · have e : a = 400 * r + (a - 400 * r) := by omega
    rw [sp_off (by omega), sp_at e (by omega), sp_at e (by omega)]
  · by_cases h2 : 400 * q ≤ a ∧ a < 400 * q + 62
    · have e : a = 400 * q + (a - 400 * q) := by omega
      rw [sp_at e (by omega), sp_off (by omega), sp_at e (by omega)]
    · rw [sp_off (by omega), sp_off (by omega), sp_off (by omega), sp_off (by omega)]
/-! ===== what a book does ===== -/
def rentK (k : Nat) : Nat := if k = 0 then 2 else if k = 1 then 3 else if k = 2 then 6 else 1
def fadeK (k : Nat) : Nat := if k = 0 then 1 else if k = 3 then 3 else 0
def heldQ (Q : Pg) (p : Nat) : Nat := sumN (fun c => Q (33 + 5 * p + c)) (Q 56)
def heldA (Q : Pg) : Nat := sumN (fun p => heldQ Q p) (Q 57)
def vatsQ (Q : Pg) : Nat := sumN (fun c => Q (20 + c)) (Q 56)
def heldC (Q : Pg) (c : Nat) : Nat := sumN (fun p => Q (33 + 5 * p + c)) (Q 57)
def rentQ (Q : Pg) (p : Nat) : Nat := sumN (fun c => Q (33 + 5 * p + c) * rentK (Q c)) (Q 56)
/-- the hue of so many drops of each colour -/
def hueD (Q : Pg) (d : Nat → Nat) : Nat :=
  let n := sumN d (Q 56)
  let b := fun l => sumN (fun c => d c * Q (5 + 5 * l + c)) (Q 56) / n
  10 * (10 * (10 * 0 + b 0) + b 1) + b 2
def hueQ (Q : Pg) (p : Nat) : Nat := hueD Q (fun c => Q (33 + 5 * p + c))
def dst (a b : Nat) : Nat := (a - b) + (b - a)
def offN (a b : Nat) : Nat := dst (a / 100) (b / 100) + dst (a / 10 % 10) (b / 10 % 10) + dst (a % 10) (b % 10)
/-- a colour of one, in a day; t: how many times over it fades -/
def colGo (Q : Pg) (p c t : Nat) : Pg :=
  let h := Q (33 + 5 * p + c)
  let rent := h * rentK (Q c)
  if h = 0 then Q
  else if rent ≤ Q (25 + p) then
    un (un (un Q (25 + p) (Q (25 + p) - rent)) 55 (Q 55 + rent)) (33 + 5 * p + c) (h - t * fadeK (Q c))
  else un (un (un (un Q (20 + c) (min 99 (Q (20 + c) + h))) (33 + 5 * p + c) 0) 54 (Q 54 + 1)) (58 + p) (Q (58 + p) + 1)
def cols (Q : Pg) (p t : Nat) : Nat → Pg
  | 0 => Q
  | c + 1 => colGo (cols Q p t c) p c t
def dayO (Q : Pg) (p t : Nat) : Pg := cols (un Q (25 + p) (min 999 (Q (25 + p) + Q (29 + p)))) p t (Q 56)
def ones (Q : Pg) (t : Nat) : Nat → Pg
  | 0 => Q
  | p + 1 => dayO (ones Q t p) p t
def dayA (Q : Pg) (t : Nat) : Pg := un (ones Q t (Q 57)) 53 (ones Q t (Q 57) 53 + 1)
def daysA (Q : Pg) : Nat → Pg
  | 0 => Q
  | n + 1 => dayA (daysA Q n) 1
def daysO (Q : Pg) (p : Nat) : Nat → Pg
  | 0 => Q
  | n + 1 => dayO (daysO Q p n) p 1
/-- a page's numbers are in their bounds; nobody and no colour beyond the counts holds or is held -/
def okQ (Q : Pg) : Prop := (∀ i, i < 5 → Q i < 4) ∧ (∀ i, i < 15 → Q (5 + i) < 10) ∧ (∀ i, i < 5 → Q (20 + i) ≤ 99) ∧ (∀ i, i < 4 → Q (25 + i) ≤ 999) ∧ (∀ i, i < 4 → Q (29 + i) ≤ 99) ∧ (∀ i, i < 20 → Q (33 + i) ≤ 99) ∧ Q 56 ≤ 5 ∧ Q 57 ≤ 4
