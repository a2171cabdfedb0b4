/-! ===== the world behind the two constructors: the shape of every cell; the numbers in one flat row σ ===== -/
abbrev zS : Type := Nat × Nat × Nat × List (Bool × Nat)
def zSh0 : List zS := [(11, 400 * 0 + 0, 12, [(true, 1), (true, 8), (true, 15), (true, 16), (true, 17), (true, 18), (true, 19), (true, 35), (true, 39), (true, 42), (true, 107), (false, 400 * 0 + 11)]), (5, 400 * 1 + 53, 5, [(false, 400 * 1 + 56), (false, 400 * 1 + 57), (false, 400 * 1 + 53), (false, 400 * 1 + 54), (false, 400 * 1 + 55), (true, 2), (true, 3), (true, 4), (true, 5), (true, 6), (true, 7)]), (0, 400 * 1 + 0, 5, []), (1, 400 * 1 + 5, 15, []), (0, 400 * 1 + 20, 5, []), (0, 400 * 1 + 25, 4, []), (0, 400 * 1 + 29, 4, []), (0, 400 * 1 + 33, 20, []), (5, 400 * 8 + 53, 5, [(false, 400 * 8 + 56), (false, 400 * 8 + 57), (false, 400 * 8 + 53), (false, 400 * 8 + 54), (false, 400 * 8 + 55), (true, 9), (true, 10), (true, 11), (true, 12), (true, 13), (true, 14)]), (0, 400 * 8 + 0, 5, []), (1, 400 * 8 + 5, 15, []), (0, 400 * 8 + 20, 5, []), (0, 400 * 8 + 25, 4, []), (0, 400 * 8 + 29, 4, []), (0, 400 * 8 + 33, 20, []), (3, 400 * 15 + 0, 2, [(true, 108), (true, 115)]), (2, 400 * 16 + 0, 2, []), (3, 400 * 17 + 0, 4, [(true, 122), (true, 129), (true, 136), (true, 143)]), (0, 400 * 18 + 0, 4, []), (9, 400 * 19 + 0, 11, [(true, 20), (false, 400 * 19 + 1), (false, 400 * 19 + 2), (false, 400 * 19 + 3), (true, 21), (true, 28), (false, 400 * 19 + 6), (false, 400 * 19 + 7), (false, 400 * 19 + 8), (false, 400 * 19 + 9), (false, 400 * 19 + 10)]), (0, 400 * 20 + 0, 160, []), (5, 400 * 21 + 53, 5, [(false, 400 * 21 + 56), (false, 400 * 21 + 57), (false, 400 * 21 + 53), (false, 400 * 21 + 54), (false, 400 * 21 + 55), (true, 22), (true, 23), (true, 24), (true, 25), (true, 26), (true, 27)]), (0, 400 * 21 + 0, 5, []), (1, 400 * 21 + 5, 15, []), (0, 400 * 21 + 20, 5, [])]
def zSh1 : List zS := [(0, 400 * 21 + 25, 4, []), (0, 400 * 21 + 29, 4, []), (0, 400 * 21 + 33, 20, []), (5, 400 * 28 + 53, 5, [(false, 400 * 28 + 56), (false, 400 * 28 + 57), (false, 400 * 28 + 53), (false, 400 * 28 + 54), (false, 400 * 28 + 55), (true, 29), (true, 30), (true, 31), (true, 32), (true, 33), (true, 34)]), (0, 400 * 28 + 0, 5, []), (1, 400 * 28 + 5, 15, []), (0, 400 * 28 + 20, 5, []), (0, 400 * 28 + 25, 4, []), (0, 400 * 28 + 29, 4, []), (0, 400 * 28 + 33, 20, []), (6, 400 * 35 + 0, 4, [(false, 400 * 35 + 0), (true, 36), (true, 37), (true, 38)]), (0, 400 * 36 + 0, 6, []), (0, 400 * 37 + 0, 6, []), (0, 400 * 38 + 0, 6, []), (7, 400 * 39 + 0, 6, [(false, 400 * 39 + 0), (false, 400 * 39 + 1), (true, 40), (true, 41), (false, 400 * 39 + 4), (false, 400 * 39 + 5)]), (0, 400 * 40 + 0, 5, []), (0, 400 * 41 + 0, 5, []), (10, 400 * 42 + 0, 5, [(false, 400 * 42 + 0), (false, 400 * 42 + 1), (false, 400 * 42 + 2), (false, 400 * 42 + 3), (true, 43)]), (3, 400 * 43 + 0, 9, [(true, 44), (true, 51), (true, 58), (true, 65), (true, 72), (true, 79), (true, 86), (true, 93), (true, 100)]), (5, 400 * 44 + 53, 5, [(false, 400 * 44 + 56), (false, 400 * 44 + 57), (false, 400 * 44 + 53), (false, 400 * 44 + 54), (false, 400 * 44 + 55), (true, 45), (true, 46), (true, 47), (true, 48), (true, 49), (true, 50)]), (0, 400 * 44 + 0, 5, []), (1, 400 * 44 + 5, 15, []), (0, 400 * 44 + 20, 5, []), (0, 400 * 44 + 25, 4, []), (0, 400 * 44 + 29, 4, [])]
def zSh2 : List zS := [(0, 400 * 44 + 33, 20, []), (5, 400 * 51 + 53, 5, [(false, 400 * 51 + 56), (false, 400 * 51 + 57), (false, 400 * 51 + 53), (false, 400 * 51 + 54), (false, 400 * 51 + 55), (true, 52), (true, 53), (true, 54), (true, 55), (true, 56), (true, 57)]), (0, 400 * 51 + 0, 5, []), (1, 400 * 51 + 5, 15, []), (0, 400 * 51 + 20, 5, []), (0, 400 * 51 + 25, 4, []), (0, 400 * 51 + 29, 4, []), (0, 400 * 51 + 33, 20, []), (5, 400 * 58 + 53, 5, [(false, 400 * 58 + 56), (false, 400 * 58 + 57), (false, 400 * 58 + 53), (false, 400 * 58 + 54), (false, 400 * 58 + 55), (true, 59), (true, 60), (true, 61), (true, 62), (true, 63), (true, 64)]), (0, 400 * 58 + 0, 5, []), (1, 400 * 58 + 5, 15, []), (0, 400 * 58 + 20, 5, []), (0, 400 * 58 + 25, 4, []), (0, 400 * 58 + 29, 4, []), (0, 400 * 58 + 33, 20, []), (5, 400 * 65 + 53, 5, [(false, 400 * 65 + 56), (false, 400 * 65 + 57), (false, 400 * 65 + 53), (false, 400 * 65 + 54), (false, 400 * 65 + 55), (true, 66), (true, 67), (true, 68), (true, 69), (true, 70), (true, 71)]), (0, 400 * 65 + 0, 5, []), (1, 400 * 65 + 5, 15, []), (0, 400 * 65 + 20, 5, []), (0, 400 * 65 + 25, 4, []), (0, 400 * 65 + 29, 4, []), (0, 400 * 65 + 33, 20, []), (5, 400 * 72 + 53, 5, [(false, 400 * 72 + 56), (false, 400 * 72 + 57), (false, 400 * 72 + 53), (false, 400 * 72 + 54), (false, 400 * 72 + 55), (true, 73), (true, 74), (true, 75), (true, 76), (true, 77), (true, 78)]), (0, 400 * 72 + 0, 5, []), (1, 400 * 72 + 5, 15, [])]
def zSh3 : List zS := [(0, 400 * 72 + 20, 5, []), (0, 400 * 72 + 25, 4, []), (0, 400 * 72 + 29, 4, []), (0, 400 * 72 + 33, 20, []), (5, 400 * 79 + 53, 5, [(false, 400 * 79 + 56), (false, 400 * 79 + 57), (false, 400 * 79 + 53), (false, 400 * 79 + 54), (false, 400 * 79 + 55), (true, 80), (true, 81), (true, 82), (true, 83), (true, 84), (true, 85)]), (0, 400 * 79 + 0, 5, []), (1, 400 * 79 + 5, 15, []), (0, 400 * 79 + 20, 5, []), (0, 400 * 79 + 25, 4, []), (0, 400 * 79 + 29, 4, []), (0, 400 * 79 + 33, 20, []), (5, 400 * 86 + 53, 5, [(false, 400 * 86 + 56), (false, 400 * 86 + 57), (false, 400 * 86 + 53), (false, 400 * 86 + 54), (false, 400 * 86 + 55), (true, 87), (true, 88), (true, 89), (true, 90), (true, 91), (true, 92)]), (0, 400 * 86 + 0, 5, []), (1, 400 * 86 + 5, 15, []), (0, 400 * 86 + 20, 5, []), (0, 400 * 86 + 25, 4, []), (0, 400 * 86 + 29, 4, []), (0, 400 * 86 + 33, 20, []), (5, 400 * 93 + 53, 5, [(false, 400 * 93 + 56), (false, 400 * 93 + 57), (false, 400 * 93 + 53), (false, 400 * 93 + 54), (false, 400 * 93 + 55), (true, 94), (true, 95), (true, 96), (true, 97), (true, 98), (true, 99)]), (0, 400 * 93 + 0, 5, []), (1, 400 * 93 + 5, 15, []), (0, 400 * 93 + 20, 5, []), (0, 400 * 93 + 25, 4, []), (0, 400 * 93 + 29, 4, []), (0, 400 * 93 + 33, 20, [])]
def zSh4 : List zS := [(5, 400 * 100 + 53, 5, [(false, 400 * 100 + 56), (false, 400 * 100 + 57), (false, 400 * 100 + 53), (false, 400 * 100 + 54), (false, 400 * 100 + 55), (true, 101), (true, 102), (true, 103), (true, 104), (true, 105), (true, 106)]), (0, 400 * 100 + 0, 5, []), (1, 400 * 100 + 5, 15, []), (0, 400 * 100 + 20, 5, []), (0, 400 * 100 + 25, 4, []), (0, 400 * 100 + 29, 4, []), (0, 400 * 100 + 33, 20, []), (4, 400 * 107 + 0, 4, [(true, 150), (true, 152), (true, 154), (true, 156)]), (5, 400 * 108 + 53, 5, [(false, 400 * 108 + 56), (false, 400 * 108 + 57), (false, 400 * 108 + 53), (false, 400 * 108 + 54), (false, 400 * 108 + 55), (true, 109), (true, 110), (true, 111), (true, 112), (true, 113), (true, 114)]), (0, 400 * 108 + 0, 5, []), (1, 400 * 108 + 5, 15, []), (0, 400 * 108 + 20, 5, []), (0, 400 * 108 + 25, 4, []), (0, 400 * 108 + 29, 4, []), (0, 400 * 108 + 33, 20, []), (5, 400 * 115 + 53, 5, [(false, 400 * 115 + 56), (false, 400 * 115 + 57), (false, 400 * 115 + 53), (false, 400 * 115 + 54), (false, 400 * 115 + 55), (true, 116), (true, 117), (true, 118), (true, 119), (true, 120), (true, 121)]), (0, 400 * 115 + 0, 5, []), (1, 400 * 115 + 5, 15, []), (0, 400 * 115 + 20, 5, []), (0, 400 * 115 + 25, 4, []), (0, 400 * 115 + 29, 4, []), (0, 400 * 115 + 33, 20, []), (5, 400 * 122 + 53, 5, [(false, 400 * 122 + 56), (false, 400 * 122 + 57), (false, 400 * 122 + 53), (false, 400 * 122 + 54), (false, 400 * 122 + 55), (true, 123), (true, 124), (true, 125), (true, 126), (true, 127), (true, 128)]), (0, 400 * 122 + 0, 5, []), (1, 400 * 122 + 5, 15, [])]
def zSh5 : List zS := [(0, 400 * 122 + 20, 5, []), (0, 400 * 122 + 25, 4, []), (0, 400 * 122 + 29, 4, []), (0, 400 * 122 + 33, 20, []), (5, 400 * 129 + 53, 5, [(false, 400 * 129 + 56), (false, 400 * 129 + 57), (false, 400 * 129 + 53), (false, 400 * 129 + 54), (false, 400 * 129 + 55), (true, 130), (true, 131), (true, 132), (true, 133), (true, 134), (true, 135)]), (0, 400 * 129 + 0, 5, []), (1, 400 * 129 + 5, 15, []), (0, 400 * 129 + 20, 5, []), (0, 400 * 129 + 25, 4, []), (0, 400 * 129 + 29, 4, []), (0, 400 * 129 + 33, 20, []), (5, 400 * 136 + 53, 5, [(false, 400 * 136 + 56), (false, 400 * 136 + 57), (false, 400 * 136 + 53), (false, 400 * 136 + 54), (false, 400 * 136 + 55), (true, 137), (true, 138), (true, 139), (true, 140), (true, 141), (true, 142)]), (0, 400 * 136 + 0, 5, []), (1, 400 * 136 + 5, 15, []), (0, 400 * 136 + 20, 5, []), (0, 400 * 136 + 25, 4, []), (0, 400 * 136 + 29, 4, []), (0, 400 * 136 + 33, 20, []), (5, 400 * 143 + 53, 5, [(false, 400 * 143 + 56), (false, 400 * 143 + 57), (false, 400 * 143 + 53), (false, 400 * 143 + 54), (false, 400 * 143 + 55), (true, 144), (true, 145), (true, 146), (true, 147), (true, 148), (true, 149)]), (0, 400 * 143 + 0, 5, []), (1, 400 * 143 + 5, 15, []), (0, 400 * 143 + 20, 5, []), (0, 400 * 143 + 25, 4, []), (0, 400 * 143 + 29, 4, []), (0, 400 * 143 + 33, 20, [])]
def zSh6 : List zS := [(8, 400 * 150 + 0, 3, [(false, 400 * 150 + 0), (false, 400 * 150 + 1), (true, 151)]), (0, 400 * 151 + 0, 40, []), (8, 400 * 152 + 0, 3, [(false, 400 * 152 + 0), (false, 400 * 152 + 1), (true, 153)]), (0, 400 * 153 + 0, 40, []), (8, 400 * 154 + 0, 3, [(false, 400 * 154 + 0), (false, 400 * 154 + 1), (true, 155)]), (0, 400 * 155 + 0, 40, []), (8, 400 * 156 + 0, 3, [(false, 400 * 156 + 0), (false, 400 * 156 + 1), (true, 157)]), (0, 400 * 157 + 0, 40, []), (12, 400 * 158 + 0, 33, [(true, 159), (false, 400 * 158 + 1), (false, 400 * 158 + 2), (true, 160), (false, 400 * 158 + 4), (false, 400 * 158 + 5), (false, 400 * 158 + 6), (false, 400 * 158 + 7), (false, 400 * 158 + 8), (true, 161), (false, 400 * 158 + 10), (false, 400 * 158 + 11), (false, 400 * 158 + 12), (false, 400 * 158 + 13), (false, 400 * 158 + 14), (false, 400 * 158 + 15), (false, 400 * 158 + 16), (false, 400 * 158 + 17), (true, 162), (true, 163), (false, 400 * 158 + 20), (true, 164), (false, 400 * 158 + 22), (true, 165), (true, 166), (true, 167), (false, 400 * 158 + 26), (true, 168), (true, 169), (true, 170), (true, 171), (true, 172), (false, 400 * 158 + 32)]), (0, 400 * 159 + 0, 330, []), (0, 400 * 160 + 0, 55, []), (0, 400 * 161 + 0, 160, []), (0, 400 * 162 + 0, 7, []), (0, 400 * 163 + 0, 32, []), (0, 400 * 164 + 0, 4, []), (0, 400 * 165 + 0, 5, []), (0, 400 * 166 + 0, 5, []), (0, 400 * 167 + 0, 18, []), (0, 400 * 168 + 0, 336, []), (2, 400 * 169 + 0, 2, []), (0, 400 * 170 + 0, 4, []), (0, 400 * 171 + 0, 4, []), (0, 400 * 172 + 0, 160, [])]
def zSh : List zS := zSh0 ++ (zSh1 ++ (zSh2 ++ (zSh3 ++ (zSh4 ++ (zSh5 ++ (zSh6))))))
def zBks : List Nat := [1, 8, 21, 28, 44, 51, 58, 65, 72, 79, 86, 93, 100, 108, 115, 122, 129, 136, 143]
def zBk (r : Nat) : Prop := r ∈ zBks
def zE (G : zG) (σ : Nat → Int32) (s : zS) : va_E := match s.1 with
  | 0 => .inl (zcI G, s.2.2.1, .inl (fun j => σ (s.2.1 + j)))
  | 1 => .inl (zcI G, s.2.2.1, .inl (fun j => σ (s.2.1 + (5 * (j % 3) + j / 3))))
  | 2 => .inl (zcZ G, s.2.2.1, .inl (fun j => σ (s.2.1 + j)))
  | 3 => .inl (zcB G, s.2.2.1, .inr (.inr (.inr (.inr (fun j => (s.2.2.2[j]?).map (fun q => zGa G q.2))))))
  | 4 => .inl (zcS G, s.2.2.1, .inr (.inr (.inr (.inr (fun j => (s.2.2.2[j]?).map (fun q => zGa G q.2))))))
  | c + 5 => .inr (c, s.2.2.2.map (fun q => if q.1 then .ref (zGa G q.2) else .int (σ q.2)))
noncomputable def zW (G : zG) (σ : Nat → Int32) : va_W := Classical.choose (p := fun w : va_W => w = zSh.mapIdx (fun r s => (zGa G r, zE G σ s))) ⟨_, rfl⟩
theorem zW_def (G : zG) (σ : Nat → Int32) : zW G σ = zSh.mapIdx (fun r s => (zGa G r, zE G σ s)) := Classical.choose_spec (p := fun w : va_W => w = zSh.mapIdx (fun r s => (zGa G r, zE G σ s))) ⟨_, rfl⟩
theorem zW_at {G : zG} {σ : Nat → Int32} {r : Nat} {s : zS} (h : zSh[r]? = some s) : (zW G σ)[r]? = some (zGa G r, zE G σ s) := by
  rw [zW_def, List.getElem?_mapIdx, h]; rfl
/-- a number is one of this cell's -/
def zIn (s : zS) (a : Nat) : Prop := s.2.1 ≤ a ∧ a < s.2.1 + s.2.2.1
/-- a cell's numbers lie in its stretch of the flat row; the stretches are apart -/
def zGood (s : zS) : Bool := (s.2.2.2.all fun q => q.1 || (decide (s.2.1 ≤ q.2) && decide (q.2 < s.2.1 + s.2.2.1))) && (decide (s.1 ≠ 1) || decide (s.2.2.1 = 15))
def zApart (s t : zS) : Bool := decide (s.2.1 + s.2.2.1 ≤ t.2.1) || decide (t.2.1 + t.2.2.1 ≤ s.2.1)
def zAparts : List zS → Bool
  | [] => true
  | s :: l => l.all (zApart s) && zAparts l
theorem zSh_good : zSh.all zGood = true := by decide +kernel
theorem zSh_apart : zAparts zSh = true := by decide +kernel
theorem zAparts_of : ∀ (l : List zS), zAparts l = true → ∀ (i j : Nat) (s t : zS), i < j → l[i]? = some s → l[j]? = some t → zApart s t = true
  | [], _, i, j, s, t, _, h, _ => by simp at h
  | x :: l, hx, i, j, s, t, hij, hi, hj => by
    simp only [zAparts, Bool.and_eq_true] at hx
    cases j with
    | zero => omega
    | succ j =>
      rw [List.getElem?_cons_succ] at hj
      cases i with
      | zero =>
        rw [List.getElem?_cons_zero] at hi
        cases hi
        exact List.all_eq_true.mp hx.1 t (List.mem_of_getElem? hj)
      | succ i =>
        rw [List.getElem?_cons_succ] at hi
        exact zAparts_of l hx.2 i j s t (by omega) hi hj
theorem zApart_in {i j : Nat} {s t : zS} {a : Nat} (hij : i ≠ j) (hi : zSh[i]? = some s) (hj : zSh[j]? = some t) (h : zIn s a) : ¬ zIn t a := by
  intro h2
  rcases Nat.lt_or_ge i j with q | q
  · have := zAparts_of zSh zSh_apart i j s t q hi hj
    simp only [zApart, Bool.or_eq_true, decide_eq_true_eq] at this
    simp only [zIn] at h h2
    omega
  · have := zAparts_of zSh zSh_apart j i t s (by omega) hj hi
    simp only [zApart, Bool.or_eq_true, decide_eq_true_eq] at this
    simp only [zIn] at h h2
    omega
/-- two entries that make the same cell -/
def zEq (e f : va_E) : Prop := e = f ∨ ∃ (c : ClassId) (n : Nat) (g h : Nat → Int32), e = .inl (c, n, .inl g) ∧ f = .inl (c, n, .inl h) ∧ ∀ j, j < n → g j = h j
theorem zEq_at {D : va_G} {cl : List vw_C} {q : Nat} {e f : va_E} {H : Heap} (h : zEq e f) (ha : va_at D cl (q, e) H) : va_at D cl (q, f) H := by
  rcases h with rfl | ⟨c, n, g, g', rfl, rfl, hj⟩
  · exact ha
  · refine (show H[q]? = some (vp_cell c (n, .inl g)) from ha).trans ?_
    rw [vp_cell_i, vp_cell_i]
    congr 1
    have : (fun j : Fin n => Value.int (g j.val)) = (fun j : Fin n => Value.int (g' j.val)) := by
      funext j
      rw [hj j.val j.isLt]
    simp only [arrV, this]
/-- a world in place of another: each cell of it is the same -/
def zWeq (w v : va_W) : Prop := ∀ (k : Nat) (q : Nat × va_E), v[k]? = some q → ∃ e : va_E, w[k]? = some (q.1, e) ∧ zEq e q.2
theorem Z.weq {G : zG} {X : zX} {μ : zM} {a b : Nat} {w v : va_W} {pc : Nat} {L : List (Option Value)} {S : List Value} (h : zWeq w v) (k : Z G X μ a b v pc L S) : Z G X μ a b w pc L S := by
  intro ok H locs ls hP hD hS hl
  refine k ok H locs ls (fun i q hq => ?_) ⟨fun i j x y hi hj hxy => ?_, fun i q hq => ?_⟩ hS hl
  · obtain ⟨e, h1, h2⟩ := h i q hq
    exact zEq_at h2 (hP i _ h1)
  · obtain ⟨e, h1, -⟩ := h i x hi
    obtain ⟨e', h2, -⟩ := h j y hj
    exact hD.1 i j _ _ h1 h2 hxy
  · obtain ⟨e, h1, -⟩ := h i q hq
    exact hD.2 i (q.1, e) h1
theorem zE_off {G : zG} {σ : Nat → Int32} {s : zS} {a : Nat} {x : Int32} (hg : zGood s = true) (h : ¬ zIn s a) : zEq (zE G σ s) (zE G (upd σ a x) s) := by
  obtain ⟨c, lo, n, sl⟩ := s
  simp only [zGood, Bool.and_eq_true, Bool.or_eq_true, decide_eq_true_eq] at hg
  simp only [zIn] at h
  match c with
  | 0 => exact Or.inr ⟨_, _, _, _, rfl, rfl, fun j hj => (pk_un (by show lo + j ≠ a; have : j < n := hj; omega)).symm⟩
  | 1 =>
    have hn : n = 15 := by
      rcases hg.2 with q | q
      · exact absurd rfl q
      · exact q
    exact Or.inr ⟨_, _, _, _, rfl, rfl, fun j hj => (pk_un (by show lo + (5 * (j % 3) + j / 3) ≠ a; have : j < n := hj; omega)).symm⟩
  | 2 => exact Or.inr ⟨_, _, _, _, rfl, rfl, fun j hj => (pk_un (by show lo + j ≠ a; have : j < n := hj; omega)).symm⟩
  | 3 => exact Or.inl rfl
  | 4 => exact Or.inl rfl
  | c + 5 =>
    refine Or.inl ?_
    show Sum.inr (c, sl.map _) = Sum.inr (c, sl.map _)
    congr 2
    refine List.map_congr_left fun q hq => ?_
    have := List.all_eq_true.mp hg.1 q hq
    simp only [Bool.or_eq_true, Bool.and_eq_true, decide_eq_true_eq] at this
    cases hq1 : q.1 with
    | true => simp
    | false =>
      rw [hq1] at this
      have : q.2 ≠ a := by simp at this; omega
      simp [upd, this]
theorem zW_upd {G : zG} {σ : Nat → Int32} {r a : Nat} {s : zS} {x : Int32} {e : va_E} (hr : zSh[r]? = some s) (ha : zIn s a) (he : zEq e (zE G (upd σ a x) s)) : zWeq ((zW G σ).set r (zGa G r, e)) (zW G (upd σ a x)) := by
  intro k q hq
  have hk : ∃ t, zSh[k]? = some t := by
    cases h : zSh[k]? with
    | some t => exact ⟨t, rfl⟩
    | none => rw [zW_def, List.getElem?_mapIdx, h] at hq; cases hq
  obtain ⟨t, ht⟩ := hk
  rw [zW_at ht] at hq
  cases hq
  have hl : r < (zW G σ).length := (List.getElem?_eq_some_iff.mp (zW_at (G := G) (σ := σ) hr)).1
  by_cases hkr : k = r
  · subst hkr
    rw [hr] at ht
    cases ht
    exact ⟨e, List.getElem?_set_self hl, he⟩
  · refine ⟨zE G σ t, ?_, zE_off (List.all_eq_true.mp zSh_good t (List.mem_of_getElem? ht)) (zApart_in (Ne.symm hkr) hr ht ha)⟩
    rw [List.getElem?_set_ne (Ne.symm hkr)]
    exact zW_at ht
/-- the walks over that world -/
abbrev Y (G : zG) (X : zX) (μ : zM) (σ : Nat → Int32) (pc : Nat) (L : List (Option Value)) (S : List Value) : Prop := Z G X μ 0 0 (zW G σ) pc L S
section YW
variable {G : zG} {X : zX} {μ : zM} {σ : Nat → Int32} {pc : Nat} {L : List (Option Value)} {S : List Value}
theorem y_get (n r : Nat) {lo len : Nat} {sl : List (Bool × Nat)} {idx ci j ad : Nat} (hr : zSh[r]? = some (ci + 5, lo, len, sl)) (hj : sl[j]? = some (false, ad)) (hf : zFld (zMo μ) idx ci j) (hd : decode (zMc μ) pc = .ok (.getfield idx, 3)) (hn : pc + 3 = n) (k : Y G X μ σ n L (.int (σ ad) :: S)) : Y G X μ σ pc L (.ref (zGa G r) :: S) :=
  z_get n r (zW_at hr) hf (by show (List.map _ sl)[j]? = _; rw [List.getElem?_map, hj]; rfl) hd hn k
theorem y_getr (n r : Nat) {lo len : Nat} {sl : List (Bool × Nat)} {idx ci j r' : Nat} (hr : zSh[r]? = some (ci + 5, lo, len, sl)) (hj : sl[j]? = some (true, r')) (hf : zFld (zMo μ) idx ci j) (hd : decode (zMc μ) pc = .ok (.getfield idx, 3)) (hn : pc + 3 = n) (k : Y G X μ σ n L (.ref (zGa G r') :: S)) : Y G X μ σ pc L (.ref (zGa G r) :: S) :=
  z_get n r (zW_at hr) hf (by show (List.map _ sl)[j]? = _; rw [List.getElem?_map, hj]; rfl) hd hn k
theorem y_put (n r : Nat) {lo len : Nat} {sl : List (Bool × Nat)} {idx ci j ad : Nat} {x : Int32} (hr : zSh[r]? = some (ci + 5, lo, len, sl)) (hj : sl[j]? = some (false, ad)) (hu : ∀ i q, sl[i]? = some (false, q) → q = ad → i = j) (hf : zFldP (zMo μ) idx ci j .int false) (hd : decode (zMc μ) pc = .ok (.putfield idx, 3)) (hn : pc + 3 = n) (k : Y G X μ (upd σ ad x) n L S) : Y G X μ σ pc L (.int x :: .ref (zGa G r) :: S) := by
  have hlt : j < sl.length := (List.getElem?_eq_some_iff.mp hj).1
  refine z_put n r (zW_at hr) hf (vp_nar_int x) rfl (by rw [List.length_map]; exact hlt) hd hn (Z.weq (zW_upd hr ?_ (Or.inl ?_)) k)
  · have hg := List.all_eq_true.mp zSh_good _ (List.mem_of_getElem? hr)
    simp only [zGood, Bool.and_eq_true] at hg
    have := List.all_eq_true.mp hg.1 _ (List.mem_of_getElem? hj)
    simpa [zIn] using this
  · show Sum.inr (ci, (sl.map _).set j _) = Sum.inr (ci, sl.map _)
    congr 2
    apply List.ext_getElem?
    intro i
    by_cases hi : i = j
    · subst hi
      rw [List.getElem?_set_self (by rw [List.length_map]; exact hlt), List.getElem?_map, hj]
      simp [upd]
    · rw [List.getElem?_set_ne (Ne.symm hi), List.getElem?_map, List.getElem?_map]
      cases hq : sl[i]? with
      | none => rfl
      | some q =>
        obtain ⟨t, c⟩ := q
        cases t with
        | true => rfl
        | false =>
          have : c ≠ ad := fun e => hi (hu i c hq e)
          simp [upd, this]
theorem y_ld (n r j : Nat) {lo len : Nat} {sl : List (Bool × Nat)} {i : Int32} (hr : zSh[r]? = some (0, lo, len, sl)) (hi : i = nI j) (hj : j < len) (hN : len < 2 ^ 31) (hd : decode (zMc μ) pc = .ok (.iaload, 1)) (hn : pc + 1 = n) (k : Y G X μ σ n L (.int (σ (lo + j)) :: S)) : Y G X μ σ pc L (.int i :: .ref (zGa G r) :: S) := z_iald n r j (zW_at hr) hi hj hN hd hn k
theorem y_ldL (n r j : Nat) {lo len : Nat} {sl : List (Bool × Nat)} {i : Int32} (hr : zSh[r]? = some (1, lo, len, sl)) (hi : i = nI j) (hj : j < len) (hN : len < 2 ^ 31) (hd : decode (zMc μ) pc = .ok (.iaload, 1)) (hn : pc + 1 = n) (k : Y G X μ σ n L (.int (σ (lo + (5 * (j % 3) + j / 3))) :: S)) : Y G X μ σ pc L (.int i :: .ref (zGa G r) :: S) := z_iald n r j (zW_at hr) hi hj hN hd hn k
theorem y_st (n r j : Nat) {lo len : Nat} {sl : List (Bool × Nat)} {i x : Int32} (hr : zSh[r]? = some (0, lo, len, sl)) (hi : i = nI j) (hj : j < len) (hN : len < 2 ^ 31) (hd : decode (zMc μ) pc = .ok (.iastore, 1)) (hn : pc + 1 = n) (k : Y G X μ (upd σ (lo + j) x) n L S) : Y G X μ σ pc L (.int x :: .int i :: .ref (zGa G r) :: S) := by
  refine z_iast n r j (zW_at hr) hi hj hN hd hn (Z.weq (zW_upd hr ⟨Nat.le_add_right _ _, Nat.add_lt_add_left hj lo⟩ (Or.inr ⟨_, _, _, _, rfl, rfl, fun i _ => ?_⟩)) k)
  show upd _ j x i = upd σ (lo + j) x (lo + i)
  simp only [upd]
  by_cases h : i = j
  · rw [if_pos h, if_pos (by omega)]
  · rw [if_neg h, if_neg (by omega)]
theorem y_stL (n r j : Nat) {lo len : Nat} {sl : List (Bool × Nat)} {i x : Int32} (hr : zSh[r]? = some (1, lo, len, sl)) (hl : len = 15) (hi : i = nI j) (hj : j < len) (hd : decode (zMc μ) pc = .ok (.iastore, 1)) (hn : pc + 1 = n) (k : Y G X μ (upd σ (lo + (5 * (j % 3) + j / 3)) x) n L S) : Y G X μ σ pc L (.int x :: .int i :: .ref (zGa G r) :: S) := by
  subst hl
  refine z_iast n r j (zW_at hr) hi hj (by show 15 < 2 ^ 31; decide) hd hn (Z.weq (zW_upd hr ⟨Nat.le_add_right _ _, ?_⟩ (Or.inr ⟨_, _, _, _, rfl, rfl, fun i hi => ?_⟩)) k)
  · show lo + (5 * (j % 3) + j / 3) < lo + 15
    omega
  show upd _ j x i = upd σ (lo + (5 * (j % 3) + j / 3)) x (lo + (5 * (i % 3) + i / 3))
  simp only [upd]
  have hi : i < 15 := hi
  by_cases h : i = j
  · rw [if_pos h, if_pos (by rw [h])]
  · rw [if_neg h, if_neg (by omega)]
theorem y_ldZ (n r j : Nat) {lo len : Nat} {sl : List (Bool × Nat)} {i : Int32} (hr : zSh[r]? = some (2, lo, len, sl)) (hi : i = nI j) (hj : j < len) (hN : len < 2 ^ 31) (hd : decode (zMc μ) pc = .ok (.baload, 1)) (hn : pc + 1 = n) (k : Y G X μ σ n L (.int (σ (lo + j)) :: S)) : Y G X μ σ pc L (.int i :: .ref (zGa G r) :: S) := z_zald n r j (zW_at hr) hi hj hN hd hn k
theorem y_stZ (n r j : Nat) {lo len : Nat} {sl : List (Bool × Nat)} {i x : Int32} (hr : zSh[r]? = some (2, lo, len, sl)) (hi : i = nI j) (hj : j < len) (hN : len < 2 ^ 31) (hx : vp_nar .boolean x = x) (hd : decode (zMc μ) pc = .ok (.bastore, 1)) (hn : pc + 1 = n) (k : Y G X μ (upd σ (lo + j) x) n L S) : Y G X μ σ pc L (.int x :: .int i :: .ref (zGa G r) :: S) := by
  refine z_zast n r j (zW_at hr) hi hj hN hx hd hn (Z.weq (zW_upd hr ⟨Nat.le_add_right _ _, Nat.add_lt_add_left hj lo⟩ (Or.inr ⟨_, _, _, _, rfl, rfl, fun i _ => ?_⟩)) k)
  show upd _ j x i = upd σ (lo + j) x (lo + i)
  simp only [upd]
  by_cases h : i = j
  · rw [if_pos h, if_pos (by omega)]
  · rw [if_neg h, if_neg (by omega)]
theorem y_aaB (n r j : Nat) {lo len r' : Nat} {sl : List (Bool × Nat)} {i : Int32} (hr : zSh[r]? = some (3, lo, len, sl)) (hi : i = nI j) (hj : j < len) (hN : len < 2 ^ 31) (hs : sl[j]? = some (true, r')) (hd : decode (zMc μ) pc = .ok (.aaload, 1)) (hn : pc + 1 = n) (k : Y G X μ σ n L (.ref (zGa G r') :: S)) : Y G X μ σ pc L (.int i :: .ref (zGa G r) :: S) := z_aald n r j (t0 := 2) (zW_at hr) rfl hi hj hN hd hn (by rw [hs]; exact k)
theorem y_aaS (n r j : Nat) {lo len r' : Nat} {sl : List (Bool × Nat)} {i : Int32} (hr : zSh[r]? = some (4, lo, len, sl)) (hi : i = nI j) (hj : j < len) (hN : len < 2 ^ 31) (hs : sl[j]? = some (true, r')) (hd : decode (zMc μ) pc = .ok (.aaload, 1)) (hn : pc + 1 = n) (k : Y G X μ σ n L (.ref (zGa G r') :: S)) : Y G X μ σ pc L (.int i :: .ref (zGa G r) :: S) := z_aald n r j (t0 := 3) (zW_at hr) rfl hi hj hN hd hn (by rw [hs]; exact k)
theorem y_len (n r : Nat) {lo len : Nat} {sl : List (Bool × Nat)} {v : Int32} (hr : zSh[r]? = some (0, lo, len, sl)) (hv : Int32.ofNat len = v) (hd : decode (zMc μ) pc = .ok (.arraylength, 1)) (hn : pc + 1 = n) (k : Y G X μ σ n L (.int v :: S)) : Y G X μ σ pc L (.ref (zGa G r) :: S) := z_alen n r 0 (zW_at hr) rfl hv hd hn k
end YW
theorem bk_all0 : (zBks.all fun r => decide (zSh[r]? = some (5, 400 * r + 53, 5, [(false, 400 * r + 56), (false, 400 * r + 57), (false, 400 * r + 53), (false, 400 * r + 54), (false, 400 * r + 55), (true, r + 1), (true, r + 2), (true, r + 3), (true, r + 4), (true, r + 5), (true, r + 6)]))) = true := by decide +kernel
theorem bk0 {r : Nat} (h : zBk r) : zSh[r]? = some (5, 400 * r + 53, 5, [(false, 400 * r + 56), (false, 400 * r + 57), (false, 400 * r + 53), (false, 400 * r + 54), (false, 400 * r + 55), (true, r + 1), (true, r + 2), (true, r + 3), (true, r + 4), (true, r + 5), (true, r + 6)]) := of_decide_eq_true (List.all_eq_true.mp bk_all0 r h)
theorem bk_all1 : (zBks.all fun r => decide (zSh[r + 1]? = some (0, 400 * r + 0, 5, []))) = true := by decide +kernel
theorem bk1 {r : Nat} (h : zBk r) : zSh[r + 1]? = some (0, 400 * r + 0, 5, []) := of_decide_eq_true (List.all_eq_true.mp bk_all1 r h)
theorem bk_all2 : (zBks.all fun r => decide (zSh[r + 2]? = some (1, 400 * r + 5, 15, []))) = true := by decide +kernel
theorem bk2 {r : Nat} (h : zBk r) : zSh[r + 2]? = some (1, 400 * r + 5, 15, []) := of_decide_eq_true (List.all_eq_true.mp bk_all2 r h)
theorem bk_all3 : (zBks.all fun r => decide (zSh[r + 3]? = some (0, 400 * r + 20, 5, []))) = true := by decide +kernel
theorem bk3 {r : Nat} (h : zBk r) : zSh[r + 3]? = some (0, 400 * r + 20, 5, []) := of_decide_eq_true (List.all_eq_true.mp bk_all3 r h)
theorem bk_all4 : (zBks.all fun r => decide (zSh[r + 4]? = some (0, 400 * r + 25, 4, []))) = true := by decide +kernel
theorem bk4 {r : Nat} (h : zBk r) : zSh[r + 4]? = some (0, 400 * r + 25, 4, []) := of_decide_eq_true (List.all_eq_true.mp bk_all4 r h)
theorem bk_all5 : (zBks.all fun r => decide (zSh[r + 5]? = some (0, 400 * r + 29, 4, []))) = true := by decide +kernel
theorem bk5 {r : Nat} (h : zBk r) : zSh[r + 5]? = some (0, 400 * r + 29, 4, []) := of_decide_eq_true (List.all_eq_true.mp bk_all5 r h)
theorem bk_all6 : (zBks.all fun r => decide (zSh[r + 6]? = some (0, 400 * r + 33, 20, []))) = true := by decide +kernel
theorem bk6 {r : Nat} (h : zBk r) : zSh[r + 6]? = some (0, 400 * r + 33, 20, []) := of_decide_eq_true (List.all_eq_true.mp bk_all6 r h)

theorem sh0 : zSh[0]? = some (11, 400 * 0 + 0, 12, [(true, 1), (true, 8), (true, 15), (true, 16), (true, 17), (true, 18), (true, 19), (true, 35), (true, 39), (true, 42), (true, 107), (false, 400 * 0 + 11)]) := by decide +kernel
theorem sh15 : zSh[15]? = some (3, 400 * 15 + 0, 2, [(true, 108), (true, 115)]) := by decide +kernel
theorem sh16 : zSh[16]? = some (2, 400 * 16 + 0, 2, []) := by decide +kernel
theorem sh17 : zSh[17]? = some (3, 400 * 17 + 0, 4, [(true, 122), (true, 129), (true, 136), (true, 143)]) := by decide +kernel
theorem sh18 : zSh[18]? = some (0, 400 * 18 + 0, 4, []) := by decide +kernel
theorem sh19 : zSh[19]? = some (9, 400 * 19 + 0, 11, [(true, 20), (false, 400 * 19 + 1), (false, 400 * 19 + 2), (false, 400 * 19 + 3), (true, 21), (true, 28), (false, 400 * 19 + 6), (false, 400 * 19 + 7), (false, 400 * 19 + 8), (false, 400 * 19 + 9), (false, 400 * 19 + 10)]) := by decide +kernel
theorem sh20 : zSh[20]? = some (0, 400 * 20 + 0, 160, []) := by decide +kernel
theorem sh35 : zSh[35]? = some (6, 400 * 35 + 0, 4, [(false, 400 * 35 + 0), (true, 36), (true, 37), (true, 38)]) := by decide +kernel
theorem sh36 : zSh[36]? = some (0, 400 * 36 + 0, 6, []) := by decide +kernel
theorem sh37 : zSh[37]? = some (0, 400 * 37 + 0, 6, []) := by decide +kernel
theorem sh38 : zSh[38]? = some (0, 400 * 38 + 0, 6, []) := by decide +kernel
theorem sh39 : zSh[39]? = some (7, 400 * 39 + 0, 6, [(false, 400 * 39 + 0), (false, 400 * 39 + 1), (true, 40), (true, 41), (false, 400 * 39 + 4), (false, 400 * 39 + 5)]) := by decide +kernel
theorem sh40 : zSh[40]? = some (0, 400 * 40 + 0, 5, []) := by decide +kernel
theorem sh41 : zSh[41]? = some (0, 400 * 41 + 0, 5, []) := by decide +kernel
theorem sh42 : zSh[42]? = some (10, 400 * 42 + 0, 5, [(false, 400 * 42 + 0), (false, 400 * 42 + 1), (false, 400 * 42 + 2), (false, 400 * 42 + 3), (true, 43)]) := by decide +kernel
theorem sh43 : zSh[43]? = some (3, 400 * 43 + 0, 9, [(true, 44), (true, 51), (true, 58), (true, 65), (true, 72), (true, 79), (true, 86), (true, 93), (true, 100)]) := by decide +kernel
theorem sh107 : zSh[107]? = some (4, 400 * 107 + 0, 4, [(true, 150), (true, 152), (true, 154), (true, 156)]) := by decide +kernel
theorem sh150 : zSh[150]? = some (8, 400 * 150 + 0, 3, [(false, 400 * 150 + 0), (false, 400 * 150 + 1), (true, 151)]) := by decide +kernel
theorem sh151 : zSh[151]? = some (0, 400 * 151 + 0, 40, []) := by decide +kernel
theorem sh152 : zSh[152]? = some (8, 400 * 152 + 0, 3, [(false, 400 * 152 + 0), (false, 400 * 152 + 1), (true, 153)]) := by decide +kernel
theorem sh153 : zSh[153]? = some (0, 400 * 153 + 0, 40, []) := by decide +kernel
theorem sh154 : zSh[154]? = some (8, 400 * 154 + 0, 3, [(false, 400 * 154 + 0), (false, 400 * 154 + 1), (true, 155)]) := by decide +kernel
theorem sh155 : zSh[155]? = some (0, 400 * 155 + 0, 40, []) := by decide +kernel
theorem sh156 : zSh[156]? = some (8, 400 * 156 + 0, 3, [(false, 400 * 156 + 0), (false, 400 * 156 + 1), (true, 157)]) := by decide +kernel
theorem sh157 : zSh[157]? = some (0, 400 * 157 + 0, 40, []) := by decide +kernel
theorem sh158 : zSh[158]? = some (12, 400 * 158 + 0, 33, [(true, 159), (false, 400 * 158 + 1), (false, 400 * 158 + 2), (true, 160), (false, 400 * 158 + 4), (false, 400 * 158 + 5), (false, 400 * 158 + 6), (false, 400 * 158 + 7), (false, 400 * 158 + 8), (true, 161), (false, 400 * 158 + 10), (false, 400 * 158 + 11), (false, 400 * 158 + 12), (false, 400 * 158 + 13), (false, 400 * 158 + 14), (false, 400 * 158 + 15), (false, 400 * 158 + 16), (false, 400 * 158 + 17), (true, 162), (true, 163), (false, 400 * 158 + 20), (true, 164), (false, 400 * 158 + 22), (true, 165), (true, 166), (true, 167), (false, 400 * 158 + 26), (true, 168), (true, 169), (true, 170), (true, 171), (true, 172), (false, 400 * 158 + 32)]) := by decide +kernel
theorem sh159 : zSh[159]? = some (0, 400 * 159 + 0, 330, []) := by decide +kernel
theorem sh160 : zSh[160]? = some (0, 400 * 160 + 0, 55, []) := by decide +kernel
theorem sh161 : zSh[161]? = some (0, 400 * 161 + 0, 160, []) := by decide +kernel
theorem sh162 : zSh[162]? = some (0, 400 * 162 + 0, 7, []) := by decide +kernel
theorem sh163 : zSh[163]? = some (0, 400 * 163 + 0, 32, []) := by decide +kernel
theorem sh164 : zSh[164]? = some (0, 400 * 164 + 0, 4, []) := by decide +kernel
theorem sh165 : zSh[165]? = some (0, 400 * 165 + 0, 5, []) := by decide +kernel
theorem sh166 : zSh[166]? = some (0, 400 * 166 + 0, 5, []) := by decide +kernel
theorem sh167 : zSh[167]? = some (0, 400 * 167 + 0, 18, []) := by decide +kernel
theorem sh168 : zSh[168]? = some (0, 400 * 168 + 0, 336, []) := by decide +kernel
theorem sh169 : zSh[169]? = some (2, 400 * 169 + 0, 2, []) := by decide +kernel
theorem sh170 : zSh[170]? = some (0, 400 * 170 + 0, 4, []) := by decide +kernel
theorem sh171 : zSh[171]? = some (0, 400 * 171 + 0, 4, []) := by decide +kernel
theorem sh172 : zSh[172]? = some (0, 400 * 172 + 0, 160, []) := by decide +kernel
theorem bkm1 : zBk 1 := by show 1 ∈ zBks; decide +kernel
theorem bkm8 : zBk 8 := by show 8 ∈ zBks; decide +kernel
theorem bkm21 : zBk 21 := by show 21 ∈ zBks; decide +kernel
theorem bkm28 : zBk 28 := by show 28 ∈ zBks; decide +kernel
theorem bkm44 : zBk 44 := by show 44 ∈ zBks; decide +kernel
theorem bkm51 : zBk 51 := by show 51 ∈ zBks; decide +kernel
theorem bkm58 : zBk 58 := by show 58 ∈ zBks; decide +kernel
theorem bkm65 : zBk 65 := by show 65 ∈ zBks; decide +kernel
theorem bkm72 : zBk 72 := by show 72 ∈ zBks; decide +kernel
theorem bkm79 : zBk 79 := by show 79 ∈ zBks; decide +kernel
theorem bkm86 : zBk 86 := by show 86 ∈ zBks; decide +kernel
theorem bkm93 : zBk 93 := by show 93 ∈ zBks; decide +kernel
theorem bkm100 : zBk 100 := by show 100 ∈ zBks; decide +kernel
theorem bkm108 : zBk 108 := by show 108 ∈ zBks; decide +kernel
theorem bkm115 : zBk 115 := by show 115 ∈ zBks; decide +kernel
theorem bkm122 : zBk 122 := by show 122 ∈ zBks; decide +kernel
theorem bkm129 : zBk 129 := by show 129 ∈ zBks; decide +kernel
theorem bkm136 : zBk 136 := by show 136 ∈ zBks; decide +kernel
theorem bkm143 : zBk 143 := by show 143 ∈ zBks; decide +kernel
