/-! ===== the constructors: cells come in the order of the rows ===== -/
def cU {α : Type} (f : Nat → α) (n : Nat) (v : α) : Nat → α := fun k => if k = n then v else f k
theorem cU_s {α : Type} {f : Nat → α} {n : Nat} {v : α} : cU f n v n = v := if_pos rfl
theorem cU_n {α : Type} {f : Nat → α} {n k : Nat} {v : α} (h : k ≠ n) : cU f n v k = f k := if_neg h
def zV (A : Nat → Nat) (E : Nat → va_E) (n : Nat) : va_W := (List.range n).map fun k => (A k, E k)
theorem zV_len {A : Nat → Nat} {E : Nat → va_E} {n : Nat} : (zV A E n).length = n := by rw [zV, List.length_map, List.length_range]
theorem zV_at {A : Nat → Nat} {E : Nat → va_E} {n k : Nat} (h : k < n) : (zV A E n)[k]? = some (A k, E k) := by
  rw [zV, List.getElem?_map, List.getElem?_range h]; rfl
theorem zV_no {A : Nat → Nat} {E : Nat → va_E} {n k : Nat} (h : n ≤ k) : (zV A E n)[k]? = none := List.getElem?_eq_none (by rw [zV_len]; exact h)
theorem zV_push {A : Nat → Nat} {E : Nat → va_E} {n q : Nat} {e : va_E} : zV A E n ++ [(q, e)] = zV (cU A n q) (cU E n e) (n + 1) := by
  rw [zV, zV, List.range_succ, List.map_append]
  congr 1
  · refine List.map_congr_left fun k hk => ?_
    have : k ≠ n := Nat.ne_of_lt (List.mem_range.mp hk)
    rw [cU_n this, cU_n this]
  · simp [cU]
theorem zV_set {A : Nat → Nat} {E : Nat → va_E} {n r : Nat} {e : va_E} (hr : r < n) : (zV A E n).set r (A r, e) = zV A (cU E r e) n := by
  apply List.ext_getElem?
  intro k
  by_cases h : k = r
  · subst h
    rw [List.getElem?_set_self (by rw [zV_len]; exact hr), zV_at hr, cU_s]
  · rw [List.getElem?_set_ne (Ne.symm h)]
    rcases Nat.lt_or_ge k n with q | q
    · rw [zV_at q, zV_at q, cU_n h]
    · rw [zV_no q, zV_no q]
/-- the ghosts with these addresses -/
def zGw (G : zG) (A : Nat → Nat) : zG := (G.1, G.2.1, G.2.2.1, G.2.2.2.1, G.2.2.2.2.1, G.2.2.2.2.2.1, G.2.2.2.2.2.2.1, A)
/-- an instruction 'new' -/
def zNew (own : String) (idx ci : Nat) (fs : List Value) (N : Nat) : Prop := ∃ (C : String) (T : u_T) (ty0 : Nat → FieldType), vwCl[ci]? = some (C, T, N) ∧ (∀ w ∈ u_ws C T N, w ∈ zws) ∧ (∀ k, k < N → parseFieldDescriptor (T k).2.2.1 = some (ty0 k)) ∧ Cond.classLink own idx C ∈ zws ∧ Cond.instantiable C N ∈ zws ∧ Cond.initialized C ∈ zws ∧ ∀ j, j < N → defaultValue (ty0 j) = vp_V fs j
abbrev eI (G : zG) (N : Nat) : va_E := .inl (zcI G, N, .inl (fun _ => 0))
abbrev eZ (G : zG) (N : Nat) : va_E := .inl (zcZ G, N, .inl (fun _ => 0))
abbrev eR (c : ClassId) (N : Nat) (f : Nat → Option Nat) : va_E := .inl (c, N, .inr (.inr (.inr (.inr f))))
section CW
variable {G : zG} {X : zX} {μ : zM} {a b : Nat} {ws : va_W} {pc : Nat} {L : List (Option Value)} {S : List Value} {A : Nat → Nat} {E : Nat → va_E} {N : Nat}
theorem c_new (n : Nat) {idx ci M : Nat} {fs : List Value} (hf : zNew (zMo μ) idx ci fs M) (ha : a + 1 ≤ zMk μ) (hb : b + M ≤ zMs μ) (hd : decode (zMc μ) pc = .ok (.new idx, 3)) (hn : pc + 3 = n)
    (k : ∀ (A' : Nat → Nat) (E' : Nat → va_E), (∀ i, i < N → A' i = A i) → (∀ i, i < N → E' i = E i) → E' N = .inr (ci, fs) → Z G X μ (a + 1) (b + M) (zV A' E' (N + 1)) n L (.ref (A' N) :: S)) : Z G X μ a b (zV A E N) pc L S := by
  subst hn
  intro ok H locs ls hP hD hS hl
  obtain ⟨C, T, ty0, h1, h2, h3, h4, h5, h6, h7⟩ := hf
  have hw := ok.2.2.2.2.2.2.1
  obtain ⟨-, -, o3, o4, -⟩ := ok.2.2.2.2.2.2.2.2.2.2
  refine va_new ok.1 ok.2.1 hw h2 ty0 h3 ok.2.2.2.2.1 (hw _ h4) (hw _ h5) (hw _ h6) ok.2.2.2.2.2.2.2.1 hP hD hS (fun q hq => Nat.le_trans ok.2.2.2.2.2.2.2.2.1 hq) h1 h7 (Nat.le_trans ha o3) (Nat.le_trans hb o4) hd fun q H1 hP1 hD1 hS1 => ?_
  rw [zV_push] at hP1 hD1
  have := k _ _ (fun i hi => cU_n (Nat.ne_of_lt hi)) (fun i hi => cU_n (Nat.ne_of_lt hi)) cU_s ok H1 locs ls hP1 hD1 hS1 hl
  rw [cU_s] at this
  exact this
theorem c_newI (n : Nat) {x : Int32} {M : Nat} (hx : x = nI M) (hM : M ≤ 1000) (ha : a + 1 ≤ zMk μ) (hb : b + M ≤ zMs μ) (hd : decode (zMc μ) pc = .ok (.newarray .int, 2)) (hn : pc + 2 = n)
    (k : ∀ (A' : Nat → Nat) (E' : Nat → va_E), (∀ i, i < N → A' i = A i) → (∀ i, i < N → E' i = E i) → E' N = eI G M → Z G X μ (a + 1) (b + M) (zV A' E' (N + 1)) n L (.ref (A' N) :: S)) : Z G X μ a b (zV A E N) pc L (.int x :: S) := by
  subst hn
  subst hx
  intro ok H locs ls hP hD hS hl
  have hw := ok.2.2.2.2.2.2.1
  obtain ⟨-, -, o3, o4, -⟩ := ok.2.2.2.2.2.2.2.2.2.2
  have hM2 : M < 2 ^ 31 := by omega
  refine va_newa (atype := .int) (ty := .int) (N' := M) (a0 := (M, .inl (fun _ => 0))) ok.1 ok.2.1 (hw _ ar_int) rfl ok.2.2.2.2.2.2.2.1 hP hD hS (fun q hq => Nat.le_trans ok.2.2.2.2.2.2.2.2.1 hq) (fun cA => by rw [vp_cell_i]; rfl) (nI_pos hM2) (nI_clamp hM2) (by show M * 4 ≤ _; omega) (Nat.le_trans ha o3) (Nat.le_trans hb o4) hd fun q cA H1 hK1 hP1 hD1 hS1 => ?_
  have e : cA = zcI G := Option.some.inj (((hK1.2 4 (cA, .int) rfl).2.symm).trans ((hK1.2 0 (zcI G, .int) rfl).2))
  subst e
  rw [zV_push] at hP1 hD1
  have := k _ _ (fun i hi => cU_n (Nat.ne_of_lt hi)) (fun i hi => cU_n (Nat.ne_of_lt hi)) cU_s ok H1 locs ls hP1 hD1 hS1 hl
  rw [cU_s] at this
  exact this
theorem c_newZ (n : Nat) {x : Int32} {M : Nat} (hx : x = nI M) (hM : M ≤ 1000) (ha : a + 1 ≤ zMk μ) (hb : b + M ≤ zMs μ) (hd : decode (zMc μ) pc = .ok (.newarray .boolean, 2)) (hn : pc + 2 = n)
    (k : ∀ (A' : Nat → Nat) (E' : Nat → va_E), (∀ i, i < N → A' i = A i) → (∀ i, i < N → E' i = E i) → E' N = eZ G M → Z G X μ (a + 1) (b + M) (zV A' E' (N + 1)) n L (.ref (A' N) :: S)) : Z G X μ a b (zV A E N) pc L (.int x :: S) := by
  subst hn
  subst hx
  intro ok H locs ls hP hD hS hl
  have hw := ok.2.2.2.2.2.2.1
  obtain ⟨-, -, o3, o4, -⟩ := ok.2.2.2.2.2.2.2.2.2.2
  have hM2 : M < 2 ^ 31 := by omega
  refine va_newa (atype := .boolean) (ty := .boolean) (N' := M) (a0 := (M, .inl (fun _ => 0))) ok.1 ok.2.1 (hw _ ar_bool) rfl ok.2.2.2.2.2.2.2.1 hP hD hS (fun q hq => Nat.le_trans ok.2.2.2.2.2.2.2.2.1 hq) (fun cA => by rw [vp_cell_i]; rfl) (nI_pos hM2) (nI_clamp hM2) (by show M * 1 ≤ _; omega) (Nat.le_trans ha o3) (Nat.le_trans hb o4) hd fun q cA H1 hK1 hP1 hD1 hS1 => ?_
  have e : cA = zcZ G := Option.some.inj (((hK1.2 4 (cA, .boolean) rfl).2.symm).trans ((hK1.2 1 (zcZ G, .boolean) rfl).2))
  subst e
  rw [zV_push] at hP1 hD1
  have := k _ _ (fun i hi => cU_n (Nat.ne_of_lt hi)) (fun i hi => cU_n (Nat.ne_of_lt hi)) cU_s ok H1 locs ls hP1 hD1 hS1 hl
  rw [cU_s] at this
  exact this
theorem ra_uniq {U : State} {c c' : ClassId} {C : String} (h : va_RA U c (.object C)) (h' : va_RA U c' (.object C)) : c = c' := by
  obtain ⟨k, d, -, -, -, h4⟩ := h
  obtain ⟨k', d', -, -, -, h4'⟩ := h'
  exact Option.some.inj (h4.symm.trans h4')
theorem c_newB (n : Nat) {x : Int32} {M idx : Nat} (hx : x = nI M) (hM : M ≤ 1000) (hc : Cond.classLink (zMo μ) idx "HueLease$Books" ∈ zws) (ha : a + 1 ≤ zMk μ) (hb : b + M ≤ zMs μ) (hd : decode (zMc μ) pc = .ok (.anewarray idx, 3)) (hn : pc + 3 = n)
    (k : ∀ (A' : Nat → Nat) (E' : Nat → va_E), (∀ i, i < N → A' i = A i) → (∀ i, i < N → E' i = E i) → E' N = eR (zcB G) M (fun _ => none) → Z G X μ (a + 1) (b + M) (zV A' E' (N + 1)) n L (.ref (A' N) :: S)) : Z G X μ a b (zV A E N) pc L (.int x :: S) := by
  subst hn
  subst hx
  intro ok H locs ls hP hD hS hl
  have hw := ok.2.2.2.2.2.2.1
  obtain ⟨-, -, o3, o4, -⟩ := ok.2.2.2.2.2.2.2.2.2.2
  have hM2 : M < 2 ^ 31 := by omega
  refine va_newq (N' := M) ok.1 ok.2.1 ok.2.2.2.2.1 (hw _ hc) ok.2.2.2.2.2.2.2.2.2.1.2.2.2.2.2.2.2.2.1 ok.2.2.2.2.2.2.2.1 hP hD hS (fun q hq => Nat.le_trans ok.2.2.2.2.2.2.2.2.1 hq) (nI_pos hM2) (nI_clamp hM2) (by omega) (Nat.le_trans ha o3) (Nat.le_trans hb o4) hd fun q cA H1 hK1 hP1 hD1 hS1 => ?_
  have e : cA = zcB G := ra_uniq (hK1.2 4 (cA, .object "HueLease$Books") rfl).2 (hK1.2 2 (zcB G, .object "HueLease$Books") rfl).2
  subst e
  rw [zV_push] at hP1 hD1
  have := k _ _ (fun i hi => cU_n (Nat.ne_of_lt hi)) (fun i hi => cU_n (Nat.ne_of_lt hi)) cU_s ok H1 locs ls hP1 hD1 hS1 hl
  rw [cU_s] at this
  exact this
theorem c_newS (n : Nat) {x : Int32} {M idx : Nat} (hx : x = nI M) (hM : M ≤ 1000) (hc : Cond.classLink (zMo μ) idx "HueLease$Sheet" ∈ zws) (ha : a + 1 ≤ zMk μ) (hb : b + M ≤ zMs μ) (hd : decode (zMc μ) pc = .ok (.anewarray idx, 3)) (hn : pc + 3 = n)
    (k : ∀ (A' : Nat → Nat) (E' : Nat → va_E), (∀ i, i < N → A' i = A i) → (∀ i, i < N → E' i = E i) → E' N = eR (zcS G) M (fun _ => none) → Z G X μ (a + 1) (b + M) (zV A' E' (N + 1)) n L (.ref (A' N) :: S)) : Z G X μ a b (zV A E N) pc L (.int x :: S) := by
  subst hn
  subst hx
  intro ok H locs ls hP hD hS hl
  have hw := ok.2.2.2.2.2.2.1
  obtain ⟨-, -, o3, o4, -⟩ := ok.2.2.2.2.2.2.2.2.2.2
  have hM2 : M < 2 ^ 31 := by omega
  refine va_newq (N' := M) ok.1 ok.2.1 ok.2.2.2.2.1 (hw _ hc) ok.2.2.2.2.2.2.2.2.2.1.2.2.2.2.2.2.2.2.2 ok.2.2.2.2.2.2.2.1 hP hD hS (fun q hq => Nat.le_trans ok.2.2.2.2.2.2.2.2.1 hq) (nI_pos hM2) (nI_clamp hM2) (by omega) (Nat.le_trans ha o3) (Nat.le_trans hb o4) hd fun q cA H1 hK1 hP1 hD1 hS1 => ?_
  have e : cA = zcS G := ra_uniq (hK1.2 4 (cA, .object "HueLease$Sheet") rfl).2 (hK1.2 3 (zcS G, .object "HueLease$Sheet") rfl).2
  subst e
  rw [zV_push] at hP1 hD1
  have := k _ _ (fun i hi => cU_n (Nat.ne_of_lt hi)) (fun i hi => cU_n (Nat.ne_of_lt hi)) cU_s ok H1 locs ls hP1 hD1 hS1 hl
  rw [cU_s] at this
  exact this
theorem c_obj (n : Nat) {idx q : Nat} (hl0 : Cond.methodLink (zMo μ) idx Lib.objectInit ∈ zws) (hm : 1 ≤ zMd μ) (hs : (S.map fun v => v.category).sum ≤ 8) (hd : decode (zMc μ) pc = .ok (.invokespecial idx, 3)) (hn : pc + 3 = n) (k : Z G X μ a b ws n L S) : Z G X μ a b ws pc L (.ref q :: S) := by
  subst hn
  intro ok H locs ls hP hD hS hl
  have hw := ok.2.2.2.2.2.2.1
  obtain ⟨o1, o2, -⟩ := ok.2.2.2.2.2.2.2.2.2.2
  have hr := lv_room (m := zXm X) (pc := pc) (ls := ls) (rest := .ref q :: S) hs
  exact W.objInit ok.1 ok.2.1 ok.2.2.2.2.1 (hw _ hl0) (hw _ ob_inst) (hw _ ob_code) rfl (hl.1.trans ok.2.2.2.1.symm) rfl hd (by omega) (by omega) (k ok H locs ls hP hD hS hl)
theorem c_putF (n r : Nat) {q idx ci j : Nat} {fs : List Value} {v : Value} {ty : FieldType} (hr : r < N) (hq : A r = q) (hE : E r = .inr (ci, fs)) (hf : zFldP (zMo μ) idx ci j ty true) (hk : zMk μ ≠ 0) (ho : zMo μ ≠ "HueLeaseLaw") (hnr : narrow ty v = v) (hft : fits ty v = true) (hj : j < fs.length) (hd : decode (zMc μ) pc = .ok (.putfield idx, 3)) (hn : pc + 3 = n)
    (k : ∀ E' : Nat → va_E, (∀ i, i ≠ r → E' i = E i) → E' r = .inr (ci, fs.set j v) → Z G X μ a b (zV A E' N) n L S) : Z G X μ a b (zV A E N) pc L (v :: .ref q :: S) := by
  subst hq
  refine z_putF n r ((zV_at hr).trans (by rw [hE])) hf hk ho hnr hft hj hd hn ?_
  rw [zV_set hr]
  exact k _ (fun i hi => cU_n hi) cU_s
theorem c_put (n r : Nat) {q idx ci j : Nat} {fs : List Value} {v : Value} {ty : FieldType} (hr : r < N) (hq : A r = q) (hE : E r = .inr (ci, fs)) (hf : zFldP (zMo μ) idx ci j ty false) (hnr : narrow ty v = v) (hft : fits ty v = true) (hj : j < fs.length) (hd : decode (zMc μ) pc = .ok (.putfield idx, 3)) (hn : pc + 3 = n)
    (k : ∀ E' : Nat → va_E, (∀ i, i ≠ r → E' i = E i) → E' r = .inr (ci, fs.set j v) → Z G X μ a b (zV A E' N) n L S) : Z G X μ a b (zV A E N) pc L (v :: .ref q :: S) := by
  subst hq
  refine z_put n r ((zV_at hr).trans (by rw [hE])) hf hnr hft hj hd hn ?_
  rw [zV_set hr]
  exact k _ (fun i hi => cU_n hi) cU_s
theorem c_get (n r : Nat) {q idx ci j : Nat} {fs : List Value} {v : Value} (hr : r < N) (hq : A r = q) (hE : E r = .inr (ci, fs)) (hf : zFld (zMo μ) idx ci j) (hv : fs[j]? = some v) (hd : decode (zMc μ) pc = .ok (.getfield idx, 3)) (hn : pc + 3 = n) (k : Z G X μ a b (zV A E N) n L (v :: S)) : Z G X μ a b (zV A E N) pc L (.ref q :: S) := by
  subst hq
  exact z_get n r ((zV_at hr).trans (by rw [hE])) hf hv hd hn k
theorem c_iast (n r j : Nat) {q M : Nat} {f : Nat → Int32} {i x : Int32} (hr : r < N) (hq : A r = q) (hE : E r = .inl (zcI G, M, .inl f)) (hi : i = nI j) (hj : j < M) (hM : M ≤ 1000) (hd : decode (zMc μ) pc = .ok (.iastore, 1)) (hn : pc + 1 = n)
    (k : ∀ E' : Nat → va_E, (∀ i, i ≠ r → E' i = E i) → E' r = .inl (zcI G, M, .inl (upd f j x)) → Z G X μ a b (zV A E' N) n L S) : Z G X μ a b (zV A E N) pc L (.int x :: .int i :: .ref q :: S) := by
  subst hq
  refine z_iast n r j ((zV_at hr).trans (by rw [hE])) hi hj (by omega) hd hn ?_
  rw [zV_set hr]
  exact k _ (fun i hi => cU_n hi) cU_s
theorem c_aast (n r j w t0 : Nat) {q M ci v : Nat} {cA : ClassId} {C : vw_C} {f : Nat → Option Nat} {fs : List Value} {i : Int32} (hr : r < N) (hq : A r = q) (hE : E r = eR cA M f) (ht : (zGt G)[t0]? = some (cA, .object C.1)) (hw : w < N) (hv : A w = v) (hEw : E w = .inr (ci, fs)) (hc : vwCl[ci]? = some C) (hi : i = nI j) (hj : j < M) (hM : M ≤ 1000) (hd : decode (zMc μ) pc = .ok (.aastore, 1)) (hn : pc + 1 = n)
    (k : ∀ E' : Nat → va_E, (∀ i, i ≠ r → E' i = E i) → E' r = eR cA M (va_up f j (some v)) → Z G X μ a b (zV A E' N) n L S) : Z G X μ a b (zV A E N) pc L (.ref v :: .int i :: .ref q :: S) := by
  subst hn; subst hi; subst hq; subst hv
  intro ok H locs ls hP hD hS hl
  have hM2 : M < 2 ^ 31 := by omega
  refine va_astq ok.1 ok.2.1 ok.2.2.2.2.2.2.2.1 hP hD hS r t0 w ci ((zV_at hr).trans (by rw [hE])) ht ((zV_at hw).trans (by rw [hEw])) hc (vp_in_nI hj hM2) hd ?_
  rw [nI_clamp (Nat.lt_trans hj hM2), zV_set hr]
  exact fun H1 locs1 hP1 hD1 hS1 => k _ (fun i hi => cU_n hi) cU_s ok H1 locs1 ls hP1 hD1 hS1 hl
end CW
/-- the numbers that stand at the start -/
def s0 (x : Nat) : Int32 :=
  if 64800 ≤ x ∧ x < 64807 then ([0, 5, 12, 17, 25, 28, 32] : List Int32).getD (x - 64800) 0
  else if 65200 ≤ x ∧ x < 65232 then ([112, 108, 97, 105, 110, 108, 97, 115, 116, 105, 110, 103, 114, 111, 121, 97, 108, 102, 117, 103, 105, 116, 105, 118, 101, 111, 110, 101, 108, 101, 110, 116] : List Int32).getD (x - 65200) 0
  else if 68000 ≤ x ∧ x < 68004 then -4
  else if x = 60001 ∨ x = 60801 ∨ x = 61601 ∨ x = 62401 then -1 else 0
theorem s0_0 {x : Nat} (h1 : ¬ (64800 ≤ x ∧ x < 64807)) (h2 : ¬ (65200 ≤ x ∧ x < 65232)) (h3 : ¬ (68000 ≤ x ∧ x < 68004)) (h4 : ¬ (x = 60001 ∨ x = 60801 ∨ x = 61601 ∨ x = 62401)) : s0 x = 0 := by
  rw [s0, if_neg h1, if_neg h2, if_neg h3, if_neg h4]
theorem s0_lo {x : Nat} (h : x < 60001) : s0 x = 0 := s0_0 (by omega) (by omega) (by omega) (by omega)
theorem s0_sz {i : Nat} (h : i < 4) : s0 (400 * (150 + 2 * i) + 1) = -1 := by
  have : i = 0 ∨ i = 1 ∨ i = 2 ∨ i = 3 := by omega
  rcases this with rfl | rfl | rfl | rfl <;> decide +kernel
def zDone (G : zG) (n : Nat) (A : Nat → Nat) (E : Nat → va_E) (k : Nat) : Prop := ∃ s : zS, zSh[k]? = some s ∧ (∀ q ∈ s.2.2.2, q.1 = true ∨ s.1 < 5 → q.2 < n) ∧ zEq (E k) (zE (zGw G A) s0 s)
theorem zE_ad {G : zG} {A A' : Nat → Nat} {σ : Nat → Int32} {s : zS} (h : ∀ q ∈ s.2.2.2, q.1 = true ∨ s.1 < 5 → A q.2 = A' q.2) : zE (zGw G A) σ s = zE (zGw G A') σ s := by
  obtain ⟨c, lo, n, sl⟩ := s
  have aux : c < 5 → (fun j : Nat => (sl[j]?).map (fun q => zGa (zGw G A) q.2)) = (fun j : Nat => (sl[j]?).map (fun q => zGa (zGw G A') q.2)) := by
    intro hc
    funext j
    cases hq : sl[j]? with
    | none => rfl
    | some q => exact congrArg some (h q (List.mem_of_getElem? hq) (Or.inr hc))
  match c, h, aux with
  | 0, _, _ => rfl
  | 1, _, _ => rfl
  | 2, _, _ => rfl
  | 3, _, aux => exact congrArg (fun f => (Sum.inl (zcB G, n, .inr (.inr (.inr (.inr f)))) : va_E)) (aux (by decide))
  | 4, _, aux => exact congrArg (fun f => (Sum.inl (zcS G, n, .inr (.inr (.inr (.inr f)))) : va_E)) (aux (by decide))
  | c + 5, h, _ =>
    show Sum.inr (c, sl.map _) = Sum.inr (c, sl.map _)
    congr 2
    refine List.map_congr_left fun q hq => ?_
    cases hq1 : q.1 with
    | true => simp only [if_true]; exact congrArg Value.ref (h q hq (Or.inl hq1))
    | false => rfl
theorem zDone.mono {G : zG} {n n' k : Nat} {A A' : Nat → Nat} {E E' : Nat → va_E} (h : zDone G n A E k) (hA : ∀ i, i < n → A' i = A i) (hE : E' k = E k) (hn : n ≤ n') : zDone G n' A' E' k := by
  obtain ⟨s, h1, h2, h3⟩ := h
  refine ⟨s, h1, fun q hq hq' => Nat.lt_of_lt_of_le (h2 q hq hq') hn, ?_⟩
  rw [hE, zE_ad (A := A') (A' := A) fun q hq hq' => hA _ (h2 q hq hq')]
  exact h3
theorem zDone.I {G : zG} {n k lo M : Nat} {A : Nat → Nat} {E : Nat → va_E} {f : Nat → Int32} (hs : zSh[k]? = some (0, lo, M, [])) (hE : E k = .inl (zcI G, M, .inl f)) (h0 : ∀ j, j < M → f j = s0 (lo + j)) : zDone G n A E k :=
  ⟨_, hs, fun q hq => (by cases hq), Or.inr ⟨zcI G, M, f, _, hE, rfl, h0⟩⟩
theorem zDone.L {G : zG} {n k lo : Nat} {A : Nat → Nat} {E : Nat → va_E} (hs : zSh[k]? = some (1, lo, 15, [])) (hE : E k = eI G 15) (h0 : ∀ j, j < 15 → s0 (lo + j) = 0) : zDone G n A E k :=
  ⟨_, hs, fun q hq => (by cases hq), Or.inr ⟨zcI G, 15, _, _, hE, rfl, fun j hj => (h0 _ (by omega)).symm⟩⟩
theorem zDone.Z {G : zG} {n k lo M : Nat} {A : Nat → Nat} {E : Nat → va_E} (hs : zSh[k]? = some (2, lo, M, [])) (hE : E k = eZ G M) (h0 : ∀ j, j < M → s0 (lo + j) = 0) : zDone G n A E k :=
  ⟨_, hs, fun q hq => (by cases hq), Or.inr ⟨zcZ G, M, _, _, hE, rfl, fun j hj => (h0 j hj).symm⟩⟩
theorem zDone.O {G : zG} {n k lo len ci : Nat} {sl : List (Bool × Nat)} {A : Nat → Nat} {E : Nat → va_E} (hs : zSh[k]? = some (ci + 5, lo, len, sl)) (hb : ∀ q ∈ sl, q.1 = true → q.2 < n) (hE : E k = .inr (ci, sl.map fun q => if q.1 then .ref (A q.2) else .int (s0 q.2))) : zDone G n A E k :=
  ⟨_, hs, fun q hq h => hb q hq (h.resolve_right (by show ¬ ci + 5 < 5; omega)), Or.inl hE⟩
theorem zDone.B {G : zG} {n k lo M : Nat} {sl : List (Bool × Nat)} {A : Nat → Nat} {E : Nat → va_E} {f : Nat → Option Nat} (hs : zSh[k]? = some (3, lo, M, sl)) (hb : ∀ q ∈ sl, q.2 < n) (hE : E k = eR (zcB G) M f) (hf : ∀ j, f j = (sl[j]?).map (fun q => A q.2)) : zDone G n A E k :=
  ⟨_, hs, fun q hq _ => hb q hq, Or.inl (hE.trans (by rw [show f = _ from funext hf]; rfl))⟩
theorem zDone.S {G : zG} {n k lo M : Nat} {sl : List (Bool × Nat)} {A : Nat → Nat} {E : Nat → va_E} {f : Nat → Option Nat} (hs : zSh[k]? = some (4, lo, M, sl)) (hb : ∀ q ∈ sl, q.2 < n) (hE : E k = eR (zcS G) M f) (hf : ∀ j, f j = (sl[j]?).map (fun q => A q.2)) : zDone G n A E k :=
  ⟨_, hs, fun q hq _ => hb q hq, Or.inl (hE.trans (by rw [show f = _ from funext hf]; rfl))⟩
/-- under way: what was there is as it was, what is made is done, but for the rows of Xs and the cell itself -/
def zI (G : zG) (A0 : Nat → Nat) (E0 : Nat → va_E) (n0 : Nat) (Xs : List Nat) (n : Nat) (A : Nat → Nat) (E : Nat → va_E) : Prop := n0 < n ∧ (∀ k, k ≤ n0 → A k = A0 k) ∧ (∀ k, k < n0 → E k = E0 k) ∧ ∀ k, n0 < k → k < n → ¬ k ∈ Xs → zDone G n A E k
theorem zI.rf {G : zG} {A : Nat → Nat} {E : Nat → va_E} {n0 : Nat} : zI G A E n0 [] (n0 + 1) A E := ⟨Nat.lt_succ_self _, fun _ _ => rfl, fun _ _ => rfl, fun k h1 h2 => by omega⟩
section ZI
variable {G : zG} {A0 A A' : Nat → Nat} {E0 E E' : Nat → va_E} {n0 n n' r : Nat} {Xs Ys : List Nat}
theorem zI.q (h : zI G A0 E0 n0 Xs n A E) : A n0 = A0 n0 := h.2.1 n0 (Nat.le_refl _)
theorem zI.put (h : zI G A0 E0 n0 Xs n A E) (g : ∀ i, i ≠ r → E' i = E i) (hr : r = n0 ∨ (n0 < r ∧ r ∈ Xs)) : zI G A0 E0 n0 Xs n A E' :=
  ⟨h.1, h.2.1, fun k hk => (g k (by omega)).trans (h.2.2.1 k hk), fun k h1 h2 h3 => (h.2.2.2 k h1 h2 h3).mono (fun _ _ => rfl) (g k (fun e => hr.elim (fun q => by omega) (fun q => h3 (e ▸ q.2)))) (Nat.le_refl _)⟩
theorem zI.ext (h : zI G A0 E0 n0 Xs n A E) (gA : ∀ i, i < n → A' i = A i) (gE : ∀ i, i < n → E' i = E i) (hn : n ≤ n') (hd : ∀ k, n ≤ k → k < n' → zDone G n' A' E' k) : zI G A0 E0 n0 Xs n' A' E' :=
  ⟨Nat.lt_of_lt_of_le h.1 hn, fun k hk => (gA k (by have := h.1; omega)).trans (h.2.1 k hk), fun k hk => (gE k (by have := h.1; omega)).trans (h.2.2.1 k hk), fun k h1 h2 h3 => by
    rcases Nat.lt_or_ge k n with q | q
    · exact (h.2.2.2 k h1 q h3).mono gA (gE k q) hn
    · exact hd k q h2⟩
theorem zI.arr (h : zI G A0 E0 n0 Xs n A E) (gA : ∀ i, i < n → A' i = A i) (gE : ∀ i, i < n → E' i = E i) (hd : zDone G (n + 1) A' E' n) : zI G A0 E0 n0 Xs (n + 1) A' E' :=
  h.ext gA gE (Nat.le_succ n) fun k h1 h2 => (show k = n by omega) ▸ hd
theorem zI.opn (h : zI G A0 E0 n0 Xs n A E) (gA : ∀ i, i < n → A' i = A i) (gE : ∀ i, i < n → E' i = E i) : zI G A0 E0 n0 (n :: Xs) (n + 1) A' E' :=
  ⟨Nat.lt_succ_of_lt h.1, fun k hk => (gA k (by have := h.1; omega)).trans (h.2.1 k hk), fun k hk => (gE k (by have := h.1; omega)).trans (h.2.2.1 k hk), fun k h1 h2 h3 => by
    have hne : k ≠ n := fun e => h3 (e ▸ List.mem_cons_self)
    have q : k < n := by omega
    exact (h.2.2.2 k h1 q (fun hm => h3 (List.mem_cons_of_mem _ hm))).mono gA (gE k q) (Nat.le_succ n)⟩
theorem zI.fin (h : zI G A0 E0 n0 Xs n A E) (hd : ∀ k ∈ Xs, ¬ k ∈ Ys → zDone G n A E k) : zI G A0 E0 n0 Ys n A E :=
  ⟨h.1, h.2.1, h.2.2.1, fun k h1 h2 h3 => by
    by_cases q : k ∈ Xs
    · exact hd k q h3
    · exact h.2.2.2 k h1 h2 q⟩
end ZI
/-- what a constructor does: the cells behind its own, in their order -/
def Cto (l : Launch) (y : MethodName) (μ : zM) (G : zG) (ci : Nat) (fs : List Value) (n m : Nat) : Prop := ∀ (A : Nat → Nat) (E : Nat → va_E), E n = .inr (ci, fs) → zMet l y μ [.ref (A n)] G (zV A E (n + 1)) (fun v w => v = none ∧ ∃ (A' : Nat → Nat) (E' : Nat → va_E), w = zV A' E' (n + m) ∧ (∀ k, k ≤ n → A' k = A k) ∧ (∀ k, k < n → E' k = E k) ∧ ∀ k, n ≤ k → k < n + m → zDone G (n + m) A' E' k)
theorem zI.post {G : zG} {A0 A : Nat → Nat} {E0 E : Nat → va_E} {n0 n m : Nat} (h : zI G A0 E0 n0 [] n A E) (hd : zDone G n A E n0) (hn : n = n0 + m) : (none : Option Value) = none ∧ ∃ (A' : Nat → Nat) (E' : Nat → va_E), zV A E n = zV A' E' (n0 + m) ∧ (∀ k, k ≤ n0 → A' k = A0 k) ∧ (∀ k, k < n0 → E' k = E0 k) ∧ ∀ k, n0 ≤ k → k < n0 + m → zDone G (n0 + m) A' E' k := by
  subst hn
  refine ⟨rfl, A, E, rfl, h.2.1, h.2.2.1, fun k h1 h2 => ?_⟩
  by_cases e : k = n0
  · exact e ▸ hd
  · exact h.2.2.2 k (by omega) h2 (fun q => by cases q)
section CM
variable {G : zG} {X : zX} {μ : zM} {a b : Nat} {pc : Nat} {L : List (Option Value)} {S : List Value} {A : Nat → Nat} {E : Nat → va_E} {N : Nat}
theorem Z.num {ws : va_W} {a' b' : Nat} (ha : a = a') (hb : b = b') (k : Z G X μ a' b' ws pc L S) : Z G X μ a b ws pc L S := by subst ha; subst hb; exact k
theorem c_mkN (n : Nat) {y : MethodName} {μ' : zM} {idx idy ci M m : Nat} {fs : List Value} (hC : Cto (zXl X) y μ' G ci fs N m) (hf : zNew (zMo μ) idx ci fs M) (hc : zCIN (zMo μ) idy y μ' 0) (hr : zRm μ' μ (a + 1) (b + M)) (hs : (S.map fun v => v.category).sum ≤ 7) (hd1 : decode (zMc μ) pc = .ok (.new idx, 3)) (hd2 : decode (zMc μ) (pc + 3) = .ok (.dup, 1)) (hd3 : decode (zMc μ) (pc + 4) = .ok (.invokespecial idy, 3)) (hn : pc + 7 = n)
    (k : ∀ (A' : Nat → Nat) (E' : Nat → va_E), (∀ i, i < N → A' i = A i) → (∀ i, i < N → E' i = E i) → (∀ k, N ≤ k → k < N + m → zDone G (N + m) A' E' k) → Z G X μ (a + 1 + zMk μ') (b + M + zMs μ') (zV A' E' (N + m)) n L (.ref (A' N) :: S)) : Z G X μ a b (zV A E N) pc L S := by
  subst hn
  obtain ⟨r1, r2, r3, r4⟩ := hr
  refine c_new (pc + 3) hf (by omega) (by omega) hd1 rfl fun A1 E1 g1 h1 e1 => ?_
  refine z_dup (pc + 4) hd2 rfl rfl ?_
  refine z_callIN (pc + 7) (As := []) (hC A1 E1 e1) hc ⟨r1, r2, r3, r4⟩ (by rw [List.map_cons, List.sum_cons]; show 1 + _ ≤ 8; omega) hd3 rfl rfl fun v ws' hp => ?_
  obtain ⟨rfl, A2, E2, rfl, g2, h2, d2⟩ := hp
  have := k A2 E2 (fun i hi => (g2 i (by omega)).trans (g1 i hi)) (fun i hi => (h2 i hi).trans (h1 i hi)) d2
  rw [g2 N (Nat.le_refl _)] at this
  exact this
theorem c_mkI (n : Nat) {y : MethodName} {μ' : zM} {idx idy ci M m : Nat} {fs : List Value} (hC : Cto (zXl X) y μ' G ci fs N m) (hf : zNew (zMo μ) idx ci fs M) (hc : zCI (zMo μ) idy y μ' 0) (hr : zRm μ' μ (a + 1) (b + M)) (hs : (S.map fun v => v.category).sum ≤ 7) (hd1 : decode (zMc μ) pc = .ok (.new idx, 3)) (hd2 : decode (zMc μ) (pc + 3) = .ok (.dup, 1)) (hd3 : decode (zMc μ) (pc + 4) = .ok (.invokespecial idy, 3)) (hn : pc + 7 = n)
    (k : ∀ (A' : Nat → Nat) (E' : Nat → va_E), (∀ i, i < N → A' i = A i) → (∀ i, i < N → E' i = E i) → (∀ k, N ≤ k → k < N + m → zDone G (N + m) A' E' k) → Z G X μ (a + 1 + zMk μ') (b + M + zMs μ') (zV A' E' (N + m)) n L (.ref (A' N) :: S)) : Z G X μ a b (zV A E N) pc L S := by
  subst hn
  obtain ⟨r1, r2, r3, r4⟩ := hr
  refine c_new (pc + 3) hf (by omega) (by omega) hd1 rfl fun A1 E1 g1 h1 e1 => ?_
  refine z_dup (pc + 4) hd2 rfl rfl ?_
  refine z_callI (pc + 7) (As := []) (hC A1 E1 e1) hc ⟨r1, r2, r3, r4⟩ (by rw [List.map_cons, List.sum_cons]; show 1 + _ ≤ 8; omega) hd3 rfl rfl fun v ws' hp => ?_
  obtain ⟨rfl, A2, E2, rfl, g2, h2, d2⟩ := hp
  have := k A2 E2 (fun i hi => (g2 i (by omega)).trans (g1 i hi)) (fun i hi => (h2 i hi).trans (h1 i hi)) d2
  rw [g2 N (Nat.le_refl _)] at this
  exact this
end CM
