/-! ===== what the two hold in common, between two questions of the law ===== -/
abbrev Al : Type := Pg × (Nat × (Nat → Nat)) × (Int32 × Int32) × (Nat × (Nat → Nat)) × ((Nat → Int32) × (Nat → Pg)) × (Sht × (Nat → Nat → Int32))
abbrev aN (α : Al) : Pg := α.1
abbrev aTn (α : Al) : Nat := α.2.1.1
abbrev aB (α : Al) : Nat → Nat := α.2.1.2
abbrev aF (α : Al) : Int32 := α.2.2.1.1
abbrev aT (α : Al) : Int32 := α.2.2.1.2
abbrev aSn (α : Al) : Nat := α.2.2.2.1.1
abbrev aS (α : Al) : Nat → Nat := α.2.2.2.1.2
abbrev aK (α : Al) : Nat → Int32 := α.2.2.2.2.1.1
abbrev aI (α : Al) : Nat → Pg := α.2.2.2.2.1.2
abbrev aH (α : Al) : Sht := α.2.2.2.2.2.1
abbrev aC (α : Al) : Nat → Nat → Int32 := α.2.2.2.2.2.2
def okPg (N : Pg) : Prop := okQ N ∧ okZ N ∧ N 53 < 1000 ∧ N 54 ≤ 20 * N 53
theorem okPg.s {N : Pg} (h : okPg N) : N 54 ≤ 1000000 := by have h1 := h.2.2.1; have h2 := h.2.2.2; omega
def okA (α : Al) : Prop := okPg (aN α) ∧ okT (aTn α) (aB α) ∧ okS (aSn α) (aS α) ∧ ∀ j, j < 2 → aK α j ≠ 0 → okPg (aI α j)
def JC (σ : Nat → Int32) (α : Al) : Prop := hdc σ 1 (aN α) ∧ hTa σ (aTn α) (aB α) ∧ σ (400 * 19 + 2) = aF α ∧ σ (400 * 0 + 11) = aT α ∧ hSC σ (aSn α) (aS α) ∧ (∀ j, j < 2 → σ (400 * 16 + 0 + j) = aK α j) ∧ (∀ j, j < 2 → aK α j ≠ 0 → hdc σ (108 + 7 * j) (aI α j)) ∧ hTC σ (aH α) ∧ (∀ j, j < 4 → ∀ i, i < 40 → σ (400 * (150 + 2 * j + 1) + 0 + i) = aC α j i) ∧ hdc σ 28 Z0
def JR (σ : Nat → Int32) (α : Al) : Prop := hdk σ 0 (aN α) ∧ hRa σ (aTn α) (aB α) ∧ σ (400 * 158 + 11) = aF α ∧ σ (400 * 158 + 32) = aT α ∧ hSR σ (aSn α) (aS α) ∧ (∀ j, j < 2 → σ (400 * 169 + 0 + j) = aK α j) ∧ (∀ j, j < 2 → aK α j ≠ 0 → hdk σ (55 * (j + 1)) (aI α j)) ∧ hTR σ (aH α) ∧ (∀ j, j < 4 → ∀ i, i < 40 → σ (400 * 172 + 0 + (40 * j + i)) = aC α j i) ∧ hCu σ
def JJ (σ : Nat → Int32) (α : Al) : Prop := okA α ∧ JC σ α ∧ JR σ α
def Inv (σ : Nat → Int32) : Prop := ∃ α : Al, JJ σ α
theorem scr_f {a : Nat} (h : (a < 3200 ∨ 3262 ≤ a) ∧ (a < 7200 ∨ 7600 ≤ a) ∧ a ≠ 7603 ∧ (a < 7606 ∨ 7610 < a) ∧ (a < 8400 ∨ 8800 ≤ a) ∧ (a < 15600 ∨ 42800 ≤ a) ∧ (a < 48800 ∨ 60000 ≤ a) ∧ (a < 63204 ∨ 63208 < a) ∧ (a < 63212 ∨ 63217 < a) ∧ a ≠ 63220 ∧ a ≠ 63222 ∧ (a < 63765 ∨ 64400 ≤ a) ∧ (a < 65600 ∨ 66800 ≤ a) ∧ (a < 67200 ∨ 67600 ≤ a)) : scr a = false := by
  simp only [scr, Bool.or_eq_false_iff, Bool.and_eq_false_iff, decide_eq_false_iff_not, beq_eq_false_iff_ne, ne_eq]
  omega
/-- two rows that agree but for what is scratch and for D -/
def ag (D : Nat → Prop) (σ' σ : Nat → Int32) : Prop := ∀ a, scr a = false → ¬ D a → σ' a = σ a
def aw (D : Nat → Prop) (lo n : Nat) : Prop := ∀ a, lo ≤ a → a < lo + n → ¬ D a
section FR
variable {σ σ' : Nat → Int32} {D : Nat → Prop}
theorem hdc_fr {r : Nat} {N : Pg} (h : hdc σ r N) (g : ag D σ' σ) (hs : ∀ i, i < 62 → scr (400 * r + i) = false) (hd : aw D (400 * r) 62) : hdc σ' r N := fun i hi => (g _ (hs i (by omega)) (hd _ (by omega) (by omega))).trans (h i hi)
theorem hTa_fr {tn : Nat} {B : Nat → Nat} (h : hTa σ tn B) (ht : tn ≤ 160) (g : ag D σ' σ) (hd : ¬ D 7601) (hd2 : aw D 8000 160) : hTa σ' tn B :=
  ⟨(g _ (by decide) hd).trans h.1, fun i hi => (g _ (scr_f (by omega)) (hd2 _ (by omega) (by omega))).trans (h.2 i hi)⟩
theorem hSC_fr {sn : Nat} {s : Nat → Nat} (h : hSC σ sn s) (hs : sn ≤ 6) (g : ag D σ' σ) (hd : aw D 14000 1600) : hSC σ' sn s :=
  ⟨(g _ (by decide) (hd _ (by omega) (by omega))).trans h.1, fun e he => ⟨(g _ (scr_f (by omega)) (hd _ (by omega) (by omega))).trans (h.2 e he).1, (g _ (scr_f (by omega)) (hd _ (by omega) (by omega))).trans (h.2 e he).2.1, (g _ (scr_f (by omega)) (hd _ (by omega) (by omega))).trans (h.2 e he).2.2⟩⟩
theorem hTC_fr {T : Sht} (h : hTC σ T) (g : ag D σ' σ) (hd : aw D 60000 3200) : hTC σ' T := fun j hj => by
  have h1 := h j hj
  rw [g (400 * (150 + 2 * j) + 1) (scr_f (by omega)) (hd _ (by omega) (by omega)), g (400 * (150 + 2 * j) + 0) (scr_f (by omega)) (hd _ (by omega) (by omega))]
  exact h1
theorem hdk_fr {o : Nat} {N : Pg} (h : hdk σ o N) (ho : o ≤ 110) (g : ag D σ' σ) (hd : aw D (63600 + o) 55) (h1 : ¬ D 63201) (h2 : ¬ D 63202) : hdk σ' o N := fun i hi => by
  refine (g _ ?_ ?_).trans (h i hi)
  · rcases hi with hi | rfl | rfl
    · rw [aR, if_pos hi]; exact scr_f (by omega)
    · exact (show scr 63201 = false by decide)
    · exact (show scr 63202 = false by decide)
  · rcases hi with hi | rfl | rfl
    · rw [aR, if_pos hi]; exact hd _ (by omega) (by omega)
    · exact h1
    · exact h2
theorem hRa_fr {tn : Nat} {B : Nat → Nat} (h : hRa σ tn B) (ht : tn ≤ 160) (g : ag D σ' σ) (hd : ¬ D 63210) (hd2 : aw D 64400 160) : hRa σ' tn B :=
  ⟨(g _ (by decide) hd).trans h.1, fun i hi => (g _ (scr_f (by omega)) (hd2 _ (by omega) (by omega))).trans (h.2 i hi)⟩
theorem hSR_fr {sn : Nat} {s : Nat → Nat} (h : hSR σ sn s) (hs : sn ≤ 6) (g : ag D σ' σ) (hd : ¬ D 63226) (hd2 : aw D 66800 18) : hSR σ' sn s :=
  ⟨(g _ (by decide) hd).trans h.1, fun e he => (g _ (scr_f (by omega)) (hd2 _ (by omega) (by omega))).trans (h.2 e he)⟩
theorem hTR_fr {T : Sht} (h : hTR σ T) (g : ag D σ' σ) (hd : aw D 68000 4) (hd2 : aw D 68400 4) : hTR σ' T := fun j hj => by
  have h1 := h j hj
  rw [g (400 * 170 + 0 + j) (scr_f (by omega)) (hd _ (by omega) (by omega)), g (400 * 171 + 0 + j) (scr_f (by omega)) (hd2 _ (by omega) (by omega))]
  exact h1
theorem hCu_fr (h : hCu σ) (g : ag D σ' σ) (hd : aw D 64800 7) (hd2 : aw D 65200 32) : hCu σ' :=
  ⟨fun i hi => (g _ (scr_f (by omega)) (hd _ (by omega) (by omega))).trans (h.1 i hi), fun i hi => (g _ (scr_f (by omega)) (hd2 _ (by omega) (by omega))).trans (h.2 i hi)⟩
theorem scr_bk {r i : Nat} (hr : r = 1 ∨ r = 28 ∨ r = 108 ∨ r = 115) (hi : i < 62) : scr (400 * r + i) = false := scr_f (by omega)
/-- nothing of the class's, of the reference's, was touched -/
theorem JC_fr {α : Al} (ok : okA α) (h : JC σ α) (g : ag (fun a => 63200 ≤ a) σ' σ) : JC σ' α := by
  obtain ⟨h1, h2, h3, h4, h5, h6, h7, h8, h9, h10⟩ := h
  have w : ∀ lo n, lo + n ≤ 63200 → aw (fun a => 63200 ≤ a) lo n := fun lo n hn a h1 h2 => by omega
  refine ⟨hdc_fr h1 g (fun i => scr_bk (by omega)) (w _ _ (by omega)), hTa_fr h2 ok.2.1.1 g (by omega) (w _ _ (by omega)), (g _ (by decide) (by omega)).trans h3, (g _ (by decide) (by omega)).trans h4, hSC_fr h5 ok.2.2.1.1 g (w _ _ (by omega)), fun j hj => (g _ (scr_f (by omega)) (by omega)).trans (h6 j hj), fun j hj hk => hdc_fr (h7 j hj hk) g (fun i => scr_bk (by omega)) (w _ _ (by omega)), hTC_fr h8 g (w _ _ (by omega)), fun j hj i hi => (g _ (scr_f (by omega)) (by omega)).trans (h9 j hj i hi), hdc_fr h10 g (fun i => scr_bk (by omega)) (w _ _ (by omega))⟩
theorem JR_fr {α : Al} (ok : okA α) (h : JR σ α) (g : ag (fun a => a < 63200) σ' σ) : JR σ' α := by
  obtain ⟨h1, h2, h3, h4, h5, h6, h7, h8, h9, h10⟩ := h
  have w : ∀ lo n, 63200 ≤ lo → aw (fun a => a < 63200) lo n := fun lo n hn a h1 h2 => by omega
  refine ⟨hdk_fr h1 (by omega) g (w _ _ (by omega)) (by omega) (by omega), hRa_fr h2 ok.2.1.1 g (by omega) (w _ _ (by omega)), (g _ (by decide) (by omega)).trans h3, (g _ (by decide) (by omega)).trans h4, hSR_fr h5 ok.2.2.1.1 g (by omega) (w _ _ (by omega)), fun j hj => (g _ (scr_f (by omega)) (by omega)).trans (h6 j hj), fun j hj hk => hdk_fr (h7 j hj hk) (by omega) g (w _ _ (by omega)) (by omega) (by omega), hTR_fr h8 g (w _ _ (by omega)) (w _ _ (by omega)), fun j hj i hi => (g _ (scr_f (by omega)) (by omega)).trans (h9 j hj i hi), hCu_fr h10 g (w _ _ (by omega)) (w _ _ (by omega))⟩
theorem ag.of_same (h : same σ' σ) : ag D σ' σ := fun a ha _ => h a ha
theorem JJ_same {α : Al} (h : JJ σ α) (g : same σ' σ) : JJ σ' α := ⟨h.1, JC_fr h.1 h.2.1 (ag.of_same g), JR_fr h.1 h.2.2 (ag.of_same g)⟩
end FR
/-- a question, to both -/
def Pr (l : Launch) (G : zG) (σ : Nat → Int32) (yx : MethodName) (mx : zM) (yr : MethodName) (mr : zM) (av : List Value) : Prop := ∃ (V : Int32) (P : Option Value → (Nat → Int32) → Prop), zMet l yx mx (.ref (zGa G 0) :: av) G (zW G σ) (zP G P) ∧ ∀ v σ1, P v σ1 → v = some (.int V) ∧ ∃ P2 : Option Value → (Nat → Int32) → Prop, zMet l yr mr (.ref (zGa G 158) :: av) G (zW G σ1) (zP G P2) ∧ ∀ v2 σ2, P2 v2 σ2 → v2 = some (.int V) ∧ Inv σ2
def PrL (l : Launch) (G : zG) (σ : Nat → Int32) (yx : MethodName) (mx : zM) (yr : MethodName) (mr : zM) (av : List Value) : Prop := ∃ (V : Int64) (P : Option Value → (Nat → Int32) → Prop), zMet l yx mx (.ref (zGa G 0) :: av) G (zW G σ) (zP G P) ∧ ∀ v σ1, P v σ1 → v = some (.long V) ∧ ∃ P2 : Option Value → (Nat → Int32) → Prop, zMet l yr mr (.ref (zGa G 158) :: av) G (zW G σ1) (zP G P2) ∧ ∀ v2 σ2, P2 v2 σ2 → v2 = some (.long V) ∧ Inv σ2
section PR
variable {l : Launch} {G : zG} {σ : Nat → Int32} {yx yr : MethodName} {mx mr : zM} {av : List Value}
theorem zFnP {y : MethodName} {m : zM} {as : List Value} {v : Option Value} {σ' : Nat → Int32} (h : zMet l y m as G (zW G σ) (zFn G v σ')) : zMet l y m as G (zW G σ) (zP G (fun v' τ => v' = v ∧ τ = σ')) := h.mono fun r w ⟨h1, h2⟩ => ⟨σ', ⟨h1, rfl⟩, h2⟩
theorem Pr.q {α : Al} {V : Int32} (J : JJ σ α) (hx : zMet l yx mx (.ref (zGa G 0) :: av) G (zW G σ) (zP G (pQ σ V))) (hr : ∀ τ, JJ τ α → zMet l yr mr (.ref (zGa G 158) :: av) G (zW G τ) (zP G (pQ τ V))) : Pr l G σ yx mx yr mr av :=
  ⟨V, _, hx, fun v σ1 h => ⟨h.1, _, hr σ1 (JJ_same J h.2), fun v2 σ2 h2 => ⟨h2.1, α, JJ_same (JJ_same J h.2) h2.2⟩⟩⟩
theorem Pr.ql {α : Al} {V : Int64} (J : JJ σ α) (hx : zMet l yx mx (.ref (zGa G 0) :: av) G (zW G σ) (zP G (pQL σ V))) (hr : ∀ τ, JJ τ α → zMet l yr mr (.ref (zGa G 158) :: av) G (zW G τ) (zP G (pQL τ V))) : PrL l G σ yx mx yr mr av :=
  ⟨V, _, hx, fun v σ1 h => ⟨h.1, _, hr σ1 (JJ_same J h.2), fun v2 σ2 h2 => ⟨h2.1, α, JJ_same (JJ_same J h.2) h2.2⟩⟩⟩
theorem Pr.n {α : Al} {V W : Int32} (J : JJ σ α) (hx : zMet l yx mx (.ref (zGa G 0) :: av) G (zW G σ) (zFn G (some (.int V)) σ)) (hr : zMet l yr mr (.ref (zGa G 158) :: av) G (zW G σ) (zFn G (some (.int W)) σ)) (e : V = W) : Pr l G σ yx mx yr mr av := by
  subst e
  refine ⟨V, _, zFnP hx, fun v σ1 h => ?_⟩
  obtain ⟨h1, rfl⟩ := h
  refine ⟨h1, _, zFnP hr, fun v2 σ2 h2 => ?_⟩
  obtain ⟨h3, rfl⟩ := h2
  exact ⟨h3, α, J⟩
/-- both change, each in its own part -/
theorem Pr.v {α β : Al} {V : Int32} {P : Option Value → (Nat → Int32) → Prop} (J : JJ σ α) (hβ : okA β) (hx : zMet l yx mx (.ref (zGa G 0) :: av) G (zW G σ) (zP G P)) (hP : ∀ v τ, P v τ → v = some (.int V) ∧ JC τ β ∧ ag (fun a => a < 63200) τ σ)
    (hr : ∀ τ, JR τ α → ∃ P2 : Option Value → (Nat → Int32) → Prop, zMet l yr mr (.ref (zGa G 158) :: av) G (zW G τ) (zP G P2) ∧ ∀ v τ', P2 v τ' → v = some (.int V) ∧ JR τ' β ∧ ag (fun a => 63200 ≤ a) τ' τ) : Pr l G σ yx mx yr mr av := by
  refine ⟨V, P, hx, fun v σ1 h => ?_⟩
  obtain ⟨h1, h2, h3⟩ := hP v σ1 h
  obtain ⟨P2, k1, k2⟩ := hr σ1 (JR_fr J.1 J.2.2 h3)
  refine ⟨h1, P2, k1, fun v2 σ2 hh => ?_⟩
  obtain ⟨q1, q2, q3⟩ := k2 v2 σ2 hh
  exact ⟨q1, β, hβ, JC_fr hβ h2 q3, q2⟩
end PR
