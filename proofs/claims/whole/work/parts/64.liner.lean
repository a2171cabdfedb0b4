/-! ===== lines: the reference ===== -/
def hRp (τ : Nat → Int32) (Q : Pg) : Prop := (∀ i, i < 55 → τ (400 * 160 + 0 + i) = nI (Q i)) ∧ τ (400 * 158 + 4) = nI (Q 56) ∧ τ (400 * 158 + 5) = nI (Q 57)
theorem hRp_upd {τ : Nat → Int32} {Q : Pg} {i v : Nat} (h : hRp τ Q) (hi : i < 55) : hRp (upd τ (400 * 160 + 0 + i) (nI v)) (un Q i v) := by
  refine ⟨fun j hj => ?_, ?_, ?_⟩
  · by_cases e : j = i
    · subst e; rw [pk_us, un_s]
    · rw [pk_un (by omega), un_n e]; exact h.1 j hj
  · rw [pk_un (by omega), un_n (by omega)]; exact h.2.1
  · rw [pk_un (by omega), un_n (by omega)]; exact h.2.2
theorem hRp.off {τ τ' : Nat → Int32} {Q : Pg} (h : hRp τ Q) (ho : offS τ' τ) : hRp τ' Q := ⟨fun i hi => (ho _ (by omega)).trans (h.1 i hi), (ho _ (by omega)).trans h.2.1, (ho _ (by omega)).trans h.2.2⟩
def offP (τ' τ : Nat → Int32) : Prop := ∀ a, (a < 63204 ∨ (63209 ≤ a ∧ a < 63212) ∨ (63218 ≤ a ∧ a < 64000) ∨ 64055 ≤ a) → τ' a = τ a
theorem offS.p {τ τ' : Nat → Int32} (h : offS τ' τ) : offP τ' τ := fun a ha => h a (by omega)
theorem offP.tr {τ τ' τ'' : Nat → Int32} (h : offP τ'' τ') (h2 : offP τ' τ) : offP τ'' τ := fun a ha => (h a ha).trans (h2 a ha)
theorem offP_upd {τ : Nat → Int32} {i : Nat} {x : Int32} (hi : i < 55) : offP (upd τ (400 * 160 + 0 + i) x) τ := fun a ha => pk_un (by omega)
theorem hRa.offp {τ τ' : Nat → Int32} {tn : Nat} {B : Nat → Nat} (h : hRa τ tn B) (ho : offP τ' τ) : hRa τ' tn B := ⟨(ho _ (by omega)).trans h.1, fun i hi => (ho _ (by omega)).trans (h.2 i hi)⟩
def mapA (r : Sum (Nat × Nat) Ln) : Sum (Nat × Nat) Nat := match r with
  | .inl q => .inl q
  | .inr (e, _, _) => .inr e
def colM (tn : Nat) (B : Nat → Nat) (e k : Nat) (Q : Pg) (T : Int32) : Sum (Nat × Nat) Ln := bnd' (numF tn B e 9) fun x0 => bnd' (numF tn B x0.2.2 9) fun x1 => bnd' (numF tn B x1.2.2 9) fun x2 => bnd' (numF tn B x2.2.2 99) fun x3 => .inr (x3.2.2, colQ Q k x0.1 x1.1 x2.1 x3.1, T)
def oneM (tn : Nat) (B : Nat → Nat) (e : Nat) (Q : Pg) (T : Int32) : Sum (Nat × Nat) Ln := bnd' (numF tn B e 99) fun x0 => bnd' (numF tn B x0.2.2 99) fun x1 => .inr (x1.2.2, oneQ Q x0.1 x1.1, T)
def lentM (tn : Nat) (B : Nat → Nat) (e : Nat) (Q : Pg) (T : Int32) : Sum (Nat × Nat) Ln := bnd' (numF tn B e 3) fun x0 => bnd' (numF tn B x0.2.2 4) fun x1 => if hb T (5 * x0.1 + x1.1) then .inl (4, x1.2.1) else bnd' (numF tn B x1.2.2 99) fun x2 => .inr (x2.2.2, un Q (33 + 5 * x0.1 + x1.1) x2.1, T ||| ((1 : Int32) <<< (nI (5 * x0.1 + x1.1) &&& 31)))
def stpL (tn : Nat) (B : Nat → Nat) (x : Ln) : Sum (Nat × Nat) Ln := bnd' (stopF tn B x.1) fun e4 => .inr (e4, x.2.1, x.2.2)
theorem bnd_a {α β γ : Type} {r : Sum (Nat × Nat) α} {f : α → Sum (Nat × Nat) β} {g : β → Sum (Nat × Nat) γ} : bnd' (bnd' r f) g = bnd' r (fun x => bnd' (f x) g) := by
  cases r <;> rfl
theorem col_st {tn : Nat} {B : Nat → Nat} {s e k : Nat} {Q : Pg} {T : Int32} (h : ¬ 5 ≤ Q 56) : colF tn B s e k Q T = bnd' (colM tn B e k Q T) (stpL tn B) := by
  rw [colF, if_neg h, colM]; simp only [bnd_a, bnd_r, stpL]
theorem one_st {tn : Nat} {B : Nat → Nat} {s e : Nat} {Q : Pg} {T : Int32} (h : ¬ 4 ≤ Q 57) : oneF tn B s e Q T = bnd' (oneM tn B e Q T) (stpL tn B) := by
  rw [oneF, if_neg h, oneM]; simp only [bnd_a, bnd_r, stpL]
theorem bnd_if {α β : Type} {p : Prop} [Decidable p] {q : Nat × Nat} {r : Sum (Nat × Nat) α} {g : α → Sum (Nat × Nat) β} : bnd' (if p then .inl q else r) g = if p then .inl q else bnd' r g := by
  split <;> rfl
theorem lent_st {tn : Nat} {B : Nat → Nat} {e : Nat} {Q : Pg} {T : Int32} : lentF tn B e Q T = bnd' (lentM tn B e Q T) (stpL tn B) := by
  rw [lentF, lentM]; simp only [bnd_a, bnd_r, bnd_if, stpL]
/-- the highest that was told, and 1; 0: none -/
def hiO (T : Int32) (o : Nat) : Prop := o ≤ 4 ∧ (∀ p c, p < 4 → c < 5 → hb T (5 * p + c) → p < o) ∧ (o ≠ 0 → ∃ c, c < 5 ∧ hb T (5 * (o - 1) + c))
def hiC (T : Int32) (o : Nat) : Prop := o ≤ 5 ∧ (∀ p c, p < 4 → c < 5 → hb T (5 * p + c) → c < o) ∧ (o ≠ 0 → ∃ p, p < 4 ∧ hb T (5 * p + (o - 1)))
theorem hiO_or {T : Int32} {o p c : Nat} (h : hiO T o) (hp : p < 4) (hc : c < 5) : hiO (T ||| ((1 : Int32) <<< (nI (5 * p + c) &&& 31))) (max o (p + 1)) := by
  obtain ⟨h1, h2, h3⟩ := h
  refine ⟨by omega, fun p' c' hp' hc' hb' => ?_, fun _ => ?_⟩
  · rcases (hb_or (by omega) (by omega)).mp hb' with z | z
    · have := h2 p' c' hp' hc' z; omega
    · omega
  · by_cases q : o ≤ p + 1
    · refine ⟨c, hc, (hb_or (by omega) (by omega)).mpr (Or.inr (by omega))⟩
    · obtain ⟨c', hc', z⟩ := h3 (by omega)
      refine ⟨c', hc', (hb_or (by omega) (by omega)).mpr (Or.inl ?_)⟩
      rw [show max o (p + 1) - 1 = o - 1 by omega]; exact z
theorem hiC_or {T : Int32} {o p c : Nat} (h : hiC T o) (hp : p < 4) (hc : c < 5) : hiC (T ||| ((1 : Int32) <<< (nI (5 * p + c) &&& 31))) (max o (c + 1)) := by
  obtain ⟨h1, h2, h3⟩ := h
  refine ⟨by omega, fun p' c' hp' hc' hb' => ?_, fun _ => ?_⟩
  · rcases (hb_or (by omega) (by omega)).mp hb' with z | z
    · have := h2 p' c' hp' hc' z; omega
    · omega
  · by_cases q : o ≤ c + 1
    · refine ⟨p, hp, (hb_or (by omega) (by omega)).mpr (Or.inr (by omega))⟩
    · obtain ⟨p', hp', z⟩ := h3 (by omega)
      refine ⟨p', hp', (hb_or (by omega) (by omega)).mpr (Or.inl ?_)⟩
      rw [show max o (c + 1) - 1 = o - 1 by omega]; exact z
/-- all that the reference knows of what was told -/
def hTd (τ : Nat → Int32) (Q : Pg) (T : Int32) : Prop := hRp τ Q ∧ τ (400 * 158 + 6) = T ∧ ∃ o o2, hiO T o ∧ hiC T o2 ∧ τ (400 * 158 + 7) = nI o - 1 ∧ τ (400 * 158 + 8) = nI o2 - 1
theorem hTd.off {τ τ' : Nat → Int32} {Q : Pg} {T : Int32} (h : hTd τ Q T) (ho : offS τ' τ) : hTd τ' Q T := by
  obtain ⟨h1, h2, o, o2, h3, h4, h5, h6⟩ := h
  exact ⟨h1.off ho, (ho _ (by omega)).trans h2, o, o2, h3, h4, (ho _ (by omega)).trans h5, (ho _ (by omega)).trans h6⟩
theorem hTd_upd {τ : Nat → Int32} {Q : Pg} {T : Int32} {i v : Nat} (h : hTd τ Q T) (hi : i < 55) : hTd (upd τ (400 * 160 + 0 + i) (nI v)) (un Q i v) T := by
  obtain ⟨h1, h2, o, o2, h3, h4, h5, h6⟩ := h
  exact ⟨hRp_upd h1 hi, (pk_un (by omega)).trans h2, o, o2, h3, h4, (pk_un (by omega)).trans h5, (pk_un (by omega)).trans h6⟩
theorem PS_upd {tn : Nat} {B : Nat → Nat} {τ : Nat → Int32} {r : Sum (Nat × Nat) Nat} {i : Nat} {x : Int32} (h : PS tn B τ r) (hi : i < 63212 ∨ 63218 ≤ i) : PS tn B (upd τ i x) r := PS_off h (fun a h1 h2 => pk_un (by omega))
theorem hRa_upd {tn : Nat} {B : Nat → Nat} {τ : Nat → Int32} {i : Nat} {x : Int32} (h : hRa τ tn B) (hi : i ≠ 63210 ∧ (i < 64400 ∨ 64560 ≤ i)) (h6 : tn ≤ 160) : hRa (upd τ i x) tn B := ⟨(pk_un (by omega)).trans h.1, fun j hj => (pk_un (by omega)).trans (h.2 j hj)⟩
set_option maxRecDepth 100000 in
set_option maxHeartbeats 4000000 in
theorem c_readColour7 {l : Launch} {G : zG} {τ : Nat → Int32} {tn e k : Nat} {B : Nat → Nat} {Q : Pg} {T : Int32} (hT : hRa τ tn B) (ok : okT tn B) (he : e ≤ tn) (hP : PS tn B τ (.inr e)) (hD : hTd τ Q T) (hq5 : Q 56 < 5) : zMet l yX7_readColour mX7_readColour [.ref (zGa G 158), .int (nI k)] G (zW G τ) (zP G (fun v τ' => v = none ∧ PS tn B τ' (mapA (colM tn B e k Q T)) ∧ (∀ x, colM tn B e k Q T = .inr x → hTd τ' x.2.1 x.2.2) ∧ offP τ' τ)) := by
  have h6 := ok.1
  obtain ⟨c, hc⟩ : ∃ c, c = Q 56 := ⟨_, rfl⟩
  have rc : τ (400 * 158 + 4) = nI c := by rw [hc]; exact hD.1.2.1
  refine zMet.of (by decide) rfl (Nat.le_of_ble_eq_true rfl) (Or.inr rfl) fun X hX hq => ?_
  subst hX
  show Y G X mX7_readColour τ 0 [some (.ref (zGa G 158)), some (.int (nI k)), none] []
  refine z_aload_n 1 dX7_readColour_0 rfl rfl ?_
  refine y_get 4 _ sh158 rfl fl_X7_100 dX7_readColour_1 rfl ?_
  rw [rc]
  refine z_istore_n 5 [_, _, _] dX7_readColour_4 (by decide) rfl rfl rfl ?_
  refine z_aload_n 6 dX7_readColour_5 rfl rfl ?_
  refine y_getr 9 _ sh158 rfl fl_X7_13 dX7_readColour_6 rfl ?_
  refine z_iload_n 10 dX7_readColour_9 rfl rfl ?_
  refine z_iload_n 11 dX7_readColour_10 rfl rfl ?_
  refine y_st 12 _ c sh160 rfl (by omega) (by omega) dX7_readColour_11 rfl ?_
  skip
  have t0 := hTd_upd (v := k) hD (show c < 55 by omega)
  have P0 := PS_upd (x := nI k) hP (show 400 * 160 + 0 + c < 63212 ∨ 63218 ≤ 400 * 160 + 0 + c by omega)
  have a0 := hRa_upd (x := nI k) hT (show 400 * 160 + 0 + c ≠ 63210 ∧ (400 * 160 + 0 + c < 64400 ∨ 64560 ≤ 400 * 160 + 0 + c) by omega) h6
  have o0 : offP (upd τ (400 * 160 + 0 + c) (nI k)) τ := offP_upd (by omega)
  have k0 : upd τ (400 * 160 + 0 + c) (nI k) (400 * 158 + 4) = nI c := (pk_un (by omega)).trans rc
  have ok0 : okR tn (.inr e) := he
  generalize upd τ (400 * 160 + 0 + c) (nI k) = τ0 at t0 P0 a0 o0 k0
  have cn0 := c_number (l := zXl X) (G := G) (most := 9) a0 ok ok0 P0 (by decide)
  have ok1 := okR_num (B := B) (most := 9) ok0
  generalize hx0 : numR tn B (.inr e) 9 = x0 at cn0 ok1
  refine z_aload_n 13 dX7_readColour_12 rfl rfl ?_
  refine y_getr 16 _ sh158 rfl fl_X7_13 dX7_readColour_13 rfl ?_
  refine z_iconst 17 dX7_readColour_16 vi5 rfl ?_
  refine z_iload_n 18 dX7_readColour_17 rfl rfl ?_
  refine z_iaddN 19 (show (5 : Int32) = nI 5 from rfl) rfl dX7_readColour_18 rfl ?_
  refine z_aload_n 20 dX7_readColour_19 rfl rfl ?_
  refine z_iconst 21 dX7_readColour_20 vi0 rfl ?_
  refine z_bipush 23 dX7_readColour_21 vb9 rfl ?_
  refine y_cVP 26 _ (cn0) sh158 cv_X7_103 ⟨by decide, by decide, rfl, rfl⟩ (Nat.le_of_ble_eq_true rfl) dX7_readColour_23 rfl rfl (fun v23 σ23 hp23 => ?_)
  obtain ⟨rfl, g1, g2⟩ := hp23
  show Y G X mX7_readColour _ 26 _ [.int _, .int _, .ref _]
  skip
  have t1 := hTd_upd (v := valN x0) (t0.off g2) (show 5 + c < 55 by omega)
  have P1 := PS_upd (x := nI (valN x0)) g1 (show 400 * 160 + 0 + (5 + c) < 63212 ∨ 63218 ≤ 400 * 160 + 0 + (5 + c) by omega)
  have a1 := hRa_upd (x := nI (valN x0)) (a0.off g2 h6) (show 400 * 160 + 0 + (5 + c) ≠ 63210 ∧ (400 * 160 + 0 + (5 + c) < 64400 ∨ 64560 ≤ 400 * 160 + 0 + (5 + c)) by omega) h6
  have o1 : offP (upd σ23 (400 * 160 + 0 + (5 + c)) (nI (valN x0))) τ := (offP_upd (by omega)).tr (g2.p.tr o0)
  have k1 : upd σ23 (400 * 160 + 0 + (5 + c)) (nI (valN x0)) (400 * 158 + 4) = nI c := (pk_un (by omega)).trans ((g2 _ (by omega)).trans k0)
  refine y_st 27 _ (5 + c) sh160 rfl (by omega) (by omega) dX7_readColour_26 rfl ?_
  skip
  generalize upd σ23 (400 * 160 + 0 + (5 + c)) (nI (valN x0)) = τ1 at t1 P1 a1 o1 k1
  have cn1 := c_number (l := zXl X) (G := G) (most := 9) a1 ok ok1.1 P1 (by decide)
  have ok2 := okR_num (B := B) (most := 9) ok1.1
  generalize hx1 : numR tn B (aftN x0) 9 = x1 at cn1 ok2
  refine z_aload_n 28 dX7_readColour_27 rfl rfl ?_
  refine y_getr 31 _ sh158 rfl fl_X7_13 dX7_readColour_28 rfl ?_
  refine z_bipush 33 dX7_readColour_31 vb10 rfl ?_
  refine z_iload_n 34 dX7_readColour_33 rfl rfl ?_
  refine z_iaddN 35 (show (10 : Int32) = nI 10 from rfl) rfl dX7_readColour_34 rfl ?_
  refine z_aload_n 36 dX7_readColour_35 rfl rfl ?_
  refine z_iconst 37 dX7_readColour_36 vi0 rfl ?_
  refine z_bipush 39 dX7_readColour_37 vb9 rfl ?_
  refine y_cVP 42 _ (cn1) sh158 cv_X7_103 ⟨by decide, by decide, rfl, rfl⟩ (Nat.le_of_ble_eq_true rfl) dX7_readColour_39 rfl rfl (fun v39 σ39 hp39 => ?_)
  obtain ⟨rfl, g1, g2⟩ := hp39
  show Y G X mX7_readColour _ 42 _ [.int _, .int _, .ref _]
  skip
  have t2 := hTd_upd (v := valN x1) (t1.off g2) (show 10 + c < 55 by omega)
  have P2 := PS_upd (x := nI (valN x1)) g1 (show 400 * 160 + 0 + (10 + c) < 63212 ∨ 63218 ≤ 400 * 160 + 0 + (10 + c) by omega)
  have a2 := hRa_upd (x := nI (valN x1)) (a1.off g2 h6) (show 400 * 160 + 0 + (10 + c) ≠ 63210 ∧ (400 * 160 + 0 + (10 + c) < 64400 ∨ 64560 ≤ 400 * 160 + 0 + (10 + c)) by omega) h6
  have o2 : offP (upd σ39 (400 * 160 + 0 + (10 + c)) (nI (valN x1))) τ := (offP_upd (by omega)).tr (g2.p.tr o1)
  have k2 : upd σ39 (400 * 160 + 0 + (10 + c)) (nI (valN x1)) (400 * 158 + 4) = nI c := (pk_un (by omega)).trans ((g2 _ (by omega)).trans k1)
  refine y_st 43 _ (10 + c) sh160 rfl (by omega) (by omega) dX7_readColour_42 rfl ?_
  skip
  generalize upd σ39 (400 * 160 + 0 + (10 + c)) (nI (valN x1)) = τ2 at t2 P2 a2 o2 k2
  have cn2 := c_number (l := zXl X) (G := G) (most := 9) a2 ok ok2.1 P2 (by decide)
  have ok3 := okR_num (B := B) (most := 9) ok2.1
  generalize hx2 : numR tn B (aftN x1) 9 = x2 at cn2 ok3
  refine z_aload_n 44 dX7_readColour_43 rfl rfl ?_
  refine y_getr 47 _ sh158 rfl fl_X7_13 dX7_readColour_44 rfl ?_
  refine z_bipush 49 dX7_readColour_47 vb15 rfl ?_
  refine z_iload_n 50 dX7_readColour_49 rfl rfl ?_
  refine z_iaddN 51 (show (15 : Int32) = nI 15 from rfl) rfl dX7_readColour_50 rfl ?_
  refine z_aload_n 52 dX7_readColour_51 rfl rfl ?_
  refine z_iconst 53 dX7_readColour_52 vi0 rfl ?_
  refine z_bipush 55 dX7_readColour_53 vb9 rfl ?_
  refine y_cVP 58 _ (cn2) sh158 cv_X7_103 ⟨by decide, by decide, rfl, rfl⟩ (Nat.le_of_ble_eq_true rfl) dX7_readColour_55 rfl rfl (fun v55 σ55 hp55 => ?_)
  obtain ⟨rfl, g1, g2⟩ := hp55
  show Y G X mX7_readColour _ 58 _ [.int _, .int _, .ref _]
  skip
  have t3 := hTd_upd (v := valN x2) (t2.off g2) (show 15 + c < 55 by omega)
  have P3 := PS_upd (x := nI (valN x2)) g1 (show 400 * 160 + 0 + (15 + c) < 63212 ∨ 63218 ≤ 400 * 160 + 0 + (15 + c) by omega)
  have a3 := hRa_upd (x := nI (valN x2)) (a2.off g2 h6) (show 400 * 160 + 0 + (15 + c) ≠ 63210 ∧ (400 * 160 + 0 + (15 + c) < 64400 ∨ 64560 ≤ 400 * 160 + 0 + (15 + c)) by omega) h6
  have o3 : offP (upd σ55 (400 * 160 + 0 + (15 + c)) (nI (valN x2))) τ := (offP_upd (by omega)).tr (g2.p.tr o2)
  have k3 : upd σ55 (400 * 160 + 0 + (15 + c)) (nI (valN x2)) (400 * 158 + 4) = nI c := (pk_un (by omega)).trans ((g2 _ (by omega)).trans k2)
  refine y_st 59 _ (15 + c) sh160 rfl (by omega) (by omega) dX7_readColour_58 rfl ?_
  skip
  generalize upd σ55 (400 * 160 + 0 + (15 + c)) (nI (valN x2)) = τ3 at t3 P3 a3 o3 k3
  have cn3 := c_number (l := zXl X) (G := G) (most := 99) a3 ok ok3.1 P3 (by decide)
  generalize hx3 : numR tn B (aftN x2) 99 = x3 at cn3
  refine z_aload_n 60 dX7_readColour_59 rfl rfl ?_
  refine y_getr 63 _ sh158 rfl fl_X7_13 dX7_readColour_60 rfl ?_
  refine z_bipush 65 dX7_readColour_63 vb20 rfl ?_
  refine z_iload_n 66 dX7_readColour_65 rfl rfl ?_
  refine z_iaddN 67 (show (20 : Int32) = nI 20 from rfl) rfl dX7_readColour_66 rfl ?_
  refine z_aload_n 68 dX7_readColour_67 rfl rfl ?_
  refine z_iconst 69 dX7_readColour_68 vi0 rfl ?_
  refine z_bipush 71 dX7_readColour_69 vb99 rfl ?_
  refine y_cVP 74 _ (cn3) sh158 cv_X7_103 ⟨by decide, by decide, rfl, rfl⟩ (Nat.le_of_ble_eq_true rfl) dX7_readColour_71 rfl rfl (fun v71 σ71 hp71 => ?_)
  obtain ⟨rfl, g1, g2⟩ := hp71
  show Y G X mX7_readColour _ 74 _ [.int _, .int _, .ref _]
  skip
  have t4 := hTd_upd (v := valN x3) (t3.off g2) (show 20 + c < 55 by omega)
  have P4 := PS_upd (x := nI (valN x3)) g1 (show 400 * 160 + 0 + (20 + c) < 63212 ∨ 63218 ≤ 400 * 160 + 0 + (20 + c) by omega)
  have o4 : offP (upd σ71 (400 * 160 + 0 + (20 + c)) (nI (valN x3))) τ := (offP_upd (by omega)).tr (g2.p.tr o3)
  have k4 : upd σ71 (400 * 160 + 0 + (20 + c)) (nI (valN x3)) (400 * 158 + 4) = nI c := (pk_un (by omega)).trans ((g2 _ (by omega)).trans k3)
  refine y_st 75 _ (20 + c) sh160 rfl (by omega) (by omega) dX7_readColour_74 rfl ?_
  skip
  generalize upd σ71 (400 * 160 + 0 + (20 + c)) (nI (valN x3)) = τ4 at t4 P4 o4 k4
  have eM : mapA (colM tn B e k Q T) = aftN x3 ∧ ∀ x, colM tn B e k Q T = .inr x → x = (x.1, colQ Q k (valN x0) (valN x1) (valN x2) (valN x3), T) := by
    rw [colM, show numF tn B e 9 = x0 from hx0]
    cases x0 with
    | inl q => subst hx1; subst hx2; subst hx3; exact ⟨rfl, fun x hx => by cases hx⟩
    | inr q =>
      obtain ⟨v0, s0, e0⟩ := q
      rw [bnd_r]; dsimp only
      rw [show numF tn B e0 9 = x1 from hx1]
      cases x1 with
      | inl q => subst hx2; subst hx3; exact ⟨rfl, fun x hx => by cases hx⟩
      | inr q =>
        obtain ⟨v1, s1, e1⟩ := q
        rw [bnd_r]; dsimp only
        rw [show numF tn B e1 9 = x2 from hx2]
        cases x2 with
        | inl q => subst hx3; exact ⟨rfl, fun x hx => by cases hx⟩
        | inr q =>
          obtain ⟨v2, s2, e2⟩ := q
          rw [bnd_r]; dsimp only
          rw [show numF tn B e2 99 = x3 from hx3]
          cases x3 with
          | inl q => exact ⟨rfl, fun x hx => by cases hx⟩
          | inr q =>
            obtain ⟨v3, s3, e3⟩ := q
            exact ⟨rfl, fun x hx => by cases hx; rfl⟩
  have eQ : un (un (un (un (un (un Q c k) (5 + c) (valN x0)) (10 + c) (valN x1)) (15 + c) (valN x2)) (20 + c) (valN x3)) 56 (c + 1) = colQ Q k (valN x0) (valN x1) (valN x2) (valN x3) := by
    rw [colQ, ← hc]
    rw [un_co (i := 20 + c) (j := 56) (by omega), un_co (i := 15 + c) (j := 56) (by omega), un_co (i := 10 + c) (j := 56) (by omega), un_co (i := 5 + c) (j := 56) (by omega), un_co (i := c) (j := 56) (by omega)]
  refine z_aload_n 76 dX7_readColour_75 rfl rfl ?_
  refine z_dup 77 dX7_readColour_76 rfl rfl ?_
  refine y_get 80 _ sh158 rfl fl_X7_100 dX7_readColour_77 rfl ?_
  rw [k4]
  refine z_iconst 81 dX7_readColour_80 vi1 rfl ?_
  refine z_iaddN 82 rfl (show (1 : Int32) = nI 1 from rfl) dX7_readColour_81 rfl ?_
  refine y_putI 85 _ sh158 rfl fp_X7_100 dX7_readColour_82 rfl ?_
  skip
  refine z_vret hq rfl dX7_readColour_85 rfl rfl ⟨upd τ4 (400 * 158 + 4) (nI (c + 1)), ⟨rfl, ?_, fun x hx => ?_, fun a ha => (pk_un (by omega)).trans (o4 a ha)⟩, rfl⟩
  · rw [eM.1]; exact PS_upd P4 (by omega)
  · rw [eM.2 x hx]
    show hTd _ (colQ Q k (valN x0) (valN x1) (valN x2) (valN x3)) T
    obtain ⟨⟨q1, q2, q3⟩, q4, o, o2, q5, q6, q7, q8⟩ := t4
    rw [← eQ]
    refine ⟨⟨fun i hi => ?_, by rw [pk_us, un_s], ?_⟩, (pk_un (by omega)).trans q4, o, o2, q5, q6, (pk_un (by omega)).trans q7, (pk_un (by omega)).trans q8⟩
    · rw [pk_un (by omega), un_n (by omega)]; exact q1 i hi
    · rw [pk_un (by omega), un_n (by omega)]; exact q3

