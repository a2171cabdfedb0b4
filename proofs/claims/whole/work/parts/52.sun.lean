/-! ===== sunny days ===== -/
theorem lgc_eq {x y : Int64} : lg_cmp x y = 0 ↔ x = y := by
  constructor
  · intro e
    have h1 : ¬ x < y := fun q => by have := lgc_lt.mpr q; rw [e] at this; exact absurd this (by decide)
    have h2 : ¬ y < x := fun q => by have := lgc_gt.mpr q; rw [e] at this; exact absurd this (by decide)
    rw [Int64.lt_iff_toInt_lt] at h1 h2
    exact Int64.toInt_inj.mp (by omega)
  · rintro rfl
    have h1 : ¬ lg_cmp x x < 0 := fun q => by have := lgc_lt.mp q; rw [Int64.lt_iff_toInt_lt] at this; omega
    have h2 : ¬ (0 : Int32) < lg_cmp x x := fun q => by have := lgc_gt.mp q; rw [Int64.lt_iff_toInt_lt] at this; omega
    rw [Int32.lt_iff_toInt_lt] at h1 h2
    have e0 : (0 : Int32).toInt = 0 := rfl
    exact Int32.toInt_inj.mp (by omega)
def stp (p : Option Nat) (Q : Pg) (t : Nat) : Pg := match p with
  | none => dayA Q t
  | some p => dayO Q p t
def lk (p : Option Nat) (h : Nat) (Q : Pg) : Nat := match p with
  | none => heldA Q
  | some p => if hueQ Q p = h then 1 else 0
def sm (v : Nat) (p : Option Nat) (h : Nat) : Nat → Pg → Nat
  | 0, Q => lk p h Q
  | k + 1, Q => v * sm v p h k (stp p Q 2) + (10 - v) * sm v p h k (stp p Q 1)
def okp (p : Option Nat) : Prop := ∀ q, p = some q → q < 4
def okzp (p : Option Nat) (Q : Pg) : Prop := p = none → okZ Q
theorem stp_c {p : Option Nat} {Q R : Pg} {t : Nat} (e : eqc Q R) (ok : okQ R) (op : okp p) : eqc (stp p Q t) (stp p R t) := by
  cases p with
  | none => exact dayA_c e ok
  | some q => exact dayO_c e (op q rfl) ok.nc
theorem lk_c {p : Option Nat} {h : Nat} {Q R : Pg} (e : eqc Q R) (ok : okQ R) (op : okp p) : lk p h Q = lk p h R := by
  cases p with
  | none => exact heldA_c e ok.nc ok.np
  | some q => simp only [lk]; rw [hueQ_c e ok.nc (op q rfl)]
theorem okQ_stp {p : Option Nat} {Q : Pg} {t : Nat} (ok : okQ Q) (op : okp p) : okQ (stp p Q t) := by
  cases p with
  | none => exact okQ_un (okQ_ones ok _ ok.np) (fun h => by omega)
  | some q => exact okQ_dayO ok (op q rfl)
theorem okzp_stp {p : Option Nat} {Q : Pg} {t : Nat} (oz : okzp p Q) (ok : okQ Q) : okzp p (stp p Q t) := by
  intro e; subst e; exact okZ_dayA (oz rfl) ok
theorem sm_c {v h : Nat} {p : Option Nat} (op : okp p) : ∀ k {Q R : Pg}, eqc Q R → okQ R → sm v p h k Q = sm v p h k R
  | 0, _, _, e, ok => lk_c e ok op
  | k + 1, _, _, e, ok => by rw [sm, sm, sm_c op k (stp_c e ok op) (okQ_stp ok op), sm_c op k (stp_c e ok op) (okQ_stp ok op)]
theorem heldQ_le {Q : Pg} {p : Nat} (ok : okQ Q) (hp : p < 4) : heldQ Q p ≤ 5 * 99 := sumN_ltb ok.nc (fun i hi => ok.he hp (by have := ok.nc; omega))
theorem heldA_le {Q : Pg} (ok : okQ Q) : heldA Q ≤ 1980 := by
  have b4 := ok.np
  have h := sumN_le (f := fun p => heldQ Q p) (m := 495) (n := Q 57) (fun i hi => heldQ_le ok (by omega))
  have h2 : Q 57 * 495 ≤ 4 * 495 := Nat.mul_le_mul_right _ b4
  exact Nat.le_trans h h2
theorem lk_le {p : Option Nat} {h : Nat} {Q : Pg} (ok : okQ Q) : lk p h Q ≤ 1980 := by
  cases p with
  | none => exact heldA_le ok
  | some q => simp only [lk]; split <;> omega
theorem sm_le {v h : Nat} {p : Option Nat} (op : okp p) (hv : v ≤ 10) : ∀ k {Q : Pg}, okQ Q → sm v p h k Q ≤ 10 ^ k * 1980
  | 0, _, ok => by rw [sm, Nat.pow_zero, Nat.one_mul]; exact lk_le ok
  | k + 1, Q, ok => by
    have h1 := sm_le op hv k (okQ_stp (t := 2) ok op) (h := h)
    have h2 := sm_le op hv k (okQ_stp (t := 1) ok op) (h := h)
    have e1 := Nat.mul_le_mul_left v h1
    have e2 := Nat.mul_le_mul_left (10 - v) h2
    have e3 : v * (10 ^ k * 1980) + (10 - v) * (10 ^ k * 1980) = 10 * (10 ^ k * 1980) := by rw [← Nat.add_mul]; congr 1; omega
    have e4 : 10 ^ (k + 1) * 1980 = 10 * (10 ^ k * 1980) := by rw [Nat.pow_succ, Nat.mul_comm (10 ^ k) 10, Nat.mul_assoc]
    rw [sm, e4]; omega
def whoV (p : Option Nat) : Int32 := match p with
  | none => -1
  | some p => nI p
def hWe (τ : Nat → Int32) (p : Option Nat) (h v n : Nat) : Prop := τ (400 * 42 + 0) = whoV p ∧ (∀ q, p = some q → τ (400 * 42 + 1) = nI h) ∧ τ (400 * 42 + 2) = nI v ∧ τ (400 * 42 + 3) = nI n
theorem hWe_cg {τ τ' : Nat → Int32} {p : Option Nat} {h v n : Nat} (w : hWe τ p h v n) (e : ∀ a, a < 17600 → τ' a = τ a) : hWe τ' p h v n := ⟨(e _ (by omega)).trans w.1, fun q hq => (e _ (by omega)).trans (w.2.1 q hq), (e _ (by omega)).trans w.2.2.1, (e _ (by omega)).trans w.2.2.2⟩
theorem nI_ne_m1 {a : Nat} (h : a < 2 ^ 31) : ¬ nI a = -1 := fun q => by
  have := congrArg Int32.toInt q
  rw [nI_toInt h, show (-1 : Int32).toInt = -1 from rfl] at this
  omega
set_option maxRecDepth 100000 in
theorem c_lookedAt {l : Launch} {G : zG} {τ : Nat → Int32} {p : Option Nat} {h v n j : Nat} {Q : Pg} (w : hWe τ p h v n) (hj : j < 9) (hQ : hdc τ (44 + 7 * j) Q) (ok : okQ Q) (oz : okzp p Q) (op : okp p) (hh : h < 1000) : zMet l yX5_lookedAt mX5_lookedAt [.ref (zGa G 42), .ref (zGa G (44 + 7 * j))] G (zW G τ) (zFn G (some (.long (lN (lk p h Q)))) τ) := by
  refine zMet.of (by decide) rfl (Nat.le_of_ble_eq_true rfl) (Or.inr rfl) fun X hX hq => ?_
  subst hX
  show Y G X mX5_lookedAt τ 0 [some (.ref (zGa G 42)), some (.ref (zGa G (44 + 7 * j)))] []
  cases p with
  | none =>
    have hl := heldA_le ok
    refine z_aload_n 1 dX5_lookedAt_0 rfl rfl ?_
    refine y_get 4 _ sh42 rfl fl_X5_49 dX5_lookedAt_1 rfl ?_
    rw [w.1]
    refine z_iconst 5 dX5_lookedAt_4 vim1 rfl ?_
    refine z_icmp_ne_f 8 14 dX5_lookedAt_5 rfl (rfl) rfl ?_
    refine z_aload_n 9 dX5_lookedAt_8 rfl rfl ?_
    refine y_cVs 12 _ (n_heldByAll (bka43 hj) hQ ok (oz rfl)) (bk0 (bka43 hj)) cv_X5_59 ⟨by decide, by decide, rfl, rfl⟩ (Nat.le_of_ble_eq_true rfl) dX5_lookedAt_9 rfl rfl ?_
    refine z_i2l 13 dX5_lookedAt_12 rfl ?_
    rw [nI_l (by omega)]
    refine z_lret hq rfl dX5_lookedAt_13 rfl rfl ?_
    exact ⟨rfl, rfl⟩
  | some q =>
    have q4 := op q rfl
    have hl := hueQ_lt ok q4
    have e1 : τ (400 * 42 + 0) = nI q := w.1
    refine z_aload_n 1 dX5_lookedAt_0 rfl rfl ?_
    refine y_get 4 _ sh42 rfl fl_X5_49 dX5_lookedAt_1 rfl ?_
    rw [e1]
    refine z_iconst 5 dX5_lookedAt_4 vim1 rfl ?_
    refine z_icmp_ne_t 14 dX5_lookedAt_5 rfl (nI_ne_m1 (by omega)) ?_
    refine z_aload_n 15 dX5_lookedAt_14 rfl rfl ?_
    refine z_aload_n 16 dX5_lookedAt_15 rfl rfl ?_
    refine y_get 19 _ sh42 rfl fl_X5_49 dX5_lookedAt_16 rfl ?_
    rw [e1]
    refine y_cVs 22 _ (n_hueOfOne (bka43 hj) hQ ok q4) (bk0 (bka43 hj)) cv_X5_63 ⟨by decide, by decide, rfl, rfl⟩ (Nat.le_of_ble_eq_true rfl) dX5_lookedAt_19 rfl rfl ?_
    refine z_aload_n 23 dX5_lookedAt_22 rfl rfl ?_
    refine y_get 26 _ sh42 rfl fl_X5_67 dX5_lookedAt_23 rfl ?_
    rw [w.2.1 q rfl]
    refine z_icmp_ne 33 29 dX5_lookedAt_26 rfl rfl (fun h26 => ?_) (fun h26 => ?_)
    · skip
      have e : hueQ Q q ≠ h := fun z => h26 (by rw [z])
      refine z_lconst 34 dX5_lookedAt_33 vl0 rfl ?_
      refine z_lret hq rfl dX5_lookedAt_34 rfl rfl ?_
      exact ⟨by simp only [lk]; rw [if_neg e]; rfl, rfl⟩
    · skip
      have e : hueQ Q q = h := nI_eqL (by omega) (by omega) h26
      refine z_lconst 30 dX5_lookedAt_29 vl1 rfl ?_
      refine z_goto 34 dX5_lookedAt_30 rfl ?_
      refine z_lret hq rfl dX5_lookedAt_34 rfl rfl ?_
      exact ⟨by simp only [lk]; rw [if_pos e]; rfl, rfl⟩
set_option maxRecDepth 100000 in
theorem c_passOn {l : Launch} {G : zG} {τ : Nat → Int32} {p : Option Nat} {h v n j t : Nat} {Q : Pg} (w : hWe τ p h v n) (hj : j < 9) (hj1 : j + 1 < 9) (hQ : hdc τ (44 + 7 * j) Q) (ok : okQ Q) (op : okp p) (ht : t ≤ 2) : zMet l yX5_passOn mX5_passOn [.ref (zGa G 42), .int (nI j), .int (nI t)] G (zW G τ) (zFn G none (sp τ (44 + 7 * (j + 1)) (stp p (nrm Q) t))) := by
  have okn := okQ_nrm ok
  refine zMet.of (by decide) rfl (Nat.le_of_ble_eq_true rfl) (Or.inr rfl) fun X hX hq => ?_
  subst hX
  show Y G X mX5_passOn τ 0 [some (.ref (zGa G 42)), some (.int (nI j)), some (.int (nI t)), none] []
  cases p with
  | none =>
    have e1 : ∀ R, sp τ (44 + 7 * (j + 1)) R (400 * 42 + 0) = -1 := fun R => (sp_off (by omega)).trans w.1
    refine z_aload_n 1 dX5_passOn_0 rfl rfl ?_
    refine y_getr 4 _ sh42 rfl fl_X5_11 dX5_passOn_1 rfl ?_
    refine z_iload_n 5 dX5_passOn_4 rfl rfl ?_
    refine z_iconst 6 dX5_passOn_5 vi1 rfl ?_
    refine z_iaddN 7 rfl (show (1 : Int32) = nI 1 from rfl) dX5_passOn_6 rfl ?_
    refine y_aaB 8 _ (j + 1) sh43 rfl hj1 (by decide) (aa43 hj1) dX5_passOn_7 rfl ?_
    refine z_astore_n 9 [_, _, _, _] dX5_passOn_8 (by decide) rfl rfl rfl ?_
    refine z_aload_n 10 dX5_passOn_9 rfl rfl ?_
    refine z_aload_n 11 dX5_passOn_10 rfl rfl ?_
    refine y_getr 14 _ sh42 rfl fl_X5_11 dX5_passOn_11 rfl ?_
    refine z_iload_n 15 dX5_passOn_14 rfl rfl ?_
    refine y_aaB 16 _ j sh43 rfl hj (by decide) (aa43 hj) dX5_passOn_15 rfl ?_
    refine y_cVv 19 _ (n_takeFrom (bka43 hj1) (bka43 hj) (by omega) hQ) (bk0 (bka43 hj1)) cv_X5_25 ⟨by decide, by decide, rfl, rfl⟩ (Nat.le_of_ble_eq_true rfl) dX5_passOn_16 rfl rfl ?_
    refine z_aload_n 20 dX5_passOn_19 rfl rfl ?_
    refine y_get 23 _ sh42 rfl fl_X5_49 dX5_passOn_20 rfl ?_
    rw [e1]
    refine z_iconst 24 dX5_passOn_23 vim1 rfl ?_
    refine z_icmp_ne_f 27 35 dX5_passOn_24 rfl (rfl) rfl ?_
    refine z_aload_n 28 dX5_passOn_27 rfl rfl ?_
    refine z_iload_n 29 dX5_passOn_28 rfl rfl ?_
    refine y_cVv 32 _ (c_passDay (bka43 hj1) hds_sp okn ht) (bk0 (bka43 hj1)) cv_X5_52 ⟨by decide, by decide, rfl, rfl⟩ (Nat.le_of_ble_eq_true rfl) dX5_passOn_29 rfl rfl ?_
    rw [sp_sp]
    refine z_goto 44 dX5_passOn_32 rfl ?_
    refine z_vret hq rfl dX5_passOn_44 rfl rfl ?_
    exact ⟨rfl, rfl⟩
  | some q =>
    have q4 := op q rfl
    have e1 : ∀ R, sp τ (44 + 7 * (j + 1)) R (400 * 42 + 0) = nI q := fun R => (sp_off (by omega)).trans w.1
    refine z_aload_n 1 dX5_passOn_0 rfl rfl ?_
    refine y_getr 4 _ sh42 rfl fl_X5_11 dX5_passOn_1 rfl ?_
    refine z_iload_n 5 dX5_passOn_4 rfl rfl ?_
    refine z_iconst 6 dX5_passOn_5 vi1 rfl ?_
    refine z_iaddN 7 rfl (show (1 : Int32) = nI 1 from rfl) dX5_passOn_6 rfl ?_
    refine y_aaB 8 _ (j + 1) sh43 rfl hj1 (by decide) (aa43 hj1) dX5_passOn_7 rfl ?_
    refine z_astore_n 9 [_, _, _, _] dX5_passOn_8 (by decide) rfl rfl rfl ?_
    refine z_aload_n 10 dX5_passOn_9 rfl rfl ?_
    refine z_aload_n 11 dX5_passOn_10 rfl rfl ?_
    refine y_getr 14 _ sh42 rfl fl_X5_11 dX5_passOn_11 rfl ?_
    refine z_iload_n 15 dX5_passOn_14 rfl rfl ?_
    refine y_aaB 16 _ j sh43 rfl hj (by decide) (aa43 hj) dX5_passOn_15 rfl ?_
    refine y_cVv 19 _ (n_takeFrom (bka43 hj1) (bka43 hj) (by omega) hQ) (bk0 (bka43 hj1)) cv_X5_25 ⟨by decide, by decide, rfl, rfl⟩ (Nat.le_of_ble_eq_true rfl) dX5_passOn_16 rfl rfl ?_
    refine z_aload_n 20 dX5_passOn_19 rfl rfl ?_
    refine y_get 23 _ sh42 rfl fl_X5_49 dX5_passOn_20 rfl ?_
    rw [e1]
    refine z_iconst 24 dX5_passOn_23 vim1 rfl ?_
    refine z_icmp_ne_t 35 dX5_passOn_24 rfl (nI_ne_m1 (by omega)) ?_
    refine z_aload_n 36 dX5_passOn_35 rfl rfl ?_
    refine z_aload_n 37 dX5_passOn_36 rfl rfl ?_
    refine y_get 40 _ sh42 rfl fl_X5_49 dX5_passOn_37 rfl ?_
    rw [e1]
    refine z_iload_n 41 dX5_passOn_40 rfl rfl ?_
    refine y_cVv 44 _ (c_passDayOfOne (bka43 hj1) hds_sp okn q4 ht) (bk0 (bka43 hj1)) cv_X5_56 ⟨by decide, by decide, rfl, rfl⟩ (Nat.le_of_ble_eq_true rfl) dX5_passOn_41 rfl rfl ?_
    rw [sp_sp]
    refine z_vret hq rfl dX5_passOn_44 rfl rfl ?_
    exact ⟨rfl, rfl⟩
def offB (j : Nat) (τ' τ : Nat → Int32) : Prop := ∀ a, (a < 400 * (44 + 7 * (j + 1)) ∨ 42800 ≤ a) → τ' a = τ a
set_option maxRecDepth 100000 in
set_option maxHeartbeats 4000000 in
theorem c_summed {l : Launch} {G : zG} {p : Option Nat} {h v n : Nat} (op : okp p) (hh : h < 1000) (hv : v ≤ 10) (hn : n ≤ 8) : ∀ (k j : Nat) (τ : Nat → Int32) (Q : Pg), j + k = n → hWe τ p h v n → hdc τ (44 + 7 * j) Q → okQ Q → okzp p Q → zMet l yX5_summed (mX5_summed (10 + k)) [.ref (zGa G 42), .int (nI j)] G (zW G τ) (zP G (fun r τ' => r = some (.long (lN (sm v p h k Q))) ∧ offB j τ' τ)) := by
  intro k
  induction k with
  | zero =>
    intro j τ Q hjk w hQ ok oz
    have hj : j < 9 := by omega
    refine zMet.of (by decide) rfl (Nat.le_of_ble_eq_true rfl) (Or.inr rfl) fun X hX hq => ?_
    subst hX
    show Y G X (mX5_summed (10 + 0)) τ 0 [some (.ref (zGa G 42)), some (.int (nI j)), none, none] []
    obtain rfl : j = n := by omega
    refine z_iload_n 1 dX5_summed_0 rfl rfl ?_
    refine z_aload_n 2 dX5_summed_1 rfl rfl ?_
    refine y_get 5 _ sh42 rfl fl_X5_22 dX5_summed_2 rfl ?_
    rw [w.2.2.2]
    refine z_icmp_ge_t 14 dX5_summed_5 rfl (Int32.le_refl _) ?_
    refine z_aload_n 15 dX5_summed_14 rfl rfl ?_
    refine z_aload_n 16 dX5_summed_15 rfl rfl ?_
    refine y_getr 19 _ sh42 rfl fl_X5_11 dX5_summed_16 rfl ?_
    refine z_iload_n 20 dX5_summed_19 rfl rfl ?_
    refine y_aaB 21 _ j sh43 rfl hj (by decide) (aa43 hj) dX5_summed_20 rfl ?_
    refine y_cVs 24 _ (c_lookedAt w hj hQ ok oz op hh) sh42 cv_X5_41 ⟨by decide, by decide, rfl, rfl⟩ (Nat.le_of_ble_eq_true rfl) dX5_summed_21 rfl rfl ?_
    refine z_lret hq rfl dX5_summed_24 rfl rfl ?_
    exact ⟨_, ⟨rfl, fun _ _ => rfl⟩, rfl⟩
  | succ k ihk =>
    intro j τ Q hjk w hQ ok oz
    have hj : j < 9 := by omega
    have hj1 : j + 1 < 9 := by omega
    have okn := okQ_nrm ok
    have go : ∀ t, t ≤ 2 → ∀ τ1, offB j τ1 τ → hWe (sp τ1 (44 + 7 * (j + 1)) (stp p (nrm Q) t)) p h v n ∧ hdc (sp τ1 (44 + 7 * (j + 1)) (stp p (nrm Q) t)) (44 + 7 * (j + 1)) (stp p (nrm Q) t) ∧ okQ (stp p (nrm Q) t) ∧ okzp p (stp p (nrm Q) t) ∧ sm v p h k (stp p (nrm Q) t) = sm v p h k (stp p Q t) := fun t ht τ1 ho =>
      ⟨hWe_cg w (fun a ha => (sp_off (by omega)).trans (ho a (by omega))), hds_sp.c, okQ_stp okn op, okzp_stp (fun e => okZ_nrm (oz e)) okn, sm_c op k (stp_c eqc_nrm ok op) (okQ_stp ok op)⟩
    have nx : ∀ t τ1 τ2, offB j τ1 τ → offB (j + 1) τ2 (sp τ1 (44 + 7 * (j + 1)) (stp p (nrm Q) t)) → offB j τ2 τ := fun t τ1 τ2 h1 h2 a ha => (h2 a (by omega)).trans ((sp_off (by omega)).trans (h1 a ha))
    have hsm : sm v p h (k + 1) Q = v * sm v p h k (stp p Q 2) + (10 - v) * sm v p h k (stp p Q 1) := rfl
    refine zMet.of (by decide) rfl (Nat.le_of_ble_eq_true rfl) (Or.inr rfl) fun X hX hq => ?_
    subst hX
    show Y G X (mX5_summed (10 + (k + 1))) τ 0 [some (.ref (zGa G 42)), some (.int (nI j)), none, none] []
    rw [hsm] at hq
    have half : ∀ τ1, offB j τ1 τ → Y G X (mX5_summed (10 + (k + 1))) τ1 56 [some (.ref (zGa G 42)), some (.int (nI j)), some (.long (lN (v * sm v p h k (stp p Q 2)))), none] [] := by
      intro τ1 ho
      have w1 : hWe τ1 p h v n := hWe_cg w (fun a ha => ho a (by omega))
      have hQ1 : hdc τ1 (44 + 7 * j) Q := fun i hi => (ho _ (by omega)).trans (hQ i hi)
      obtain ⟨g1, g2, g3, g4, g5⟩ := go 1 (by decide) τ1 ho
      have l1 : (nI (10 - v)).toInt64 = lN (10 - v) := nI_l (by omega)
      refine z_aload_n 57 dX5_summed_56 rfl rfl ?_
      refine y_get 60 _ sh42 rfl fl_X5_18 dX5_summed_57 rfl ?_
      rw [w1.2.2.1]
      refine z_bipush 62 dX5_summed_60 vb10 rfl ?_
      refine z_icmp_ge 90 65 dX5_summed_62 rfl rfl (fun h62 => ?_) (fun h62 => ?_)
      · skip
        have v10 : v = 10 := by
            have h9 := (nI_leI (a := 10) (b := v) (by decide) (by omega)).mp h62
            omega
        refine z_lload_n 91 dX5_summed_90 rfl rfl ?_
        refine z_lret hq rfl dX5_summed_91 rfl rfl ?_
        exact ⟨_, ⟨by rw [show (10 - v) * sm v p h k (stp p Q 1) = 0 by rw [show 10 - v = 0 by omega, Nat.zero_mul], Nat.add_zero], ho⟩, rfl⟩
      · skip
        refine z_aload_n 66 dX5_summed_65 rfl rfl ?_
        refine z_iload_n 67 dX5_summed_66 rfl rfl ?_
        refine z_iconst 68 dX5_summed_67 vi1 rfl ?_
        refine y_cVv 71 _ (c_passOn (t := 1) w1 hj hj1 hQ1 ok op (by decide)) sh42 cv_X5_45 ⟨(by show 5 + 1 ≤ 10 + (k + 1); omega), Nat.le_of_ble_eq_true rfl, rfl, rfl⟩ (Nat.le_of_ble_eq_true rfl) dX5_summed_68 rfl rfl ?_
        refine z_lload_n 72 dX5_summed_71 rfl rfl ?_
        refine z_bipush 74 dX5_summed_72 vb10 rfl ?_
        refine z_aload_n 75 dX5_summed_74 rfl rfl ?_
        refine y_get 78 _ sh42 rfl fl_X5_18 dX5_summed_75 rfl ?_
        rw [g1.2.2.1]
        refine z_isubN 79 (show (10 : Int32) = nI 10 from rfl) rfl (show v ≤ 10 by omega) dX5_summed_78 rfl ?_
        refine z_i2l 80 dX5_summed_79 rfl ?_
        rw [l1]
        refine z_aload_n 81 dX5_summed_80 rfl rfl ?_
        refine z_iload_n 82 dX5_summed_81 rfl rfl ?_
        refine z_iconst 83 dX5_summed_82 vi1 rfl ?_
        refine z_iaddN 84 rfl (show (1 : Int32) = nI 1 from rfl) dX5_summed_83 rfl ?_
        refine y_cVP 87 _ (ihk (j + 1) _ _ (by omega) g1 g2 g3 g4) sh42 (cv_X5_29 (10 + k)) ⟨Nat.le_refl _, Nat.le_of_ble_eq_true rfl, rfl, rfl⟩ (Nat.le_of_ble_eq_true rfl) dX5_summed_84 rfl rfl (fun v84 σ84 hp84 => ?_)
        obtain ⟨rfl, ho2⟩ := hp84
        rw [g5]
        show Y G X (mX5_summed (10 + (k + 1))) _ 87 _ [.long _, .long _, .long _]
        refine z_lmul 88 dX5_summed_87 rfl ?_
        rw [lN_mul]
        refine z_ladd 89 dX5_summed_88 rfl ?_
        rw [lN_add]
        refine z_lstore_n 90 [_, _, _, _] dX5_summed_89 (Nat.le_of_ble_eq_true rfl) rfl rfl rfl ?_
        refine z_lload_n 91 dX5_summed_90 rfl rfl ?_
        refine z_lret hq rfl dX5_summed_91 rfl rfl ?_
        exact ⟨_, ⟨rfl, nx 1 τ1 _ ho ho2⟩, rfl⟩
    obtain ⟨g1, g2, g3, g4, g5⟩ := go 2 (by decide) τ (fun _ _ => rfl)
    have l1 : (nI v).toInt64 = lN v := nI_l (by omega)
    refine z_iload_n 1 dX5_summed_0 rfl rfl ?_
    refine z_aload_n 2 dX5_summed_1 rfl rfl ?_
    refine y_get 5 _ sh42 rfl fl_X5_22 dX5_summed_2 rfl ?_
    rw [w.2.2.2]
    refine z_icmp_ge_f 8 14 dX5_summed_5 rfl (nI_ge (by omega) (by omega)) rfl ?_
    refine z_iload_n 9 dX5_summed_8 rfl rfl ?_
    refine z_bipush 11 dX5_summed_9 vb8 rfl ?_
    refine z_icmp_lt_t 25 dX5_summed_11 rfl (nI_lt (b := 8) (by omega) (by decide)) ?_
    refine z_lconst 26 dX5_summed_25 vl0 rfl ?_
    refine z_lstore_n 27 [_, _, _, _] dX5_summed_26 (Nat.le_of_ble_eq_true rfl) rfl rfl rfl ?_
    refine z_aload_n 28 dX5_summed_27 rfl rfl ?_
    refine y_get 31 _ sh42 rfl fl_X5_18 dX5_summed_28 rfl ?_
    rw [w.2.2.1]
    refine z_if_le 56 34 dX5_summed_31 rfl rfl (fun h31 => ?_) (fun h31 => ?_)
    · skip
      have v0 : v = 0 := by
          have h9 := (nI_leI (a := v) (b := 0) (by omega) (by decide)).mp h31
          omega
      have hf := half τ (fun _ _ => rfl)
      rw [v0, Nat.zero_mul] at hf
      exact hf
    · skip
      refine z_aload_n 35 dX5_summed_34 rfl rfl ?_
      refine z_iload_n 36 dX5_summed_35 rfl rfl ?_
      refine z_iconst 37 dX5_summed_36 vi2 rfl ?_
      refine y_cVv 40 _ (c_passOn (t := 2) w hj hj1 hQ ok op (by decide)) sh42 cv_X5_45 ⟨(by show 5 + 1 ≤ 10 + (k + 1); omega), Nat.le_of_ble_eq_true rfl, rfl, rfl⟩ (Nat.le_of_ble_eq_true rfl) dX5_summed_37 rfl rfl ?_
      refine z_lload_n 41 dX5_summed_40 rfl rfl ?_
      refine z_aload_n 42 dX5_summed_41 rfl rfl ?_
      refine y_get 45 _ sh42 rfl fl_X5_18 dX5_summed_42 rfl ?_
      rw [g1.2.2.1]
      refine z_i2l 46 dX5_summed_45 rfl ?_
      rw [l1]
      refine z_aload_n 47 dX5_summed_46 rfl rfl ?_
      refine z_iload_n 48 dX5_summed_47 rfl rfl ?_
      refine z_iconst 49 dX5_summed_48 vi1 rfl ?_
      refine z_iaddN 50 rfl (show (1 : Int32) = nI 1 from rfl) dX5_summed_49 rfl ?_
      refine y_cVP 53 _ (ihk (j + 1) _ _ (by omega) g1 g2 g3 g4) sh42 (cv_X5_29 (10 + k)) ⟨Nat.le_refl _, Nat.le_of_ble_eq_true rfl, rfl, rfl⟩ (Nat.le_of_ble_eq_true rfl) dX5_summed_50 rfl rfl (fun v50 σ50 hp50 => ?_)
      obtain ⟨rfl, ho2⟩ := hp50
      rw [g5]
      show Y G X (mX5_summed (10 + (k + 1))) _ 53 _ [.long _, .long _, .long _]
      refine z_lmul 54 dX5_summed_53 rfl ?_
      rw [lN_mul]
      refine z_ladd 55 dX5_summed_54 rfl ?_
      rw [show (0 : Int64) = lN 0 from rfl, lN_add, Nat.zero_add]
      refine z_lstore_n 56 [_, _, _, _] dX5_summed_55 (Nat.le_of_ble_eq_true rfl) rfl rfl rfl ?_
      exact half _ (nx 2 τ _ (fun _ _ => rfl) ho2)

