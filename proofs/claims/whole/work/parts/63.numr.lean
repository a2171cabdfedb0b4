/-! ===== numbers and names: the reference ===== -/
def nrmT (tn : Nat) (B : Nat → Nat) (r : Sum (Nat × Nat) Nat) : Sum (Nat × Nat) Tk := bnd' r (fun a => tokF tn B a)
/-- where the reference stands: at a fault, or ahead of a token that has been read -/
def PS (tn : Nat) (B : Nat → Nat) (τ : Nat → Int32) (r : Sum (Nat × Nat) Nat) : Prop := aTkR B τ (nrmT tn B r)
def okR (tn : Nat) (r : Sum (Nat × Nat) Nat) : Prop := match r with
  | .inl (c, s) => 1 ≤ c ∧ c ≤ 6 ∧ s ≤ tn
  | .inr a => a ≤ tn
def aftN (x : Sum (Nat × Nat) Tk) : Sum (Nat × Nat) Nat := match x with
  | .inl q => .inl q
  | .inr (_, _, e) => .inr e
def valN (x : Sum (Nat × Nat) Tk) : Nat := match x with
  | .inl _ => 0
  | .inr (v, _, _) => v
def numR (tn : Nat) (B : Nat → Nat) (r : Sum (Nat × Nat) Nat) (most : Nat) : Sum (Nat × Nat) Tk := bnd' r (fun a => numF tn B a most)
theorem okR_num {tn : Nat} {B : Nat → Nat} {r : Sum (Nat × Nat) Nat} {most : Nat} (h : okR tn r) : okR tn (aftN (numR tn B r most)) ∧ valN (numR tn B r most) ≤ most := by
  cases r with
  | inl q => obtain ⟨c, s⟩ := q; exact ⟨h, Nat.zero_le _⟩
  | inr a =>
    show okR tn (aftN (numF tn B a most)) ∧ valN (numF tn B a most) ≤ most
    cases hk : numF tn B a most with
    | inl q =>
      obtain ⟨c, s⟩ := q
      have := numF_l (show a ≤ tn from h) hk
      exact ⟨⟨this.1, by omega, this.2.2⟩, Nat.zero_le _⟩
    | inr q =>
      obtain ⟨v, s, e⟩ := q
      have := numF_ok (show a ≤ tn from h) hk
      exact ⟨this.2.2.2.1, this.2.2.2.2.1⟩
theorem PS_off {tn : Nat} {B : Nat → Nat} {τ τ' : Nat → Int32} {r : Sum (Nat × Nat) Nat} (h : PS tn B τ r) (ho : ∀ a, 63212 ≤ a → a < 63218 → τ' a = τ a) : PS tn B τ' r := by
  rw [PS] at h ⊢
  cases hk : nrmT tn B r with
  | inl q =>
    obtain ⟨c, s⟩ := q
    rw [hk] at h
    exact ⟨(ho _ (by omega) (by omega)).trans h.1, (ho _ (by omega) (by omega)).trans h.2⟩
  | inr q =>
    obtain ⟨so, s, e⟩ := q
    rw [hk] at h
    obtain ⟨h1, h2, h3, h4, h5⟩ := h
    exact ⟨(ho _ (by omega) (by omega)).trans h1, (ho _ (by omega) (by omega)).trans h2, (ho _ (by omega) (by omega)).trans h3, (ho _ (by omega) (by omega)).trans h4, fun z => (ho _ (by omega) (by omega)).trans (h5 z)⟩
theorem nrm_l {tn : Nat} {B : Nat → Nat} {r : Sum (Nat × Nat) Nat} {c s : Nat} (h : okR tn r) (hk : nrmT tn B r = .inl (c, s)) : 1 ≤ c ∧ c ≤ 6 ∧ s ≤ tn := by
  cases r with
  | inl q =>
    obtain ⟨c', s'⟩ := q
    have hh := Sum.inl.inj hk
    simp only [Prod.mk.injEq] at hh
    obtain ⟨h1, h2, h3⟩ := h
    omega
  | inr a =>
    have := tokF_l (show a ≤ tn from h) (show tokF tn B a = .inl (c, s) from hk)
    omega
/-- what a number is, of the token that has been read -/
theorem numR_t {tn : Nat} {B : Nat → Nat} {r : Sum (Nat × Nat) Nat} {most : Nat} : numR tn B r most = bnd' (nrmT tn B r) (fun t => if t.1 = 2 then (if vlN B t.2.1 (t.2.2 - t.2.1) ≤ most then .inr (vlN B t.2.1 (t.2.2 - t.2.1), t.2.1, t.2.2) else .inl (3, t.2.1)) else .inl (2, t.2.1)) := by
  cases r with
  | inl q => rfl
  | inr a =>
    show numF tn B a most = bnd' (tokF tn B a) _
    rw [numF]
    cases tokF tn B a with
    | inl q => rfl
    | inr q => obtain ⟨so, s, e⟩ := q; rfl
theorem in_most {v m : Nat} (hv : v < 1000) (hm : m < 1000) : bi ((0 : Int32).toInt64 ≤ (nI v).toInt64 ∧ (nI v).toInt64 ≤ (nI m).toInt64) = bi (v ≤ m) := bi_cg (by
  rw [Int64.le_iff_toInt_le, Int64.le_iff_toInt_le, Int32.toInt_toInt64, Int32.toInt_toInt64, Int32.toInt_toInt64, nI_toInt (by omega), nI_toInt (by omega), Int32.toInt_zero]; omega)
set_option maxRecDepth 100000 in
set_option maxHeartbeats 2000000 in
theorem c_number {l : Launch} {G : zG} {τ : Nat → Int32} {tn most : Nat} {B : Nat → Nat} {r : Sum (Nat × Nat) Nat} (hT : hRa τ tn B) (ok : okT tn B) (hr : okR tn r) (hP : PS tn B τ r) (hm : most < 1000) : zMet l yX7_number mX7_number [.ref (zGa G 158), .int 0, .int (nI most)] G (zW G τ) (zP G (fun v τ' => v = some (.int (nI (valN (numR tn B r most)))) ∧ PS tn B τ' (aftN (numR tn B r most)) ∧ offS τ' τ)) := by
  have h6 := ok.1
  rw [PS] at hP
  have hR := numR_t (tn := tn) (B := B) (r := r) (most := most)
  have okn := (okR_num (B := B) (most := most) hr)
  generalize numR tn B r most = R at hR okn
  refine zMet.of (by decide) rfl (Nat.le_of_ble_eq_true rfl) (Or.inr rfl) fun X hX hq => ?_
  subst hX
  show Y G X mX7_number τ 0 [some (.ref (zGa G 158)), some (.int 0), some (.int (nI most)), none] []
  -- behind a fault: nothing more
  have endF : ∀ τ1 c s, 1 ≤ c → c ≤ 6 → R = .inl (c, s) → τ1 (400 * 158 + 12) = nI c → τ1 (400 * 158 + 13) = nI s → offS τ1 τ → Y G X mX7_number τ1 47 [some (.ref (zGa G 158)), some (.int 0), some (.int (nI most)), none] [] := by
    intro τ1 c s hc1 hc6 eR o1 o2 o3
    rw [eR] at hq
    refine z_aload_n 48 dX7_number_47 rfl rfl ?_
    refine y_get 51 _ sh158 rfl fl_X7_63 dX7_number_48 rfl ?_
    rw [o1]
    refine z_if_ne_t 61 dX7_number_51 rfl (nI_ne0 (by omega) (by omega)) ?_
    refine z_iload_n 62 dX7_number_61 rfl rfl ?_
    refine z_istore_n 63 [_, _, _, _] dX7_number_62 (by decide) rfl rfl rfl ?_
    refine z_aload_n 64 dX7_number_63 rfl rfl ?_
    refine y_cVv 67 _ (c_step1 o1 hc1 (by omega)) sh158 cv_X7_97 ⟨by decide, by decide, rfl, rfl⟩ (Nat.le_of_ble_eq_true rfl) dX7_number_64 rfl rfl ?_
    refine z_iload_n 68 dX7_number_67 rfl rfl ?_
    refine z_iret hq rfl dX7_number_68 rfl rfl ?_
    exact ⟨_, ⟨rfl, ⟨o1, o2⟩, o3⟩, rfl⟩
  cases hk : nrmT tn B r with
  | inl q =>
    obtain ⟨c, s⟩ := q
    rw [hk] at hP
    rw [hk, bnd_l] at hR
    have hb := nrm_l hr hk
    have ne : ¬ τ (400 * 158 + 12) = 0 := by rw [hP.1]; exact nI_ne0 (by omega) (by omega)
    refine z_aload_n 1 dX7_number_0 rfl rfl ?_
    refine y_get 4 _ sh158 rfl fl_X7_63 dX7_number_1 rfl ?_
    refine z_if_ne_t 20 dX7_number_4 rfl (ne) ?_
    refine z_aload_n 21 dX7_number_20 rfl rfl ?_
    refine y_get 24 _ sh158 rfl fl_X7_63 dX7_number_21 rfl ?_
    refine z_if_ne_t 47 dX7_number_24 rfl (ne) ?_
    exact endF τ c s hb.1 hb.2.1 hR hP.1 hP.2 offS.rf
  | inr q =>
    obtain ⟨so, s, e⟩ := q
    rw [hk] at hP
    rw [hk, bnd_r] at hR
    dsimp only at hR
    obtain ⟨p0, p1, p2, p3, p4⟩ := hP
    obtain ⟨a, hra⟩ : ∃ a, r = .inr a := by
      cases r with
      | inl q => cases hk
      | inr a => exact ⟨a, rfl⟩
    subst hra
    have hk' : tokF tn B a = .inr (so, s, e) := hk
    have k2 := tokF_ok (show a ≤ tn from hr) hk'
    by_cases c1 : so = 2
    · rw [if_pos c1] at hR
      have h3 := k2.2.2.2.2.2.1 c1
      have p5 := p4 c1
      have vb : vlN B s (e - s) < 100 := by
        have h4 := vl_le (B := B) (s := s) (e - s) (fun i a b => h3.2.2 i a (by omega))
        have h5 : 10 ^ (e - s) ≤ 10 ^ 2 := Nat.pow_le_pow_right (by decide) h3.2.1
        omega
      have bm := in_most (v := vlN B s (e - s)) (m := most) (by omega) hm
      by_cases c2 : vlN B s (e - s) ≤ most
      · rw [if_pos c2] at hR
        have cs := c_step (l := zXl X) (G := G) hT ok k2.2.2.1 p3 p0
        subst hR
        refine z_aload_n 1 dX7_number_0 rfl rfl ?_
        refine y_get 4 _ sh158 rfl fl_X7_63 dX7_number_1 rfl ?_
        rw [p0]
        refine z_if_ne_f 7 20 dX7_number_4 rfl (rfl) rfl ?_
        refine z_aload_n 8 dX7_number_7 rfl rfl ?_
        refine y_get 11 _ sh158 rfl fl_X7_72 dX7_number_8 rfl ?_
        rw [p1]
        refine z_iconst 12 dX7_number_11 vi2 rfl ?_
        refine z_icmp_eq_t 20 dX7_number_12 rfl (by rw [c1]; rfl) ?_
        refine z_aload_n 21 dX7_number_20 rfl rfl ?_
        refine y_get 24 _ sh158 rfl fl_X7_63 dX7_number_21 rfl ?_
        rw [p0]
        refine z_if_ne_f 27 47 dX7_number_24 rfl (rfl) rfl ?_
        refine z_aload_n 28 dX7_number_27 rfl rfl ?_
        refine y_get 31 _ sh158 rfl fl_X7_82 dX7_number_28 rfl ?_
        rw [p5]
        refine z_i2l 32 dX7_number_31 rfl ?_
        refine z_iload_n 33 dX7_number_32 rfl rfl ?_
        refine z_i2l 34 dX7_number_33 rfl ?_
        refine z_iload_n 35 dX7_number_34 rfl rfl ?_
        refine z_i2l 36 dX7_number_35 rfl ?_
        refine y_cSs 39 (c_in) cs_X7_55 ⟨by decide, by decide, rfl, rfl⟩ (Nat.le_of_ble_eq_true rfl) dX7_number_36 rfl rfl ?_
        rw [bm]
        refine z_if_ne_t 47 dX7_number_39 rfl (by rw [bi_t c2]; decide) ?_
        refine z_aload_n 48 dX7_number_47 rfl rfl ?_
        refine y_get 51 _ sh158 rfl fl_X7_63 dX7_number_48 rfl ?_
        rw [p0]
        refine z_if_ne_f 54 61 dX7_number_51 rfl (rfl) rfl ?_
        refine z_aload_n 55 dX7_number_54 rfl rfl ?_
        refine y_get 58 _ sh158 rfl fl_X7_82 dX7_number_55 rfl ?_
        rw [p5]
        refine z_goto 62 dX7_number_58 rfl ?_
        refine z_istore_n 63 [_, _, _, _] dX7_number_62 (by decide) rfl rfl rfl ?_
        refine z_aload_n 64 dX7_number_63 rfl rfl ?_
        refine y_cVP 67 _ (cs) sh158 cv_X7_97 ⟨by decide, by decide, rfl, rfl⟩ (Nat.le_of_ble_eq_true rfl) dX7_number_64 rfl rfl (fun v64 σ64 hp64 => ?_)
        obtain ⟨rfl, w1, w2⟩ := hp64
        show Y G X mX7_number _ 67 _ []
        refine z_iload_n 68 dX7_number_67 rfl rfl ?_
        refine z_iret hq rfl dX7_number_68 rfl rfl ?_
        exact ⟨_, ⟨rfl, w1, w2⟩, rfl⟩
      · rw [if_neg c2] at hR
        have cf := c_fails0 (l := zXl X) (G := G) (τ := τ) (c := 3) p0
        rw [p2] at cf
        refine z_aload_n 1 dX7_number_0 rfl rfl ?_
        refine y_get 4 _ sh158 rfl fl_X7_63 dX7_number_1 rfl ?_
        rw [p0]
        refine z_if_ne_f 7 20 dX7_number_4 rfl (rfl) rfl ?_
        refine z_aload_n 8 dX7_number_7 rfl rfl ?_
        refine y_get 11 _ sh158 rfl fl_X7_72 dX7_number_8 rfl ?_
        rw [p1]
        refine z_iconst 12 dX7_number_11 vi2 rfl ?_
        refine z_icmp_eq_t 20 dX7_number_12 rfl (by rw [c1]; rfl) ?_
        refine z_aload_n 21 dX7_number_20 rfl rfl ?_
        refine y_get 24 _ sh158 rfl fl_X7_63 dX7_number_21 rfl ?_
        rw [p0]
        refine z_if_ne_f 27 47 dX7_number_24 rfl (rfl) rfl ?_
        refine z_aload_n 28 dX7_number_27 rfl rfl ?_
        refine y_get 31 _ sh158 rfl fl_X7_82 dX7_number_28 rfl ?_
        rw [p5]
        refine z_i2l 32 dX7_number_31 rfl ?_
        refine z_iload_n 33 dX7_number_32 rfl rfl ?_
        refine z_i2l 34 dX7_number_33 rfl ?_
        refine z_iload_n 35 dX7_number_34 rfl rfl ?_
        refine z_i2l 36 dX7_number_35 rfl ?_
        refine y_cSs 39 (c_in) cs_X7_55 ⟨by decide, by decide, rfl, rfl⟩ (Nat.le_of_ble_eq_true rfl) dX7_number_36 rfl rfl ?_
        rw [bm]
        refine z_if_ne_f 42 47 dX7_number_39 rfl (bi_f c2) rfl ?_
        refine z_aload_n 43 dX7_number_42 rfl rfl ?_
        refine z_iconst 44 dX7_number_43 vi3 rfl ?_
        refine y_cVv 47 _ (cf) sh158 cv_X7_93 ⟨by decide, by decide, rfl, rfl⟩ (Nat.le_of_ble_eq_true rfl) dX7_number_44 rfl rfl ?_
        exact endF _ 3 s (by decide) (by decide) hR (by rw [pk_un (by omega), pk_us]; rfl) pk_us (fun a ha => by rw [pk_un (by omega), pk_un (by omega)])
    · rw [if_neg c1] at hR
      have cf := c_fails0 (l := zXl X) (G := G) (τ := τ) (c := 2) p0
      rw [p2] at cf
      have ne : ¬ upd (upd τ (400 * 158 + 12) 2) (400 * 158 + 13) (nI s) (400 * 158 + 12) = 0 := by rw [pk_un (by omega), pk_us]; decide
      refine z_aload_n 1 dX7_number_0 rfl rfl ?_
      refine y_get 4 _ sh158 rfl fl_X7_63 dX7_number_1 rfl ?_
      rw [p0]
      refine z_if_ne_f 7 20 dX7_number_4 rfl (rfl) rfl ?_
      refine z_aload_n 8 dX7_number_7 rfl rfl ?_
      refine y_get 11 _ sh158 rfl fl_X7_72 dX7_number_8 rfl ?_
      rw [p1]
      refine z_iconst 12 dX7_number_11 vi2 rfl ?_
      refine z_icmp_eq_f 15 20 dX7_number_12 rfl (fun q => c1 (nI_eqL (b := 2) (by omega) (by decide) q)) rfl ?_
      refine z_aload_n 16 dX7_number_15 rfl rfl ?_
      refine z_iconst 17 dX7_number_16 vi2 rfl ?_
      refine y_cVv 20 _ (cf) sh158 cv_X7_93 ⟨by decide, by decide, rfl, rfl⟩ (Nat.le_of_ble_eq_true rfl) dX7_number_17 rfl rfl ?_
      refine z_aload_n 21 dX7_number_20 rfl rfl ?_
      refine y_get 24 _ sh158 rfl fl_X7_63 dX7_number_21 rfl ?_
      refine z_if_ne_t 47 dX7_number_24 rfl (ne) ?_
      exact endF _ 2 s (by decide) (by decide) hR (by rw [pk_un (by omega), pk_us]; rfl) pk_us (fun a ha => by rw [pk_un (by omega), pk_un (by omega)])
/-- the reference's names -/
def cutN : List Nat := [0, 5, 12, 17, 25, 28, 32]
def letN : List Nat := [112, 108, 97, 105, 110, 108, 97, 115, 116, 105, 110, 103, 114, 111, 121, 97, 108, 102, 117, 103, 105, 116, 105, 118, 101, 111, 110, 101, 108, 101, 110, 116]
def hCu (τ : Nat → Int32) : Prop := (∀ i, i < 7 → τ (400 * 162 + 0 + i) = nI (cutN.getD i 0)) ∧ ∀ i, i < 32 → τ (400 * 163 + 0 + i) = nI (letN.getD i 0)
theorem cut_len : ∀ k, k < 6 → cutN.getD (k + 1) 0 - cutN.getD k 0 = zLen.getD k 0 ∧ cutN.getD k 0 ≤ cutN.getD (k + 1) 0 ∧ cutN.getD (k + 1) 0 ≤ 32 := by decide +kernel
theorem let_nm : ∀ k, k < 6 → ∀ j, j < zLen.getD k 0 → letN.getD (cutN.getD k 0 + j) 0 = nmC k j := by decide +kernel
def nhV (k : Nat) : Int32 := if k = 6 then -4 else nI k
set_option maxRecDepth 100000 in
set_option maxHeartbeats 2000000 in
theorem c_nameHere {l : Launch} {G : zG} {τ : Nat → Int32} {tn so s e : Nat} {B : Nat → Nat} (hT : hRa τ tn B) (ok : okT tn B) (hC : hCu τ) (hse : s ≤ e) (he : e ≤ tn) (hO : τ (400 * 158 + 16) = nI so) (hso : so ≤ 3) (hS : τ (400 * 158 + 15) = nI s) (hE : τ (400 * 158 + 14) = nI e) : zMet l yX7_nameHere mX7_nameHere [.ref (zGa G 158)] G (zW G τ) (zFn G (some (.int (nhV (lnK B so s e)))) τ) := by
  have h6 := ok.1
  refine zMet.of (by decide) rfl (Nat.le_of_ble_eq_true rfl) (Or.inr rfl) fun X hX hq => ?_
  subst hX
  show Y G X mX7_nameHere τ 0 [some (.ref (zGa G 158)), none, none, none] []
  by_cases c1 : so = 1
  · have ek : lnK B so s e = frK B s e 6 0 := by rw [lnK, if_pos c1]
    rw [ek] at hq
    have key : ∀ f k u v, f + k = 6 → frK B s e f k = frK B s e 6 0 → Y G X mX7_nameHere τ 2 [some (.ref (zGa G 158)), some (.int (nI k)), u, v] [] := by
      intro f
      induction f with
      | zero =>
        intro k u v hk ef
        rw [frK] at ef
        obtain rfl : k = 6 := by omega
        refine z_iload_n 3 dX7_nameHere_2 rfl rfl ?_
        refine z_bipush 5 dX7_nameHere_3 vb6 rfl ?_
        refine z_icmp_ge_t 118 dX7_nameHere_5 rfl (Int32.le_refl _) ?_
        refine z_bipush 120 dX7_nameHere_118 vbm4 rfl ?_
        refine z_iret hq rfl dX7_nameHere_120 rfl rfl ?_
        exact ⟨by rw [nhV, if_pos ef.symm], rfl⟩
      | succ f ih =>
        intro k u v hk ef
        have k6 : k < 6 := by omega
        have cl := cut_len k k6
        have l8 := zLen_lt k k6
        have q1 := hC.1 (k + 1) (by omega)
        have q2 := hC.1 k (by omega)
        have n6 : nI k ≠ -4 := nI_ne_m4 (by omega)
        rw [frK] at ef
        have fin1 : nmP B s e k → Y G X mX7_nameHere τ 106 [some (.ref (zGa G 158)), some (.int (nI k)), some (.int 1), some (.int (nI (e - s)))] [] := by
          intro h1
          rw [if_pos h1] at ef
          refine z_iload_n 107 dX7_nameHere_106 rfl rfl ?_
          refine z_if_eq_f 110 112 dX7_nameHere_107 rfl (by decide) rfl ?_
          refine z_iload_n 111 dX7_nameHere_110 rfl rfl ?_
          refine z_iret hq rfl dX7_nameHere_111 rfl rfl ?_
          exact ⟨by rw [nhV, ← ef, if_neg (by omega)], rfl⟩
        have fin0 : ¬ nmP B s e k → ∀ v, Y G X mX7_nameHere τ 106 [some (.ref (zGa G 158)), some (.int (nI k)), some (.int 0), v] [] := by
          intro h1 v
          rw [if_neg h1] at ef
          refine z_iload_n 107 dX7_nameHere_106 rfl rfl ?_
          refine z_if_eq_t 112 dX7_nameHere_107 rfl (rfl) ?_
          refine z_iinc 115 [_, _, _, _] dX7_nameHere_112 rfl (show _ + _ = nI (_ + 1) from nI_1 _) (by decide) rfl rfl rfl ?_
          refine z_goto 2 dX7_nameHere_115 rfl ?_
          exact ih (k + 1) _ _ (by omega) ef
        have len0 : nI (cutN.getD (k + 1) 0) - nI (cutN.getD k 0) = nI (zLen.getD k 0) := by rw [pk_sub cl.2.1, cl.1]
        by_cases h1 : e - s = zLen.getD k 0
        · skip
          refine z_iload_n 3 dX7_nameHere_2 rfl rfl ?_
          refine z_bipush 5 dX7_nameHere_3 vb6 rfl ?_
          refine z_icmp_ge_f 8 118 dX7_nameHere_5 rfl (nI_ge (b := 6) k6 (by decide)) rfl ?_
          refine z_aload_n 9 dX7_nameHere_8 rfl rfl ?_
          refine y_get 12 _ sh158 rfl fl_X7_72 dX7_nameHere_9 rfl ?_
          rw [hO]
          refine z_iconst 13 dX7_nameHere_12 vi1 rfl ?_
          refine z_icmp_ne_f 16 118 dX7_nameHere_13 rfl (by rw [c1]; rfl) rfl ?_
          refine z_aload_n 17 dX7_nameHere_16 rfl rfl ?_
          refine y_get 20 _ sh158 rfl fl_X7_75 dX7_nameHere_17 rfl ?_
          rw [hE]
          refine z_aload_n 21 dX7_nameHere_20 rfl rfl ?_
          refine y_get 24 _ sh158 rfl fl_X7_66 dX7_nameHere_21 rfl ?_
          rw [hS]
          refine z_isubN 25 rfl rfl hse dX7_nameHere_24 rfl ?_
          refine z_aload_n 26 dX7_nameHere_25 rfl rfl ?_
          refine y_getr 29 _ sh158 rfl fl_X7_19 dX7_nameHere_26 rfl ?_
          refine z_iload_n 30 dX7_nameHere_29 rfl rfl ?_
          refine z_iconst 31 dX7_nameHere_30 vi1 rfl ?_
          refine z_iaddN 32 rfl (show (1 : Int32) = nI 1 from rfl) dX7_nameHere_31 rfl ?_
          refine y_ld 33 _ (k + 1) sh162 rfl (by omega) (by omega) dX7_nameHere_32 rfl ?_
          rw [q1]
          refine z_aload_n 34 dX7_nameHere_33 rfl rfl ?_
          refine y_getr 37 _ sh158 rfl fl_X7_19 dX7_nameHere_34 rfl ?_
          refine z_iload_n 38 dX7_nameHere_37 rfl rfl ?_
          refine y_ld 39 _ k sh162 rfl (by omega) (by omega) dX7_nameHere_38 rfl ?_
          rw [q2]
          refine z_isub 40 dX7_nameHere_39 rfl ?_
          rw [len0]
          refine z_icmp_ne_f 43 47 dX7_nameHere_40 rfl (by rw [h1]) rfl ?_
          refine z_iconst 44 dX7_nameHere_43 vi1 rfl ?_
          refine z_goto 48 dX7_nameHere_44 rfl ?_
          refine z_istore_n 49 [_, _, _, _] dX7_nameHere_48 (by decide) rfl rfl rfl ?_
          refine z_iconst 50 dX7_nameHere_49 vi0 rfl ?_
          refine z_istore_n 51 [_, _, _, _] dX7_nameHere_50 (by decide) rfl rfl rfl ?_
          refine zup (P := fun j => (∀ j', j' < j → B (s + j') = nmC k j') → Y G X mX7_nameHere τ 51 [some (.ref (zGa G 158)), some (.int (nI k)), some (.int 1), some (.int (nI j))] []) (e - s) ?_ (fun j hj ih2 => ?_) 0 (Nat.zero_le _) (fun j hj => by omega)
          · intro hp
            refine z_iload_n 52 dX7_nameHere_51 rfl rfl ?_
            refine z_if_eq_f 55 106 dX7_nameHere_52 rfl (by decide) rfl ?_
            refine z_iload_n 56 dX7_nameHere_55 rfl rfl ?_
            refine z_aload_n 57 dX7_nameHere_56 rfl rfl ?_
            refine y_get 60 _ sh158 rfl fl_X7_75 dX7_nameHere_57 rfl ?_
            rw [hE]
            refine z_aload_n 61 dX7_nameHere_60 rfl rfl ?_
            refine y_get 64 _ sh158 rfl fl_X7_66 dX7_nameHere_61 rfl ?_
            rw [hS]
            refine z_isubN 65 rfl rfl hse dX7_nameHere_64 rfl ?_
            refine z_icmp_ge_t 106 dX7_nameHere_65 rfl (Int32.le_refl _) ?_
            exact fin1 ⟨h1, fun j hj => hp j (by omega)⟩
          · intro hp
            have hb := ok.2 (s + j) (by omega)
            have hc := nmC_lt k k6 j (by omega)
            have ev : byV tn B (s + j) = nI (B (s + j)) := by rw [byV, if_pos (by omega)]
            have q3 := hC.2 (cutN.getD k 0 + j) (by omega)
            rw [let_nm k k6 j (by omega)] at q3
            have fail0 : ¬ B (s + j) = nmC k j → Y G X mX7_nameHere τ 51 [some (.ref (zGa G 158)), some (.int (nI k)), some (.int 0), some (.int (nI (j + 1)))] [] := by
              intro q
              refine z_iload_n 52 dX7_nameHere_51 rfl rfl ?_
              refine z_if_eq_t 106 dX7_nameHere_52 rfl (rfl) ?_
              exact fin0 (fun z => q (z.2 j (by omega))) _
            refine z_iload_n 52 dX7_nameHere_51 rfl rfl ?_
            refine z_if_eq_f 55 106 dX7_nameHere_52 rfl (by decide) rfl ?_
            refine z_iload_n 56 dX7_nameHere_55 rfl rfl ?_
            refine z_aload_n 57 dX7_nameHere_56 rfl rfl ?_
            refine y_get 60 _ sh158 rfl fl_X7_75 dX7_nameHere_57 rfl ?_
            rw [hE]
            refine z_aload_n 61 dX7_nameHere_60 rfl rfl ?_
            refine y_get 64 _ sh158 rfl fl_X7_66 dX7_nameHere_61 rfl ?_
            rw [hS]
            refine z_isubN 65 rfl rfl hse dX7_nameHere_64 rfl ?_
            refine z_icmp_ge_f 68 106 dX7_nameHere_65 rfl (nI_ge hj (by omega)) rfl ?_
            refine z_aload_n 69 dX7_nameHere_68 rfl rfl ?_
            refine z_aload_n 70 dX7_nameHere_69 rfl rfl ?_
            refine y_get 73 _ sh158 rfl fl_X7_66 dX7_nameHere_70 rfl ?_
            rw [hS]
            refine z_iload_n 74 dX7_nameHere_73 rfl rfl ?_
            refine z_iaddN 75 rfl rfl dX7_nameHere_74 rfl ?_
            refine y_cVs 78 _ (c_byteAt hT ok (by omega)) sh158 cv_X7_78 ⟨by decide, by decide, rfl, rfl⟩ (Nat.le_of_ble_eq_true rfl) dX7_nameHere_75 rfl rfl ?_
            rw [ev]
            refine z_aload_n 79 dX7_nameHere_78 rfl rfl ?_
            refine y_getr 82 _ sh158 rfl fl_X7_22 dX7_nameHere_79 rfl ?_
            refine z_aload_n 83 dX7_nameHere_82 rfl rfl ?_
            refine y_getr 86 _ sh158 rfl fl_X7_19 dX7_nameHere_83 rfl ?_
            refine z_iload_n 87 dX7_nameHere_86 rfl rfl ?_
            refine y_ld 88 _ k sh162 rfl (by omega) (by omega) dX7_nameHere_87 rfl ?_
            rw [q2]
            refine z_iload_n 89 dX7_nameHere_88 rfl rfl ?_
            refine z_iaddN 90 rfl rfl dX7_nameHere_89 rfl ?_
            refine y_ld 91 _ (cutN.getD k 0 + j) sh163 rfl (by omega) (by omega) dX7_nameHere_90 rfl ?_
            rw [q3]
            refine z_icmp_ne 98 94 dX7_nameHere_91 rfl rfl (fun h91 => ?_) (fun h91 => ?_)
            · skip
              have q : ¬ B (s + j) = nmC k j := fun z => h91 (by rw [z])
              refine z_iconst 99 dX7_nameHere_98 vi0 rfl ?_
              refine z_istore_n 100 [_, _, _, _] dX7_nameHere_99 (by decide) rfl rfl rfl ?_
              refine z_iinc 103 [_, _, _, _] dX7_nameHere_100 rfl (show _ + _ = nI (_ + 1) from nI_1 _) (by decide) rfl rfl rfl ?_
              refine z_goto 51 dX7_nameHere_103 rfl ?_
              exact fail0 q
            · skip
              have q := nI_eqL (by omega) (by omega) h91
              refine z_iconst 95 dX7_nameHere_94 vi1 rfl ?_
              refine z_goto 99 dX7_nameHere_95 rfl ?_
              refine z_istore_n 100 [_, _, _, _] dX7_nameHere_99 (by decide) rfl rfl rfl ?_
              refine z_iinc 103 [_, _, _, _] dX7_nameHere_100 rfl (show _ + _ = nI (_ + 1) from nI_1 _) (by decide) rfl rfl rfl ?_
              refine z_goto 51 dX7_nameHere_103 rfl ?_
              exact ih2 (fun j' hj' => by
                  by_cases z : j' = j
                  · rw [z]; exact q
                  · exact hp j' (by omega))
        · skip
          refine z_iload_n 3 dX7_nameHere_2 rfl rfl ?_
          refine z_bipush 5 dX7_nameHere_3 vb6 rfl ?_
          refine z_icmp_ge_f 8 118 dX7_nameHere_5 rfl (nI_ge (b := 6) k6 (by decide)) rfl ?_
          refine z_aload_n 9 dX7_nameHere_8 rfl rfl ?_
          refine y_get 12 _ sh158 rfl fl_X7_72 dX7_nameHere_9 rfl ?_
          rw [hO]
          refine z_iconst 13 dX7_nameHere_12 vi1 rfl ?_
          refine z_icmp_ne_f 16 118 dX7_nameHere_13 rfl (by rw [c1]; rfl) rfl ?_
          refine z_aload_n 17 dX7_nameHere_16 rfl rfl ?_
          refine y_get 20 _ sh158 rfl fl_X7_75 dX7_nameHere_17 rfl ?_
          rw [hE]
          refine z_aload_n 21 dX7_nameHere_20 rfl rfl ?_
          refine y_get 24 _ sh158 rfl fl_X7_66 dX7_nameHere_21 rfl ?_
          rw [hS]
          refine z_isubN 25 rfl rfl hse dX7_nameHere_24 rfl ?_
          refine z_aload_n 26 dX7_nameHere_25 rfl rfl ?_
          refine y_getr 29 _ sh158 rfl fl_X7_19 dX7_nameHere_26 rfl ?_
          refine z_iload_n 30 dX7_nameHere_29 rfl rfl ?_
          refine z_iconst 31 dX7_nameHere_30 vi1 rfl ?_
          refine z_iaddN 32 rfl (show (1 : Int32) = nI 1 from rfl) dX7_nameHere_31 rfl ?_
          refine y_ld 33 _ (k + 1) sh162 rfl (by omega) (by omega) dX7_nameHere_32 rfl ?_
          rw [q1]
          refine z_aload_n 34 dX7_nameHere_33 rfl rfl ?_
          refine y_getr 37 _ sh158 rfl fl_X7_19 dX7_nameHere_34 rfl ?_
          refine z_iload_n 38 dX7_nameHere_37 rfl rfl ?_
          refine y_ld 39 _ k sh162 rfl (by omega) (by omega) dX7_nameHere_38 rfl ?_
          rw [q2]
          refine z_isub 40 dX7_nameHere_39 rfl ?_
          rw [len0]
          refine z_icmp_ne_t 47 dX7_nameHere_40 rfl (fun q => h1 (nI_eqL (by omega) (by omega) q)) ?_
          refine z_iconst 48 dX7_nameHere_47 vi0 rfl ?_
          refine z_istore_n 49 [_, _, _, _] dX7_nameHere_48 (by decide) rfl rfl rfl ?_
          refine z_iconst 50 dX7_nameHere_49 vi0 rfl ?_
          refine z_istore_n 51 [_, _, _, _] dX7_nameHere_50 (by decide) rfl rfl rfl ?_
          refine z_iload_n 52 dX7_nameHere_51 rfl rfl ?_
          refine z_if_eq_t 106 dX7_nameHere_52 rfl (rfl) ?_
          exact fin0 (fun z => h1 z.1) _
    refine z_iconst 1 dX7_nameHere_0 vi0 rfl ?_
    refine z_istore_n 2 [_, _, _, _] dX7_nameHere_1 (by decide) rfl rfl rfl ?_
    exact key 6 0 _ _ rfl rfl
  · have ek : lnK B so s e = 6 := by rw [lnK, if_neg c1]
    rw [ek] at hq
    refine z_iconst 1 dX7_nameHere_0 vi0 rfl ?_
    refine z_istore_n 2 [_, _, _, _] dX7_nameHere_1 (by decide) rfl rfl rfl ?_
    refine z_iload_n 3 dX7_nameHere_2 rfl rfl ?_
    refine z_bipush 5 dX7_nameHere_3 vb6 rfl ?_
    refine z_icmp_ge_f 8 118 dX7_nameHere_5 rfl (by decide) rfl ?_
    refine z_aload_n 9 dX7_nameHere_8 rfl rfl ?_
    refine y_get 12 _ sh158 rfl fl_X7_72 dX7_nameHere_9 rfl ?_
    rw [hO]
    refine z_iconst 13 dX7_nameHere_12 vi1 rfl ?_
    refine z_icmp_ne_t 118 dX7_nameHere_13 rfl (fun q => c1 (nI_eqL (b := 1) (by omega) (by decide) q)) ?_
    refine z_bipush 120 dX7_nameHere_118 vbm4 rfl ?_
    refine z_iret hq rfl dX7_nameHere_120 rfl rfl ?_
    exact ⟨rfl, rfl⟩

