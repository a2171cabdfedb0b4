def rmF (tn : Nat) (B : Nat → Nat) (k e : Nat) (Q : Pg) (T : Int32) : Sum (Nat × Nat) Ln := if k = 5 then lentM tn B e Q T else if k = 4 then oneM tn B e Q T else colM tn B e k Q T
set_option maxRecDepth 100000 in
set_option maxHeartbeats 4000000 in
theorem c_readMore {l : Launch} {G : zG} {τ : Nat → Int32} {tn e k : Nat} {B : Nat → Nat} {Q : Pg} {T : Int32} (hT : hRa τ tn B) (ok : okT tn B) (he : e ≤ tn) (hP : PS tn B τ (.inr e)) (hD : hTd τ Q T) (hk : k < 6) (hq5 : k < 4 → Q 56 < 5) (hq4 : k = 4 → Q 57 < 4) : zMet l yX7_readMore mX7_readMore [.ref (zGa G 158), .int (nI k)] G (zW G τ) (zP G (fun v τ' => v = none ∧ PS tn B τ' (mapA (rmF tn B k e Q T)) ∧ (∀ x, rmF tn B k e Q T = .inr x → hTd τ' x.2.1 x.2.2) ∧ offP τ' τ)) := by
  have h6 := ok.1
  refine zMet.of (by decide) rfl (Nat.le_of_ble_eq_true rfl) (Or.inr rfl) fun X hX hq => ?_
  subst hX
  show Y G X mX7_readMore τ 0 [some (.ref (zGa G 158)), some (.int (nI k))] []
  by_cases c3 : k < 4
  · have eR : rmF tn B k e Q T = colM tn B e k Q T := by rw [rmF, if_neg (by omega), if_neg (by omega)]
    rw [eR] at hq
    have cc := c_readColour7 (l := zXl X) (G := G) (k := k) hT ok he hP hD (hq5 c3)
    refine z_iload_n 1 dX7_readMore_0 rfl rfl ?_
    refine z_iconst 2 dX7_readMore_1 vi3 rfl ?_
    refine z_icmp_gt_f 5 13 dX7_readMore_2 rfl (nI_nlt (a := 3) (b := k) (by omega) (by omega)) rfl ?_
    refine z_aload_n 6 dX7_readMore_5 rfl rfl ?_
    refine z_iload_n 7 dX7_readMore_6 rfl rfl ?_
    refine y_cVP 10 _ (cc) sh158 cv_X7_118 ⟨by decide, by decide, rfl, rfl⟩ (Nat.le_of_ble_eq_true rfl) dX7_readMore_7 rfl rfl (fun v7 σ7 hp7 => ?_)
    obtain ⟨rfl, w1, w2, w3⟩ := hp7
    show Y G X mX7_readMore _ 10 _ []
    refine z_goto 73 dX7_readMore_10 rfl ?_
    refine z_vret hq rfl dX7_readMore_73 rfl rfl ?_
    refine ⟨_, ?_, rfl⟩
    exact ⟨rfl, w1, w2, w3⟩
  by_cases c4 : k = 4
  · have eR : rmF tn B k e Q T = oneM tn B e Q T := by rw [rmF, if_neg (by omega), if_pos c4]
    rw [eR] at hq
    obtain ⟨c, hc⟩ : ∃ c, c = Q 57 := ⟨_, rfl⟩
    have c4' := hq4 c4
    have rc : τ (400 * 158 + 5) = nI c := by rw [hc]; exact hD.1.2.2
    have ok0 : okR tn (.inr e) := he
    have cn0 := c_number (l := zXl X) (G := G) (most := 99) hT ok ok0 hP (by decide)
    have ok1 := okR_num (B := B) (most := 99) ok0
    generalize hx0 : numR tn B (.inr e) 99 = x0 at cn0 ok1
    refine z_iload_n 1 dX7_readMore_0 rfl rfl ?_
    refine z_iconst 2 dX7_readMore_1 vi3 rfl ?_
    refine z_icmp_gt_t 13 dX7_readMore_2 rfl (nI_lt (a := 3) (b := k) (by omega) (by omega)) ?_
    refine z_iload_n 14 dX7_readMore_13 rfl rfl ?_
    refine z_iconst 15 dX7_readMore_14 vi4 rfl ?_
    refine z_icmp_ne_f 18 69 dX7_readMore_15 rfl (by rw [c4]; rfl) rfl ?_
    refine z_aload_n 19 dX7_readMore_18 rfl rfl ?_
    refine y_getr 22 _ sh158 rfl fl_X7_13 dX7_readMore_19 rfl ?_
    refine z_bipush 24 dX7_readMore_22 vb25 rfl ?_
    refine z_aload_n 25 dX7_readMore_24 rfl rfl ?_
    refine y_get 28 _ sh158 rfl fl_X7_121 dX7_readMore_25 rfl ?_
    rw [rc]
    refine z_iaddN 29 (show (25 : Int32) = nI 25 from rfl) rfl dX7_readMore_28 rfl ?_
    refine z_aload_n 30 dX7_readMore_29 rfl rfl ?_
    refine z_iconst 31 dX7_readMore_30 vi0 rfl ?_
    refine z_bipush 33 dX7_readMore_31 vb99 rfl ?_
    refine y_cVP 36 _ (cn0) sh158 cv_X7_103 ⟨by decide, by decide, rfl, rfl⟩ (Nat.le_of_ble_eq_true rfl) dX7_readMore_33 rfl rfl (fun v33 σ33 hp33 => ?_)
    obtain ⟨rfl, g1, g2⟩ := hp33
    show Y G X mX7_readMore _ 36 _ [.int _, .int _, .ref _]
    skip
    have t1 := hTd_upd (v := valN x0) (hD.off g2) (show 25 + c < 55 by omega)
    have P1 := PS_upd (x := nI (valN x0)) g1 (show 400 * 160 + 0 + (25 + c) < 63212 ∨ 63218 ≤ 400 * 160 + 0 + (25 + c) by omega)
    have a1 := hRa_upd (x := nI (valN x0)) (hT.off g2 h6) (show 400 * 160 + 0 + (25 + c) ≠ 63210 ∧ (400 * 160 + 0 + (25 + c) < 64400 ∨ 64560 ≤ 400 * 160 + 0 + (25 + c)) by omega) h6
    have o1 : offP (upd σ33 (400 * 160 + 0 + (25 + c)) (nI (valN x0))) τ := (offP_upd (by omega)).tr g2.p
    have k1 : upd σ33 (400 * 160 + 0 + (25 + c)) (nI (valN x0)) (400 * 158 + 5) = nI c := (pk_un (by omega)).trans ((g2 _ (by omega)).trans rc)
    refine y_st 37 _ (25 + c) sh160 rfl (by omega) (by omega) dX7_readMore_36 rfl ?_
    skip
    generalize upd σ33 (400 * 160 + 0 + (25 + c)) (nI (valN x0)) = τ1 at t1 P1 a1 o1 k1
    have cn1 := c_number (l := zXl X) (G := G) (most := 99) a1 ok ok1.1 P1 (by decide)
    generalize hx1 : numR tn B (aftN x0) 99 = x1 at cn1
    refine z_aload_n 38 dX7_readMore_37 rfl rfl ?_
    refine y_getr 41 _ sh158 rfl fl_X7_13 dX7_readMore_38 rfl ?_
    refine z_bipush 43 dX7_readMore_41 vb29 rfl ?_
    refine z_aload_n 44 dX7_readMore_43 rfl rfl ?_
    refine y_get 47 _ sh158 rfl fl_X7_121 dX7_readMore_44 rfl ?_
    rw [k1]
    refine z_iaddN 48 (show (29 : Int32) = nI 29 from rfl) rfl dX7_readMore_47 rfl ?_
    refine z_aload_n 49 dX7_readMore_48 rfl rfl ?_
    refine z_iconst 50 dX7_readMore_49 vi0 rfl ?_
    refine z_bipush 52 dX7_readMore_50 vb99 rfl ?_
    refine y_cVP 55 _ (cn1) sh158 cv_X7_103 ⟨by decide, by decide, rfl, rfl⟩ (Nat.le_of_ble_eq_true rfl) dX7_readMore_52 rfl rfl (fun v52 σ52 hp52 => ?_)
    obtain ⟨rfl, g1, g2⟩ := hp52
    show Y G X mX7_readMore _ 55 _ [.int _, .int _, .ref _]
    skip
    have t2 := hTd_upd (v := valN x1) (t1.off g2) (show 29 + c < 55 by omega)
    have P2 := PS_upd (x := nI (valN x1)) g1 (show 400 * 160 + 0 + (29 + c) < 63212 ∨ 63218 ≤ 400 * 160 + 0 + (29 + c) by omega)
    have o2 : offP (upd σ52 (400 * 160 + 0 + (29 + c)) (nI (valN x1))) τ := (offP_upd (by omega)).tr (g2.p.tr o1)
    have k2 : upd σ52 (400 * 160 + 0 + (29 + c)) (nI (valN x1)) (400 * 158 + 5) = nI c := (pk_un (by omega)).trans ((g2 _ (by omega)).trans k1)
    refine y_st 56 _ (29 + c) sh160 rfl (by omega) (by omega) dX7_readMore_55 rfl ?_
    skip
    generalize upd σ52 (400 * 160 + 0 + (29 + c)) (nI (valN x1)) = τ2 at t2 P2 o2 k2
    have eM : mapA (oneM tn B e Q T) = aftN x1 ∧ ∀ x, oneM tn B e Q T = .inr x → x = (x.1, oneQ Q (valN x0) (valN x1), T) := by
      rw [oneM, show numF tn B e 99 = x0 from hx0]
      cases x0 with
      | inl q => subst hx1; exact ⟨rfl, fun x hx => by cases hx⟩
      | inr q =>
        obtain ⟨v0, s0, e0⟩ := q
        rw [bnd_r]; dsimp only
        rw [show numF tn B e0 99 = x1 from hx1]
        cases x1 with
        | inl q => exact ⟨rfl, fun x hx => by cases hx⟩
        | inr q => obtain ⟨v1, s1, e1⟩ := q; exact ⟨rfl, fun x hx => by cases hx; rfl⟩
    have eQ : un (un (un Q (25 + c) (valN x0)) (29 + c) (valN x1)) 57 (c + 1) = oneQ Q (valN x0) (valN x1) := by
      rw [oneQ, ← hc, un_co (i := 29 + c) (j := 57) (by omega), un_co (i := 25 + c) (j := 57) (by omega)]
    refine z_aload_n 57 dX7_readMore_56 rfl rfl ?_
    refine z_dup 58 dX7_readMore_57 rfl rfl ?_
    refine y_get 61 _ sh158 rfl fl_X7_121 dX7_readMore_58 rfl ?_
    rw [k2]
    refine z_iconst 62 dX7_readMore_61 vi1 rfl ?_
    refine z_iaddN 63 rfl (show (1 : Int32) = nI 1 from rfl) dX7_readMore_62 rfl ?_
    refine y_putI 66 _ sh158 rfl fp_X7_121 dX7_readMore_63 rfl ?_
    refine z_goto 73 dX7_readMore_66 rfl ?_
    skip
    refine z_vret hq rfl dX7_readMore_73 rfl rfl ⟨upd τ2 (400 * 158 + 5) (nI (c + 1)), ⟨rfl, ?_, fun x hx => ?_, fun a ha => (pk_un (by omega)).trans (o2 a ha)⟩, rfl⟩
    · rw [eM.1]; exact PS_upd P2 (by omega)
    · rw [eM.2 x hx]
      show hTd _ (oneQ Q (valN x0) (valN x1)) T
      obtain ⟨⟨q1, q2, q3⟩, q4, o, o2, q5, q6, q7, q8⟩ := t2
      rw [← eQ]
      refine ⟨⟨fun i hi => ?_, ?_, by rw [pk_us, un_s]⟩, (pk_un (by omega)).trans q4, o, o2, q5, q6, (pk_un (by omega)).trans q7, (pk_un (by omega)).trans q8⟩
      · rw [pk_un (by omega), un_n (by omega)]; exact q1 i hi
      · rw [pk_un (by omega), un_n (by omega)]; exact q2
  · have c5 : k = 5 := by omega
    have eR : rmF tn B k e Q T = lentM tn B e Q T := by rw [rmF, if_pos c5]
    rw [eR] at hq
    have cc := c_readLent7 (l := zXl X) (G := G) hT ok he hP hD
    refine z_iload_n 1 dX7_readMore_0 rfl rfl ?_
    refine z_iconst 2 dX7_readMore_1 vi3 rfl ?_
    refine z_icmp_gt_t 13 dX7_readMore_2 rfl (nI_lt (a := 3) (b := k) (by omega) (by omega)) ?_
    refine z_iload_n 14 dX7_readMore_13 rfl rfl ?_
    refine z_iconst 15 dX7_readMore_14 vi4 rfl ?_
    refine z_icmp_ne_t 69 dX7_readMore_15 rfl (fun z => c4 (nI_eqL (b := 4) (by omega) (by decide) z)) ?_
    refine z_aload_n 70 dX7_readMore_69 rfl rfl ?_
    refine y_cVP 73 _ (cc) sh158 cv_X7_124 ⟨by decide, by decide, rfl, rfl⟩ (Nat.le_of_ble_eq_true rfl) dX7_readMore_70 rfl rfl (fun v70 σ70 hp70 => ?_)
    obtain ⟨rfl, w1, w2, w3⟩ := hp70
    show Y G X mX7_readMore _ 73 _ []
    refine z_vret hq rfl dX7_readMore_73 rfl rfl ?_
    refine ⟨_, ?_, rfl⟩
    exact ⟨rfl, w1, w2, w3⟩
theorem numF_tl {tn : Nat} {B : Nat → Nat} {a m : Nat} {q : Nat × Nat} (h : tokF tn B a = .inl q) : numF tn B a m = .inl q := by rw [numF, h]
theorem rmF_tl {tn : Nat} {B : Nat → Nat} {k e : Nat} {Q : Pg} {T : Int32} {q : Nat × Nat} (h : tokF tn B e = .inl q) : rmF tn B k e Q T = .inl q := by
  rw [rmF]
  split
  · rw [lentM, numF_tl h, bnd_l]
  split
  · rw [oneM, numF_tl h, bnd_l]
  · rw [colM, numF_tl h, bnd_l]
theorem rmF_ok {tn : Nat} {B : Nat → Nat} {k e a : Nat} {Q Q' : Pg} {T T' : Int32} (he : e ≤ tn) (h : rmF tn B k e Q T = .inr (a, Q', T')) : a ≤ tn := by
  have nl : ∀ {α : Type} {a most : Nat} {f : Tk → Sum (Nat × Nat) α} {y : α}, a ≤ tn → bnd' (numF tn B a most) f = .inr y → ∃ v s0 e0, e0 ≤ tn ∧ f (v, s0, e0) = .inr y := fun {α a most f y} ha h => by
    cases h0 : numF tn B a most with
    | inl q => rw [h0, bnd_l] at h; cases h
    | inr q =>
      obtain ⟨v, s0, e0⟩ := q
      rw [h0, bnd_r] at h
      exact ⟨v, s0, e0, (numF_ok ha h0).2.2.2.1, h⟩
  rw [rmF] at h
  split at h
  · rw [lentM] at h
    obtain ⟨v0, s0, e0, k0, h⟩ := nl he h
    obtain ⟨v1, s1, e1, k1, h⟩ := nl k0 h
    dsimp only at h
    split at h
    · cases h
    obtain ⟨v2, s2, e2, k2, h⟩ := nl k1 h
    cases h; exact k2
  split at h
  · rw [oneM] at h
    obtain ⟨v0, s0, e0, k0, h⟩ := nl he h
    obtain ⟨v1, s1, e1, k1, h⟩ := nl k0 h
    cases h; exact k1
  · rw [colM] at h
    obtain ⟨v0, s0, e0, k0, h⟩ := nl he h
    obtain ⟨v1, s1, e1, k1, h⟩ := nl k0 h
    obtain ⟨v2, s2, e2, k2, h⟩ := nl k1 h
    obtain ⟨v3, s3, e3, k3, h⟩ := nl k2 h
    cases h; exact k3
theorem hCu_off {τ τ' : Nat → Int32} (h : hCu τ) (ho : offP τ' τ) : hCu τ' := ⟨fun i hi => (ho _ (by omega)).trans (h.1 i hi), fun i hi => (ho _ (by omega)).trans (h.2 i hi)⟩
set_option maxRecDepth 100000 in
set_option maxHeartbeats 4000000 in
theorem c_readLine7 {l : Launch} {G : zG} {τ : Nat → Int32} {tn a so s e : Nat} {B : Nat → Nat} {Q : Pg} {T : Int32} (hT : hRa τ tn B) (ok : okT tn B) (hC : hCu τ) (ha : a ≤ tn) (hk : tokF tn B a = .inr (so, s, e)) (hP : PS tn B τ (.inr a)) (hD : hTd τ Q T) (hq5 : Q 56 ≤ 5) (hq4 : Q 57 ≤ 4) : zMet l yX7_readLine mX7_readLine [.ref (zGa G 158)] G (zW G τ) (zP G (fun v τ' => v = none ∧ PS tn B τ' (mapA (lineF tn B (lnK B so s e) s e Q T)) ∧ (∀ x, lineF tn B (lnK B so s e) s e Q T = .inr x → hTd τ' x.2.1 x.2.2) ∧ offP τ' τ)) := by
  have h6 := ok.1
  have k2 := tokF_ok ha hk
  rw [PS, show nrmT tn B (.inr a) = .inr (so, s, e) from hk] at hP
  obtain ⟨p0, p1, p2, p3, p4⟩ := hP
  have cn := c_nameHere (l := l) (G := G) (so := so) hT ok hC k2.2.1 k2.2.2.1 p1 k2.2.2.2.1 p2 p3
  have kle : lnK B so s e ≤ 6 := lnK_le
  refine zMet.of (by decide) rfl (Nat.le_of_ble_eq_true rfl) (Or.inr rfl) fun X hX hq => ?_
  subst hX
  show Y G X mX7_readLine τ 0 [some (.ref (zGa G 158)), none] []
  generalize lnK B so s e = k at cn kle hq
  have bk : bi ((0 : Int64) ≤ (nhV k).toInt64 ∧ (nhV k).toInt64 ≤ 5) = bi (inR (nhV k) 6) := bi_in7 (n := 5) (by decide)
  by_cases c6 : k = 6
  · have eL : lineF tn B k s e Q T = .inl (2, s) := by rw [lineF, if_pos c6]
    rw [eL] at hq
    have ni : ¬ inR (nhV k) 6 := by rw [nhV, if_pos c6]; decide
    have cf := c_fails0 (l := zXl X) (G := G) (τ := τ) (c := 2) p0
    rw [p2] at cf
    refine z_aload_n 1 dX7_readLine_0 rfl rfl ?_
    refine y_cVs 4 _ (cn) sh158 cv_X7_127 ⟨by decide, by decide, rfl, rfl⟩ (Nat.le_of_ble_eq_true rfl) dX7_readLine_1 rfl rfl ?_
    refine z_istore_n 5 [_, _] dX7_readLine_4 (by decide) rfl rfl rfl ?_
    refine z_iload_n 6 dX7_readLine_5 rfl rfl ?_
    refine z_i2l 7 dX7_readLine_6 rfl ?_
    refine z_lconst 8 dX7_readLine_7 vl0 rfl ?_
    refine z_ldc2 11 kc_X7_131 dX7_readLine_8 rfl ?_
    refine y_cSs 14 (c_in) cs_X7_55 ⟨by decide, by decide, rfl, rfl⟩ (Nat.le_of_ble_eq_true rfl) dX7_readLine_11 rfl rfl ?_
    rw [bk]
    refine z_if_ne_f 17 23 dX7_readLine_14 rfl (bi_f ni) rfl ?_
    refine z_aload_n 18 dX7_readLine_17 rfl rfl ?_
    refine z_iconst 19 dX7_readLine_18 vi2 rfl ?_
    refine y_cVv 22 _ (cf) sh158 cv_X7_93 ⟨by decide, by decide, rfl, rfl⟩ (Nat.le_of_ble_eq_true rfl) dX7_readLine_19 rfl rfl ?_
    refine z_vret hq rfl dX7_readLine_22 rfl rfl ?_
    refine ⟨_, ?_, rfl⟩
    exact ⟨rfl, ⟨by rw [pk_un (by omega), pk_us]; rfl, pk_us⟩, fun x hx => (by cases hx), fun a ha => by rw [pk_un (by omega), pk_un (by omega)]⟩
  have ev : nhV k = nI k := by rw [nhV, if_neg c6]
  have yi : inR (nhV k) 6 := by rw [ev]; exact (inR_nI (by omega)).mpr (by omega)
  rw [ev] at bk yi cn
  -- too many
  have full : (k < 4 ∧ Q 56 = 5 ∨ k = 4 ∧ Q 57 = 4) → Y G X mX7_readLine τ 49 [some (.ref (zGa G 158)), some (.int (nI k))] [] := by
    intro h
    have eL : lineF tn B k s e Q T = .inl (5, s) := by
      rw [lineF, if_neg c6, if_neg (by omega)]
      rcases h with h | h
      · rw [if_neg (by omega), colF, if_pos (by omega)]
      · rw [if_pos h.1, oneF, if_pos (by omega)]
    rw [eL] at hq
    have cf := c_fails0 (l := zXl X) (G := G) (τ := τ) (c := 5) p0
    rw [p2] at cf
    have b5 : upd (upd τ (400 * 158 + 12) 5) (400 * 158 + 13) (nI s) (400 * 158 + 12) = nI 5 := by rw [pk_un (by omega), pk_us]; rfl
    refine z_aload_n 50 dX7_readLine_49 rfl rfl ?_
    refine z_iconst 51 dX7_readLine_50 vi5 rfl ?_
    refine y_cVv 54 _ (cf) sh158 cv_X7_93 ⟨by decide, by decide, rfl, rfl⟩ (Nat.le_of_ble_eq_true rfl) dX7_readLine_51 rfl rfl ?_
    refine z_aload_n 55 dX7_readLine_54 rfl rfl ?_
    refine y_cVv 58 _ (c_step1 b5 (by decide) (by decide)) sh158 cv_X7_97 ⟨by decide, by decide, rfl, rfl⟩ (Nat.le_of_ble_eq_true rfl) dX7_readLine_55 rfl rfl ?_
    refine z_aload_n 59 dX7_readLine_58 rfl rfl ?_
    refine y_get 62 _ sh158 rfl fl_X7_63 dX7_readLine_59 rfl ?_
    rw [b5]
    refine z_if_le_f 65 66 dX7_readLine_62 rfl (by decide) rfl ?_
    refine z_vret hq rfl dX7_readLine_65 rfl rfl ?_
    refine ⟨_, ?_, rfl⟩
    exact ⟨rfl, ⟨b5, pk_us⟩, fun x hx => (by cases hx), fun a ha => by rw [pk_un (by omega), pk_un (by omega)]⟩
  -- the line
  have go : (k < 4 → Q 56 < 5) → (k = 4 → Q 57 < 4) → Y G X mX7_readLine τ 54 [some (.ref (zGa G 158)), some (.int (nI k))] [] := by
    intro f5 f4
    have eL : lineF tn B k s e Q T = bnd' (rmF tn B k e Q T) (stpL tn B) := by
      rw [lineF, if_neg c6, rmF]
      by_cases c5 : k = 5
      · rw [if_pos c5, if_pos c5, lent_st]
      · rw [if_neg c5, if_neg c5]
        by_cases c4 : k = 4
        · have := f4 c4
          rw [if_pos c4, if_pos c4, one_st (by omega)]
        · have := f5 (by omega)
          rw [if_neg c4, if_neg c4, col_st (by omega)]
    rw [eL] at hq
    have cs := c_step (l := zXl X) (G := G) hT ok k2.2.2.1 p3 p0
    refine z_aload_n 55 dX7_readLine_54 rfl rfl ?_
    refine y_cVP 58 _ (cs) sh158 cv_X7_97 ⟨by decide, by decide, rfl, rfl⟩ (Nat.le_of_ble_eq_true rfl) dX7_readLine_55 rfl rfl (fun v55 σ55 hp55 => ?_)
    obtain ⟨rfl, w1, w2⟩ := hp55
    show Y G X mX7_readLine _ 58 _ []
    skip
    cases hke : tokF tn B e with
    | inl q =>
      obtain ⟨cc, ss⟩ := q
      rw [hke] at w1
      rw [rmF_tl hke, bnd_l] at hq
      have hb := tokF_l k2.2.2.1 hke
      refine z_aload_n 59 dX7_readLine_58 rfl rfl ?_
      refine y_get 62 _ sh158 rfl fl_X7_63 dX7_readLine_59 rfl ?_
      rw [w1.1]
      refine z_if_le_f 65 66 dX7_readLine_62 rfl (nI_nle (by omega) (by omega)) rfl ?_
      refine z_vret hq rfl dX7_readLine_65 rfl rfl ?_
      refine ⟨_, ?_, rfl⟩
      exact ⟨rfl, w1, fun x hx => (by cases hx), w2.p⟩
    | inr q =>
    obtain ⟨so', s', e'⟩ := q
    have P1 : PS tn B σ55 (.inr e) := w1
    rw [hke] at w1
    have cm := c_readMore (l := zXl X) (G := G) (k := k) (hT.off w2 h6) ok k2.2.2.1 P1 (hD.off w2) (by omega) f5 f4
    refine z_aload_n 59 dX7_readLine_58 rfl rfl ?_
    refine y_get 62 _ sh158 rfl fl_X7_63 dX7_readLine_59 rfl ?_
    rw [w1.1]
    refine z_if_le_t 66 dX7_readLine_62 rfl (by decide) ?_
    refine z_aload_n 67 dX7_readLine_66 rfl rfl ?_
    refine z_iload_n 68 dX7_readLine_67 rfl rfl ?_
    refine y_cVP 71 _ (cm) sh158 cv_X7_133 ⟨by decide, by decide, rfl, rfl⟩ (Nat.le_of_ble_eq_true rfl) dX7_readLine_68 rfl rfl (fun v68 σ68 hp68 => ?_)
    obtain ⟨rfl, g1, g2, g3⟩ := hp68
    show Y G X mX7_readLine _ 71 _ []
    skip
    have oo : offP σ68 τ := g3.tr w2.p
    have a2 := hT.offp oo
    -- broken: nothing more
    have brk : ∀ cc ss, 1 ≤ cc → cc ≤ 6 → σ68 (400 * 158 + 12) = nI cc → σ68 (400 * 158 + 13) = nI ss → bnd' (rmF tn B k e Q T) (stpL tn B) = .inl (cc, ss) → Y G X mX7_readLine σ68 71 [some (.ref (zGa G 158)), some (.int (nI k))] [] := by
      intro cc ss h1 h2 h3 h4 h5
      rw [h5] at hq
      refine z_aload_n 72 dX7_readLine_71 rfl rfl ?_
      refine y_get 75 _ sh158 rfl fl_X7_63 dX7_readLine_72 rfl ?_
      rw [h3]
      refine z_if_ne_t 91 dX7_readLine_75 rfl (nI_ne0 (by omega) (by omega)) ?_
      refine z_aload_n 92 dX7_readLine_91 rfl rfl ?_
      refine y_cVv 95 _ (c_step1 h3 h1 (by omega)) sh158 cv_X7_97 ⟨by decide, by decide, rfl, rfl⟩ (Nat.le_of_ble_eq_true rfl) dX7_readLine_92 rfl rfl ?_
      refine z_vret hq rfl dX7_readLine_95 rfl rfl ?_
      refine ⟨_, ?_, rfl⟩
      exact ⟨rfl, ⟨h3, h4⟩, fun x hx => (by cases hx), oo⟩
    cases hkr : rmF tn B k e Q T with
    | inl q =>
      obtain ⟨cc, ss⟩ := q
      rw [hkr] at g1
      have hb := lineF_l (k := k) (Q := Q) (T := T) (show s ≤ tn by omega) k2.2.2.1 (by rw [eL, hkr, bnd_l])
      exact brk cc ss hb.1 hb.2.1 g1.1 g1.2 (by rw [hkr, bnd_l])
    | inr q =>
    obtain ⟨e3, Q', T'⟩ := q
    rw [hkr] at g1
    have d3 := g2 _ hkr
    have le3 := rmF_ok k2.2.2.1 hkr
    have g1 : aTkR B σ68 (tokF tn B e3) := g1
    cases hk3 : tokF tn B e3 with
    | inl q =>
      obtain ⟨cc, ss⟩ := q
      rw [hk3] at g1
      have hb := tokF_l le3 hk3
      exact brk cc ss (by omega) (by omega) g1.1 g1.2 (by rw [hkr, bnd_r, stpL]; dsimp only; rw [stopF, hk3, bnd_l])
    | inr q =>
    obtain ⟨so3, s3, e4⟩ := q
    rw [hk3] at g1
    obtain ⟨r0, r1, r2, r3, r4⟩ := g1
    have k3 := tokF_ok le3 hk3
    have eS : bnd' (rmF tn B k e Q T) (stpL tn B) = if so3 = 3 then .inr (e4, Q', T') else .inl (2, s3) := by
      rw [hkr, bnd_r, stpL]; dsimp only; rw [stopF, hk3]; dsimp only
      by_cases z : so3 = 3
      · rw [if_pos z, if_pos z, bnd_r]
      · rw [if_neg z, if_neg z, bnd_l]
    rw [eS] at hq
    by_cases z : so3 = 3
    · rw [if_pos z] at hq
      have cs2 := c_step (l := zXl X) (G := G) a2 ok k3.2.2.1 r3 r0
      refine z_aload_n 72 dX7_readLine_71 rfl rfl ?_
      refine y_get 75 _ sh158 rfl fl_X7_63 dX7_readLine_72 rfl ?_
      rw [r0]
      refine z_if_ne_f 78 91 dX7_readLine_75 rfl (rfl) rfl ?_
      refine z_aload_n 79 dX7_readLine_78 rfl rfl ?_
      refine y_get 82 _ sh158 rfl fl_X7_72 dX7_readLine_79 rfl ?_
      rw [r1]
      refine z_iconst 83 dX7_readLine_82 vi3 rfl ?_
      refine z_icmp_eq_t 91 dX7_readLine_83 rfl (by rw [z]; rfl) ?_
      refine z_aload_n 92 dX7_readLine_91 rfl rfl ?_
      refine y_cVP 95 _ (cs2) sh158 cv_X7_97 ⟨by decide, by decide, rfl, rfl⟩ (Nat.le_of_ble_eq_true rfl) dX7_readLine_92 rfl rfl (fun v92 σ92 hp92 => ?_)
      obtain ⟨rfl, v1, v2⟩ := hp92
      show Y G X mX7_readLine _ 95 _ []
      refine z_vret hq rfl dX7_readLine_95 rfl rfl ?_
      refine ⟨_, ?_, rfl⟩
      exact ⟨rfl, v1, fun x hx => (by cases hx; exact d3.off v2), v2.p.tr oo⟩
    · rw [if_neg z] at hq
      have cf := c_fails0 (l := zXl X) (G := G) (τ := σ68) (c := 2) r0
      rw [r2] at cf
      have b2 : upd (upd σ68 (400 * 158 + 12) 2) (400 * 158 + 13) (nI s3) (400 * 158 + 12) = nI 2 := by rw [pk_un (by omega), pk_us]; rfl
      refine z_aload_n 72 dX7_readLine_71 rfl rfl ?_
      refine y_get 75 _ sh158 rfl fl_X7_63 dX7_readLine_72 rfl ?_
      rw [r0]
      refine z_if_ne_f 78 91 dX7_readLine_75 rfl (rfl) rfl ?_
      refine z_aload_n 79 dX7_readLine_78 rfl rfl ?_
      refine y_get 82 _ sh158 rfl fl_X7_72 dX7_readLine_79 rfl ?_
      rw [r1]
      refine z_iconst 83 dX7_readLine_82 vi3 rfl ?_
      refine z_icmp_eq_f 86 91 dX7_readLine_83 rfl (fun q => z (nI_eqL (b := 3) (by omega) (by decide) q)) rfl ?_
      refine z_aload_n 87 dX7_readLine_86 rfl rfl ?_
      refine z_iconst 88 dX7_readLine_87 vi2 rfl ?_
      refine y_cVv 91 _ (cf) sh158 cv_X7_93 ⟨by decide, by decide, rfl, rfl⟩ (Nat.le_of_ble_eq_true rfl) dX7_readLine_88 rfl rfl ?_
      refine z_aload_n 92 dX7_readLine_91 rfl rfl ?_
      refine y_cVv 95 _ (c_step1 b2 (by decide) (by decide)) sh158 cv_X7_97 ⟨by decide, by decide, rfl, rfl⟩ (Nat.le_of_ble_eq_true rfl) dX7_readLine_92 rfl rfl ?_
      refine z_vret hq rfl dX7_readLine_95 rfl rfl ?_
      refine ⟨_, ?_, rfl⟩
      exact ⟨rfl, ⟨b2, pk_us⟩, fun x hx => (by cases hx), fun a ha => by rw [pk_un (by omega), pk_un (by omega)]; exact oo a ha⟩
  have q56 := hD.1.2.1
  have q57 := hD.1.2.2
  by_cases c4 : k < 4
  · by_cases c7 : Q 56 = 5
    · skip
      refine z_aload_n 1 dX7_readLine_0 rfl rfl ?_
      refine y_cVs 4 _ (cn) sh158 cv_X7_127 ⟨by decide, by decide, rfl, rfl⟩ (Nat.le_of_ble_eq_true rfl) dX7_readLine_1 rfl rfl ?_
      refine z_istore_n 5 [_, _] dX7_readLine_4 (by decide) rfl rfl rfl ?_
      refine z_iload_n 6 dX7_readLine_5 rfl rfl ?_
      refine z_i2l 7 dX7_readLine_6 rfl ?_
      refine z_lconst 8 dX7_readLine_7 vl0 rfl ?_
      refine z_ldc2 11 kc_X7_131 dX7_readLine_8 rfl ?_
      refine y_cSs 14 (c_in) cs_X7_55 ⟨by decide, by decide, rfl, rfl⟩ (Nat.le_of_ble_eq_true rfl) dX7_readLine_11 rfl rfl ?_
      rw [bk]
      refine z_if_ne_t 23 dX7_readLine_14 rfl (by rw [bi_t yi]; decide) ?_
      refine z_iload_n 24 dX7_readLine_23 rfl rfl ?_
      refine z_iconst 25 dX7_readLine_24 vi3 rfl ?_
      refine z_icmp_gt_f 28 36 dX7_readLine_25 rfl (nI_nlt (a := 3) (b := k) (by omega) (by omega)) rfl ?_
      refine z_aload_n 29 dX7_readLine_28 rfl rfl ?_
      refine y_get 32 _ sh158 rfl fl_X7_100 dX7_readLine_29 rfl ?_
      rw [q56]
      refine z_iconst 33 dX7_readLine_32 vi5 rfl ?_
      refine z_icmp_eq_t 49 dX7_readLine_33 rfl (by rw [c7]; rfl) ?_
      exact full (Or.inl ⟨c4, c7⟩)
    · skip
      refine z_aload_n 1 dX7_readLine_0 rfl rfl ?_
      refine y_cVs 4 _ (cn) sh158 cv_X7_127 ⟨by decide, by decide, rfl, rfl⟩ (Nat.le_of_ble_eq_true rfl) dX7_readLine_1 rfl rfl ?_
      refine z_istore_n 5 [_, _] dX7_readLine_4 (by decide) rfl rfl rfl ?_
      refine z_iload_n 6 dX7_readLine_5 rfl rfl ?_
      refine z_i2l 7 dX7_readLine_6 rfl ?_
      refine z_lconst 8 dX7_readLine_7 vl0 rfl ?_
      refine z_ldc2 11 kc_X7_131 dX7_readLine_8 rfl ?_
      refine y_cSs 14 (c_in) cs_X7_55 ⟨by decide, by decide, rfl, rfl⟩ (Nat.le_of_ble_eq_true rfl) dX7_readLine_11 rfl rfl ?_
      rw [bk]
      refine z_if_ne_t 23 dX7_readLine_14 rfl (by rw [bi_t yi]; decide) ?_
      refine z_iload_n 24 dX7_readLine_23 rfl rfl ?_
      refine z_iconst 25 dX7_readLine_24 vi3 rfl ?_
      refine z_icmp_gt_f 28 36 dX7_readLine_25 rfl (nI_nlt (a := 3) (b := k) (by omega) (by omega)) rfl ?_
      refine z_aload_n 29 dX7_readLine_28 rfl rfl ?_
      refine y_get 32 _ sh158 rfl fl_X7_100 dX7_readLine_29 rfl ?_
      rw [q56]
      refine z_iconst 33 dX7_readLine_32 vi5 rfl ?_
      refine z_icmp_eq_f 36 49 dX7_readLine_33 rfl (fun z => c7 (nI_eqL (b := 5) (by omega) (by decide) z)) rfl ?_
      refine z_iload_n 37 dX7_readLine_36 rfl rfl ?_
      refine z_iconst 38 dX7_readLine_37 vi4 rfl ?_
      refine z_icmp_ne_t 54 dX7_readLine_38 rfl (fun z => absurd (nI_eqL (b := 4) (by omega) (by decide) z) (by omega)) ?_
      exact go (fun _ => by omega) (fun _ => by omega)
  · by_cases c5 : k = 4
    · by_cases c7 : Q 57 = 4
      · skip
        refine z_aload_n 1 dX7_readLine_0 rfl rfl ?_
        refine y_cVs 4 _ (cn) sh158 cv_X7_127 ⟨by decide, by decide, rfl, rfl⟩ (Nat.le_of_ble_eq_true rfl) dX7_readLine_1 rfl rfl ?_
        refine z_istore_n 5 [_, _] dX7_readLine_4 (by decide) rfl rfl rfl ?_
        refine z_iload_n 6 dX7_readLine_5 rfl rfl ?_
        refine z_i2l 7 dX7_readLine_6 rfl ?_
        refine z_lconst 8 dX7_readLine_7 vl0 rfl ?_
        refine z_ldc2 11 kc_X7_131 dX7_readLine_8 rfl ?_
        refine y_cSs 14 (c_in) cs_X7_55 ⟨by decide, by decide, rfl, rfl⟩ (Nat.le_of_ble_eq_true rfl) dX7_readLine_11 rfl rfl ?_
        rw [bk]
        refine z_if_ne_t 23 dX7_readLine_14 rfl (by rw [bi_t yi]; decide) ?_
        refine z_iload_n 24 dX7_readLine_23 rfl rfl ?_
        refine z_iconst 25 dX7_readLine_24 vi3 rfl ?_
        refine z_icmp_gt_t 36 dX7_readLine_25 rfl (nI_lt (a := 3) (b := k) (by omega) (by omega)) ?_
        refine z_iload_n 37 dX7_readLine_36 rfl rfl ?_
        refine z_iconst 38 dX7_readLine_37 vi4 rfl ?_
        refine z_icmp_ne_f 41 54 dX7_readLine_38 rfl (by rw [c5]; rfl) rfl ?_
        refine z_aload_n 42 dX7_readLine_41 rfl rfl ?_
        refine y_get 45 _ sh158 rfl fl_X7_121 dX7_readLine_42 rfl ?_
        rw [q57]
        refine z_iconst 46 dX7_readLine_45 vi4 rfl ?_
        refine z_icmp_ne_f 49 54 dX7_readLine_46 rfl (by rw [c7]; rfl) rfl ?_
        exact full (Or.inr ⟨c5, c7⟩)
      · skip
        refine z_aload_n 1 dX7_readLine_0 rfl rfl ?_
        refine y_cVs 4 _ (cn) sh158 cv_X7_127 ⟨by decide, by decide, rfl, rfl⟩ (Nat.le_of_ble_eq_true rfl) dX7_readLine_1 rfl rfl ?_
        refine z_istore_n 5 [_, _] dX7_readLine_4 (by decide) rfl rfl rfl ?_
        refine z_iload_n 6 dX7_readLine_5 rfl rfl ?_
        refine z_i2l 7 dX7_readLine_6 rfl ?_
        refine z_lconst 8 dX7_readLine_7 vl0 rfl ?_
        refine z_ldc2 11 kc_X7_131 dX7_readLine_8 rfl ?_
        refine y_cSs 14 (c_in) cs_X7_55 ⟨by decide, by decide, rfl, rfl⟩ (Nat.le_of_ble_eq_true rfl) dX7_readLine_11 rfl rfl ?_
        rw [bk]
        refine z_if_ne_t 23 dX7_readLine_14 rfl (by rw [bi_t yi]; decide) ?_
        refine z_iload_n 24 dX7_readLine_23 rfl rfl ?_
        refine z_iconst 25 dX7_readLine_24 vi3 rfl ?_
        refine z_icmp_gt_t 36 dX7_readLine_25 rfl (nI_lt (a := 3) (b := k) (by omega) (by omega)) ?_
        refine z_iload_n 37 dX7_readLine_36 rfl rfl ?_
        refine z_iconst 38 dX7_readLine_37 vi4 rfl ?_
        refine z_icmp_ne_f 41 54 dX7_readLine_38 rfl (by rw [c5]; rfl) rfl ?_
        refine z_aload_n 42 dX7_readLine_41 rfl rfl ?_
        refine y_get 45 _ sh158 rfl fl_X7_121 dX7_readLine_42 rfl ?_
        rw [q57]
        refine z_iconst 46 dX7_readLine_45 vi4 rfl ?_
        refine z_icmp_ne_t 54 dX7_readLine_46 rfl (fun z => c7 (nI_eqL (b := 4) (by omega) (by decide) z)) ?_
        exact go (fun _ => by omega) (fun _ => by omega)
    · skip
      refine z_aload_n 1 dX7_readLine_0 rfl rfl ?_
      refine y_cVs 4 _ (cn) sh158 cv_X7_127 ⟨by decide, by decide, rfl, rfl⟩ (Nat.le_of_ble_eq_true rfl) dX7_readLine_1 rfl rfl ?_
      refine z_istore_n 5 [_, _] dX7_readLine_4 (by decide) rfl rfl rfl ?_
      refine z_iload_n 6 dX7_readLine_5 rfl rfl ?_
      refine z_i2l 7 dX7_readLine_6 rfl ?_
      refine z_lconst 8 dX7_readLine_7 vl0 rfl ?_
      refine z_ldc2 11 kc_X7_131 dX7_readLine_8 rfl ?_
      refine y_cSs 14 (c_in) cs_X7_55 ⟨by decide, by decide, rfl, rfl⟩ (Nat.le_of_ble_eq_true rfl) dX7_readLine_11 rfl rfl ?_
      rw [bk]
      refine z_if_ne_t 23 dX7_readLine_14 rfl (by rw [bi_t yi]; decide) ?_
      refine z_iload_n 24 dX7_readLine_23 rfl rfl ?_
      refine z_iconst 25 dX7_readLine_24 vi3 rfl ?_
      refine z_icmp_gt_t 36 dX7_readLine_25 rfl (nI_lt (a := 3) (b := k) (by omega) (by omega)) ?_
      refine z_iload_n 37 dX7_readLine_36 rfl rfl ?_
      refine z_iconst 38 dX7_readLine_37 vi4 rfl ?_
      refine z_icmp_ne_t 54 dX7_readLine_38 rfl (fun z => c5 (nI_eqL (b := 4) (by omega) (by decide) z)) ?_
      exact go (fun _ => by omega) (fun _ => by omega)

