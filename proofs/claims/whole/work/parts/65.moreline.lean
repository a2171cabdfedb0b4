set_option maxRecDepth 100000 in
set_option maxHeartbeats 4000000 in
theorem c_readLent7 {l : Launch} {G : zG} {τ : Nat → Int32} {tn e : Nat} {B : Nat → Nat} {Q : Pg} {T : Int32} (hT : hRa τ tn B) (ok : okT tn B) (he : e ≤ tn) (hP : PS tn B τ (.inr e)) (hD : hTd τ Q T) : zMet l yX7_readLent mX7_readLent [.ref (zGa G 158)] G (zW G τ) (zP G (fun v τ' => v = none ∧ PS tn B τ' (mapA (lentM tn B e Q T)) ∧ (∀ x, lentM tn B e Q T = .inr x → hTd τ' x.2.1 x.2.2) ∧ offP τ' τ)) := by
  have h6 := ok.1
  have ok0 : okR tn (.inr e) := he
  have cn0 := c_number (l := l) (G := G) (most := 3) hT ok ok0 hP (by decide)
  have ok1 := okR_num (B := B) (most := 3) ok0
  generalize hx0 : numR tn B (.inr e) 3 = x0 at cn0 ok1
  refine zMet.of (by decide) rfl (Nat.le_of_ble_eq_true rfl) (Or.inr rfl) fun X hX hq => ?_
  subst hX
  show Y G X mX7_readLent τ 0 [some (.ref (zGa G 158)), none, none] []
  refine z_aload_n 1 dX7_readLent_0 rfl rfl ?_
  refine z_iconst 2 dX7_readLent_1 vi0 rfl ?_
  refine z_iconst 3 dX7_readLent_2 vi3 rfl ?_
  refine y_cVP 6 _ (cn0) sh158 cv_X7_103 ⟨by decide, by decide, rfl, rfl⟩ (Nat.le_of_ble_eq_true rfl) dX7_readLent_3 rfl rfl (fun v3 σ3 hp3 => ?_)
  obtain ⟨rfl, g1, g2⟩ := hp3
  show Y G X mX7_readLent _ 6 _ [.int _]
  skip
  obtain ⟨p, hp⟩ : ∃ p, p = valN x0 := ⟨_, rfl⟩
  have p4 : p < 4 := by rw [hp]; have := ok1.2; omega
  rw [← hp]
  have a0 := hT.off g2 h6
  obtain ⟨d1, d2, o, o2, d3, d4, d5, d6⟩ := hD.off g2
  have lm := last_max o (by have := d3.1; omega) p (by omega)
  -- behind highOne
  suffices m1 : ∀ τ1, PS tn B τ1 (aftN x0) → hRa τ1 tn B → hRp τ1 Q → τ1 (400 * 158 + 6) = T → τ1 (400 * 158 + 7) = nI (max o (p + 1)) - 1 → τ1 (400 * 158 + 8) = nI o2 - 1 → offP τ1 τ → Y G X mX7_readLent τ1 27 [some (.ref (zGa G 158)), some (.int (nI p)), none] [] by
    refine z_istore_n 7 [_, _, _] dX7_readLent_6 (by decide) rfl rfl rfl ?_
    refine z_aload_n 8 dX7_readLent_7 rfl rfl ?_
    refine z_iload_n 9 dX7_readLent_8 rfl rfl ?_
    refine z_aload_n 10 dX7_readLent_9 rfl rfl ?_
    refine y_get 13 _ sh158 rfl fl_X7_107 dX7_readLent_10 rfl ?_
    rw [d5]
    refine z_icmp_le 20 16 dX7_readLent_13 rfl rfl (fun h13 => ?_) (fun h13 => ?_)
    · skip
      have z : nI o - 1 = nI (max o (p + 1)) - 1 := by rw [← lm, if_neg (Int32.not_lt.mpr h13)]
      refine z_aload_n 21 dX7_readLent_20 rfl rfl ?_
      refine y_get 24 _ sh158 rfl fl_X7_107 dX7_readLent_21 rfl ?_
      rw [d5]
      refine y_putI 27 _ sh158 rfl fp_X7_107 dX7_readLent_24 rfl ?_
      exact m1 _ (PS_upd g1 (by omega)) (hRa_upd a0 (by omega) h6) ⟨fun i hi => (pk_un (by omega)).trans (d1.1 i hi), (pk_un (by omega)).trans d1.2.1, (pk_un (by omega)).trans d1.2.2⟩ ((pk_un (by omega)).trans d2) (pk_us.trans z) ((pk_un (by omega)).trans d6) (fun a ha => (pk_un (by omega)).trans (g2.p a ha))
    · skip
      have z : nI p = nI (max o (p + 1)) - 1 := by rw [← lm, if_pos (Int32.not_le.mp h13)]
      refine z_iload_n 17 dX7_readLent_16 rfl rfl ?_
      refine z_goto 24 dX7_readLent_17 rfl ?_
      refine y_putI 27 _ sh158 rfl fp_X7_107 dX7_readLent_24 rfl ?_
      exact m1 _ (PS_upd g1 (by omega)) (hRa_upd a0 (by omega) h6) ⟨fun i hi => (pk_un (by omega)).trans (d1.1 i hi), (pk_un (by omega)).trans d1.2.1, (pk_un (by omega)).trans d1.2.2⟩ ((pk_un (by omega)).trans d2) (pk_us.trans z) ((pk_un (by omega)).trans d6) (fun a ha => (pk_un (by omega)).trans (g2.p a ha))
  intro τ1 P1 a1 q1 q2 q3 q4 o1
  -- the second number, whether it was told twice or not
  suffices m2 : ∀ τ2 r1, okR tn r1 → PS tn B τ2 r1 → (∀ x1, x1 = numR tn B r1 4 → mapA (lentM tn B e Q T) = aftN (numR tn B (aftN x1) 99) ∧ ∀ x, lentM tn B e Q T = .inr x → x = (x.1, un Q (33 + 5 * p + valN x1) (valN (numR tn B (aftN x1) 99)), T ||| ((1 : Int32) <<< (nI (5 * p + valN x1) &&& 31)))) → hRa τ2 tn B → hRp τ2 Q → τ2 (400 * 158 + 6) = T → τ2 (400 * 158 + 7) = nI (max o (p + 1)) - 1 → τ2 (400 * 158 + 8) = nI o2 - 1 → offP τ2 τ → Y G X mX7_readLent τ2 81 [some (.ref (zGa G 158)), some (.int (nI p)), none] [] by
    -- is it told twice?
    rw [PS] at P1
    have nx := numR_t (tn := tn) (B := B) (r := aftN x0) (most := 4)
    have plain : (∀ s, ¬ lentM tn B e Q T = .inl (4, s)) → (∀ x1, x1 = numR tn B (aftN x0) 4 → mapA (lentM tn B e Q T) = aftN (numR tn B (aftN x1) 99) ∧ ∀ x, lentM tn B e Q T = .inr x → x = (x.1, un Q (33 + 5 * p + valN x1) (valN (numR tn B (aftN x1) 99)), T ||| ((1 : Int32) <<< (nI (5 * p + valN x1) &&& 31)))) := by
      intro hn x1 hx1
      rw [lentM, show numF tn B e 3 = x0 from hx0] at hn ⊢
      cases x0 with
      | inl q => subst hx1; exact ⟨rfl, fun x hx => by cases hx⟩
      | inr q =>
        obtain ⟨v0, s0, e0⟩ := q
        rw [bnd_r] at hn ⊢; dsimp only at hn ⊢
        have hp' : p = v0 := hp
        rw [show numF tn B e0 4 = x1 from hx1.symm] at hn ⊢
        cases x1 with
        | inl q => exact ⟨rfl, fun x hx => by cases hx⟩
        | inr q =>
          obtain ⟨v1, s1, e1⟩ := q
          rw [bnd_r] at hn ⊢; dsimp only at hn ⊢
          by_cases hbt : hb T (5 * v0 + v1)
          · rw [if_pos hbt] at hn
            exact absurd rfl (hn s1)
          · rw [if_neg hbt]
            show _ = aftN (numF tn B e1 99) ∧ ∀ x, _ → x = (x.1, un Q (33 + 5 * p + v1) (valN (numF tn B e1 99)), T ||| ((1 : Int32) <<< (nI (5 * p + v1) &&& 31)))
            rw [hp']
            cases numF tn B e1 99 with
            | inl q => exact ⟨rfl, fun x hx => by cases hx⟩
            | inr q => obtain ⟨v2, s2, e2⟩ := q; exact ⟨rfl, fun x hx => by cases hx; rfl⟩
    have notTwice : (∀ v s1 e1, numR tn B (aftN x0) 4 = .inr (v, s1, e1) → ¬ hb T (5 * p + v)) → ∀ s, ¬ lentM tn B e Q T = .inl (4, s) := by
      intro hn s hl
      rw [lentM, show numF tn B e 3 = x0 from hx0] at hl
      cases x0 with
      | inl q =>
        obtain ⟨c, s'⟩ := q
        have hh := Sum.inl.inj hl
        simp only [Prod.mk.injEq] at hh
        have := numF_l he (show numF tn B e 3 = .inl (c, s') from hx0)
        omega
      | inr q =>
        obtain ⟨v0, s0, e0⟩ := q
        have hp' : p = v0 := hp
        have k0 := numF_ok he (show numF tn B e 3 = .inr (v0, s0, e0) from hx0)
        rw [bnd_r] at hl; dsimp only at hl
        cases hk1 : numF tn B e0 4 with
        | inl q =>
          obtain ⟨c, s'⟩ := q
          rw [hk1, bnd_l] at hl
          have hh := Sum.inl.inj hl
          simp only [Prod.mk.injEq] at hh
          have := numF_l k0.2.2.2.1 hk1
          omega
        | inr q =>
          obtain ⟨v1, s1, e1⟩ := q
          have k1 := numF_ok k0.2.2.2.1 hk1
          rw [hk1, bnd_r] at hl; dsimp only at hl
          rw [if_neg (by rw [← hp']; exact hn v1 s1 e1 hk1)] at hl
          cases hk2 : numF tn B e1 99 with
          | inl q =>
            obtain ⟨c, s'⟩ := q
            rw [hk2, bnd_l] at hl
            have hh := Sum.inl.inj hl
            simp only [Prod.mk.injEq] at hh
            have := numF_l k1.2.2.2.1 hk2
            omega
          | inr q => rw [hk2, bnd_r] at hl; cases hl
    cases hk : nrmT tn B (aftN x0) with
    | inl q =>
      obtain ⟨cc, ss⟩ := q
      rw [hk] at P1
      have hb := nrm_l ok1.1 hk
      have ne : ¬ τ1 (400 * 158 + 12) = 0 := by rw [P1.1]; exact nI_ne0 (by omega) (by omega)
      have nt := plain (notTwice (fun v s1 e1 z => by rw [nx, hk, bnd_l] at z; cases z))
      refine z_aload_n 28 dX7_readLent_27 rfl rfl ?_
      refine y_get 31 _ sh158 rfl fl_X7_63 dX7_readLent_28 rfl ?_
      refine z_if_ne_t 81 dX7_readLent_31 rfl (ne) ?_
      exact m2 τ1 (aftN x0) ok1.1 (by rw [PS, hk]; exact P1) nt a1 q1 q2 q3 q4 o1
    | inr q =>
      obtain ⟨so, s, e1⟩ := q
      rw [hk] at P1
      have P1' : PS tn B τ1 (aftN x0) := by rw [PS, hk]; exact P1
      obtain ⟨w0, w1, w2, w3, w4⟩ := P1
      rw [hk, bnd_r] at nx
      dsimp only at nx
      obtain ⟨a, hra⟩ : ∃ a, aftN x0 = .inr a := by
        cases hz : aftN x0 with
        | inl q => rw [hz] at hk; cases hk
        | inr a => exact ⟨a, rfl⟩
      have hatn : a ≤ tn := by have := ok1.1; rw [hra] at this; exact this
      have hk' : tokF tn B a = .inr (so, s, e1) := by rw [hra] at hk; exact hk
      have k2 := tokF_ok hatn hk'
      by_cases c1 : so = 2
      · rw [if_pos c1] at nx
        have h3 := k2.2.2.2.2.2.1 c1
        have w5 := w4 c1
        have vb : vlN B s (e1 - s) < 100 := by
          have h4 := vl_le (B := B) (s := s) (e1 - s) (fun i a b => h3.2.2 i a (by omega))
          have h5 : 10 ^ (e1 - s) ≤ 10 ^ 2 := Nat.pow_le_pow_right (by decide) h3.2.1
          omega
        generalize vlN B s (e1 - s) = v at nx w5 vb
        have b4 : bi ((0 : Int64) ≤ (nI v).toInt64 ∧ (nI v).toInt64 ≤ 4) = bi (inR (nI v) 5) := bi_in7 (n := 4) (by decide)
        have iv : inR (nI v) 5 ↔ v < 5 := inR_nI (by omega)
        by_cases c2 : v ≤ 4
        · rw [if_pos c2] at nx
          by_cases c3 : hb T (5 * p + v)
          · have eL : lentM tn B e Q T = .inl (4, s) := by
              rw [lentM, show numF tn B e 3 = x0 from hx0]
              cases x0 with
              | inl q => cases hra
              | inr q =>
                obtain ⟨v0, s0, e0⟩ := q
                have hp' : p = v0 := hp
                rw [bnd_r]; dsimp only
                rw [show numF tn B e0 4 = .inr (v, s, e1) from nx, bnd_r]; dsimp only
                rw [if_pos (by rw [← hp']; exact c3)]
            have cf := c_fails0 (l := zXl X) (G := G) (τ := τ1) (c := 4) w0
            rw [w2] at cf
            refine z_aload_n 28 dX7_readLent_27 rfl rfl ?_
            refine y_get 31 _ sh158 rfl fl_X7_63 dX7_readLent_28 rfl ?_
            rw [w0]
            refine z_if_ne_f 34 81 dX7_readLent_31 rfl (rfl) rfl ?_
            refine z_aload_n 35 dX7_readLent_34 rfl rfl ?_
            refine y_get 38 _ sh158 rfl fl_X7_72 dX7_readLent_35 rfl ?_
            rw [w1]
            refine z_iconst 39 dX7_readLent_38 vi2 rfl ?_
            refine z_icmp_ne_f 42 81 dX7_readLent_39 rfl (by rw [c1]; rfl) rfl ?_
            refine z_aload_n 43 dX7_readLent_42 rfl rfl ?_
            refine y_get 46 _ sh158 rfl fl_X7_82 dX7_readLent_43 rfl ?_
            rw [w5]
            refine z_i2l 47 dX7_readLent_46 rfl ?_
            refine z_lconst 48 dX7_readLent_47 vl0 rfl ?_
            refine z_ldc2 51 kc_X7_110 dX7_readLent_48 rfl ?_
            refine y_cSs 54 (c_in) cs_X7_55 ⟨by decide, by decide, rfl, rfl⟩ (Nat.le_of_ble_eq_true rfl) dX7_readLent_51 rfl rfl ?_
            rw [b4]
            refine z_if_eq_f 57 81 dX7_readLent_54 rfl (by rw [bi_t (iv.mpr (by omega))]; decide) rfl ?_
            refine z_aload_n 58 dX7_readLent_57 rfl rfl ?_
            refine y_get 61 _ sh158 rfl fl_X7_112 dX7_readLent_58 rfl ?_
            rw [q2]
            refine z_iconst 62 dX7_readLent_61 vi5 rfl ?_
            refine z_iload_n 63 dX7_readLent_62 rfl rfl ?_
            refine z_imulN 64 (show (5 : Int32) = nI 5 from rfl) rfl dX7_readLent_63 rfl ?_
            refine z_aload_n 65 dX7_readLent_64 rfl rfl ?_
            refine y_get 68 _ sh158 rfl fl_X7_82 dX7_readLent_65 rfl ?_
            rw [w5]
            refine z_iaddN 69 rfl rfl dX7_readLent_68 rfl ?_
            refine z_ishr 70 dX7_readLent_69 rfl ?_
            refine z_iconst 71 dX7_readLent_70 vi1 rfl ?_
            refine z_iand 72 dX7_readLent_71 rfl ?_
            refine z_iconst 73 dX7_readLent_72 vi1 rfl ?_
            refine z_icmp_ne_f 76 81 dX7_readLent_73 rfl ((hb_shr (by omega)).mpr c3) rfl ?_
            refine z_aload_n 77 dX7_readLent_76 rfl rfl ?_
            refine z_iconst 78 dX7_readLent_77 vi4 rfl ?_
            refine y_cVv 81 _ (cf) sh158 cv_X7_93 ⟨by decide, by decide, rfl, rfl⟩ (Nat.le_of_ble_eq_true rfl) dX7_readLent_78 rfl rfl ?_
            exact m2 _ (.inl (4, s)) ⟨by decide, by decide, by omega⟩ ⟨by rw [pk_un (by omega), pk_us]; rfl, pk_us⟩ (fun x1 hx1 => by rw [hx1, eL]; exact ⟨rfl, fun x hx => by cases hx⟩) (hRa_upd (hRa_upd a1 (by omega) h6) (by omega) h6) ⟨fun i hi => by rw [pk_un (by omega), pk_un (by omega)]; exact q1.1 i hi, by rw [pk_un (by omega), pk_un (by omega)]; exact q1.2.1, by rw [pk_un (by omega), pk_un (by omega)]; exact q1.2.2⟩ (by rw [pk_un (by omega), pk_un (by omega)]; exact q2) (by rw [pk_un (by omega), pk_un (by omega)]; exact q3) (by rw [pk_un (by omega), pk_un (by omega)]; exact q4) (fun a ha => by rw [pk_un (by omega), pk_un (by omega)]; exact o1 a ha)
          · have nt := plain (notTwice (fun v' s1 e1 z => by rw [nx] at z; cases z; exact c3))
            refine z_aload_n 28 dX7_readLent_27 rfl rfl ?_
            refine y_get 31 _ sh158 rfl fl_X7_63 dX7_readLent_28 rfl ?_
            rw [w0]
            refine z_if_ne_f 34 81 dX7_readLent_31 rfl (rfl) rfl ?_
            refine z_aload_n 35 dX7_readLent_34 rfl rfl ?_
            refine y_get 38 _ sh158 rfl fl_X7_72 dX7_readLent_35 rfl ?_
            rw [w1]
            refine z_iconst 39 dX7_readLent_38 vi2 rfl ?_
            refine z_icmp_ne_f 42 81 dX7_readLent_39 rfl (by rw [c1]; rfl) rfl ?_
            refine z_aload_n 43 dX7_readLent_42 rfl rfl ?_
            refine y_get 46 _ sh158 rfl fl_X7_82 dX7_readLent_43 rfl ?_
            rw [w5]
            refine z_i2l 47 dX7_readLent_46 rfl ?_
            refine z_lconst 48 dX7_readLent_47 vl0 rfl ?_
            refine z_ldc2 51 kc_X7_110 dX7_readLent_48 rfl ?_
            refine y_cSs 54 (c_in) cs_X7_55 ⟨by decide, by decide, rfl, rfl⟩ (Nat.le_of_ble_eq_true rfl) dX7_readLent_51 rfl rfl ?_
            rw [b4]
            refine z_if_eq_f 57 81 dX7_readLent_54 rfl (by rw [bi_t (iv.mpr (by omega))]; decide) rfl ?_
            refine z_aload_n 58 dX7_readLent_57 rfl rfl ?_
            refine y_get 61 _ sh158 rfl fl_X7_112 dX7_readLent_58 rfl ?_
            rw [q2]
            refine z_iconst 62 dX7_readLent_61 vi5 rfl ?_
            refine z_iload_n 63 dX7_readLent_62 rfl rfl ?_
            refine z_imulN 64 (show (5 : Int32) = nI 5 from rfl) rfl dX7_readLent_63 rfl ?_
            refine z_aload_n 65 dX7_readLent_64 rfl rfl ?_
            refine y_get 68 _ sh158 rfl fl_X7_82 dX7_readLent_65 rfl ?_
            rw [w5]
            refine z_iaddN 69 rfl rfl dX7_readLent_68 rfl ?_
            refine z_ishr 70 dX7_readLent_69 rfl ?_
            refine z_iconst 71 dX7_readLent_70 vi1 rfl ?_
            refine z_iand 72 dX7_readLent_71 rfl ?_
            refine z_iconst 73 dX7_readLent_72 vi1 rfl ?_
            refine z_icmp_ne_t 81 dX7_readLent_73 rfl (fun z => c3 ((hb_shr (by omega)).mp z)) ?_
            exact m2 τ1 (aftN x0) ok1.1 P1' nt a1 q1 q2 q3 q4 o1
        · rw [if_neg c2] at nx
          have nt := plain (notTwice (fun v' s1 e1 z => by rw [nx] at z; cases z))
          refine z_aload_n 28 dX7_readLent_27 rfl rfl ?_
          refine y_get 31 _ sh158 rfl fl_X7_63 dX7_readLent_28 rfl ?_
          rw [w0]
          refine z_if_ne_f 34 81 dX7_readLent_31 rfl (rfl) rfl ?_
          refine z_aload_n 35 dX7_readLent_34 rfl rfl ?_
          refine y_get 38 _ sh158 rfl fl_X7_72 dX7_readLent_35 rfl ?_
          rw [w1]
          refine z_iconst 39 dX7_readLent_38 vi2 rfl ?_
          refine z_icmp_ne_f 42 81 dX7_readLent_39 rfl (by rw [c1]; rfl) rfl ?_
          refine z_aload_n 43 dX7_readLent_42 rfl rfl ?_
          refine y_get 46 _ sh158 rfl fl_X7_82 dX7_readLent_43 rfl ?_
          rw [w5]
          refine z_i2l 47 dX7_readLent_46 rfl ?_
          refine z_lconst 48 dX7_readLent_47 vl0 rfl ?_
          refine z_ldc2 51 kc_X7_110 dX7_readLent_48 rfl ?_
          refine y_cSs 54 (c_in) cs_X7_55 ⟨by decide, by decide, rfl, rfl⟩ (Nat.le_of_ble_eq_true rfl) dX7_readLent_51 rfl rfl ?_
          rw [b4]
          refine z_if_eq_t 81 dX7_readLent_54 rfl (bi_f (fun z => by have := iv.mp z; omega)) ?_
          exact m2 τ1 (aftN x0) ok1.1 P1' nt a1 q1 q2 q3 q4 o1
      · rw [if_neg c1] at nx
        have nt := plain (notTwice (fun v' s1 e1 z => by rw [nx] at z; cases z))
        refine z_aload_n 28 dX7_readLent_27 rfl rfl ?_
        refine y_get 31 _ sh158 rfl fl_X7_63 dX7_readLent_28 rfl ?_
        rw [w0]
        refine z_if_ne_f 34 81 dX7_readLent_31 rfl (rfl) rfl ?_
        refine z_aload_n 35 dX7_readLent_34 rfl rfl ?_
        refine y_get 38 _ sh158 rfl fl_X7_72 dX7_readLent_35 rfl ?_
        rw [w1]
        refine z_iconst 39 dX7_readLent_38 vi2 rfl ?_
        refine z_icmp_ne_t 81 dX7_readLent_39 rfl (fun z => c1 (nI_eqL (b := 2) (by omega) (by decide) z)) ?_
        exact m2 τ1 (aftN x0) ok1.1 P1' nt a1 q1 q2 q3 q4 o1
  intro τ2 r1 okr P2 eM a2 q5 q7 q8 q9 oo
  have cn1 := c_number (l := zXl X) (G := G) (most := 4) a2 ok okr P2 (by decide)
  have ok2 := okR_num (B := B) (most := 4) okr
  have eM := eM _ rfl
  generalize hx1 : numR tn B r1 4 = x1 at cn1 ok2 eM
  refine z_aload_n 82 dX7_readLent_81 rfl rfl ?_
  refine z_iconst 83 dX7_readLent_82 vi0 rfl ?_
  refine z_iconst 84 dX7_readLent_83 vi4 rfl ?_
  refine y_cVP 87 _ (cn1) sh158 cv_X7_103 ⟨by decide, by decide, rfl, rfl⟩ (Nat.le_of_ble_eq_true rfl) dX7_readLent_84 rfl rfl (fun v84 σ84 hp84 => ?_)
  obtain ⟨rfl, g3, g4⟩ := hp84
  show Y G X mX7_readLent _ 87 _ [.int _]
  skip
  obtain ⟨c, hcv⟩ : ∃ c, c = valN x1 := ⟨_, rfl⟩
  have c5 : c < 5 := by rw [hcv]; have := ok2.2; omega
  rw [← hcv] at eM ⊢
  have a3 := a2.off g4 h6
  have q5' := q5.off g4
  have q7' : σ84 (400 * 158 + 6) = T := (g4 _ (by omega)).trans q7
  have q8' : σ84 (400 * 158 + 7) = nI (max o (p + 1)) - 1 := (g4 _ (by omega)).trans q8
  have q9' : σ84 (400 * 158 + 8) = nI o2 - 1 := (g4 _ (by omega)).trans q9
  have oo' : offP σ84 τ := g4.p.tr oo
  have lm2 := last_max o2 (by have := d4.1; omega) c (by omega)
  suffices m3 : ∀ τ3, PS tn B τ3 (aftN x1) → hRa τ3 tn B → hRp τ3 Q → τ3 (400 * 158 + 6) = T → τ3 (400 * 158 + 7) = nI (max o (p + 1)) - 1 → τ3 (400 * 158 + 8) = nI (max o2 (c + 1)) - 1 → offP τ3 τ → Y G X mX7_readLent τ3 108 [some (.ref (zGa G 158)), some (.int (nI p)), some (.int (nI c))] [] by
    refine z_istore_n 88 [_, _, _] dX7_readLent_87 (by decide) rfl rfl rfl ?_
    refine z_aload_n 89 dX7_readLent_88 rfl rfl ?_
    refine z_iload_n 90 dX7_readLent_89 rfl rfl ?_
    refine z_aload_n 91 dX7_readLent_90 rfl rfl ?_
    refine y_get 94 _ sh158 rfl fl_X7_115 dX7_readLent_91 rfl ?_
    rw [q9']
    refine z_icmp_le 101 97 dX7_readLent_94 rfl rfl (fun h94 => ?_) (fun h94 => ?_)
    · skip
      have z : nI o2 - 1 = nI (max o2 (c + 1)) - 1 := by rw [← lm2, if_neg (Int32.not_lt.mpr h94)]
      refine z_aload_n 102 dX7_readLent_101 rfl rfl ?_
      refine y_get 105 _ sh158 rfl fl_X7_115 dX7_readLent_102 rfl ?_
      rw [q9']
      refine y_putI 108 _ sh158 rfl fp_X7_115 dX7_readLent_105 rfl ?_
      exact m3 _ (PS_upd g3 (by omega)) (hRa_upd a3 (by omega) h6) ⟨fun i hi => (pk_un (by omega)).trans (q5'.1 i hi), (pk_un (by omega)).trans q5'.2.1, (pk_un (by omega)).trans q5'.2.2⟩ ((pk_un (by omega)).trans q7') ((pk_un (by omega)).trans q8') (pk_us.trans z) (fun a ha => (pk_un (by omega)).trans (oo' a ha))
    · skip
      have z : nI c = nI (max o2 (c + 1)) - 1 := by rw [← lm2, if_pos (Int32.not_le.mp h94)]
      refine z_iload_n 98 dX7_readLent_97 rfl rfl ?_
      refine z_goto 105 dX7_readLent_98 rfl ?_
      refine y_putI 108 _ sh158 rfl fp_X7_115 dX7_readLent_105 rfl ?_
      exact m3 _ (PS_upd g3 (by omega)) (hRa_upd a3 (by omega) h6) ⟨fun i hi => (pk_un (by omega)).trans (q5'.1 i hi), (pk_un (by omega)).trans q5'.2.1, (pk_un (by omega)).trans q5'.2.2⟩ ((pk_un (by omega)).trans q7') ((pk_un (by omega)).trans q8') (pk_us.trans z) (fun a ha => (pk_un (by omega)).trans (oo' a ha))
  intro τ3 P3 a4 q10 q11 q12 q13 o3
  have ho := hiO_or d3 p4 c5
  have hcc := hiC_or d4 p4 c5
  generalize hT1 : T ||| ((1 : Int32) <<< (nI (5 * p + c) &&& 31)) = T1 at ho hcc eM
  refine z_aload_n 109 dX7_readLent_108 rfl rfl ?_
  refine z_dup 110 dX7_readLent_109 rfl rfl ?_
  refine y_get 113 _ sh158 rfl fl_X7_112 dX7_readLent_110 rfl ?_
  rw [q11]
  refine z_iconst 114 dX7_readLent_113 vi1 rfl ?_
  refine z_iconst 115 dX7_readLent_114 vi5 rfl ?_
  refine z_iload_n 116 dX7_readLent_115 rfl rfl ?_
  refine z_imulN 117 (show (5 : Int32) = nI 5 from rfl) rfl dX7_readLent_116 rfl ?_
  refine z_iload_n 118 dX7_readLent_117 rfl rfl ?_
  refine z_iaddN 119 rfl rfl dX7_readLent_118 rfl ?_
  refine z_ishl 120 dX7_readLent_119 rfl ?_
  refine z_ior 121 dX7_readLent_120 rfl ?_
  refine y_putI 124 _ sh158 rfl fp_X7_112 dX7_readLent_121 rfl ?_
  rw [hT1]
  have P4 := PS_upd (x := T1) P3 (show 400 * 158 + 6 < 63212 ∨ 63218 ≤ 400 * 158 + 6 by omega)
  have a5 := hRa_upd (x := T1) a4 (show 400 * 158 + 6 ≠ 63210 ∧ (400 * 158 + 6 < 64400 ∨ 64560 ≤ 400 * 158 + 6) by omega) h6
  have d7 : hTd (upd τ3 (400 * 158 + 6) T1) Q T1 := ⟨⟨fun i hi => (pk_un (by omega)).trans (q10.1 i hi), (pk_un (by omega)).trans q10.2.1, (pk_un (by omega)).trans q10.2.2⟩, pk_us, _, _, ho, hcc, (pk_un (by omega)).trans q12, (pk_un (by omega)).trans q13⟩
  have o4 : offP (upd τ3 (400 * 158 + 6) T1) τ := fun a ha => (pk_un (by omega)).trans (o3 a ha)
  generalize upd τ3 (400 * 158 + 6) T1 = τ4 at P4 a5 d7 o4
  have cn2 := c_number (l := zXl X) (G := G) (most := 99) a5 ok ok2.1 P4 (by decide)
  generalize numR tn B (aftN x1) 99 = x2 at cn2 eM
  refine z_aload_n 125 dX7_readLent_124 rfl rfl ?_
  refine y_getr 128 _ sh158 rfl fl_X7_13 dX7_readLent_125 rfl ?_
  refine z_bipush 130 dX7_readLent_128 vb33 rfl ?_
  refine z_iconst 131 dX7_readLent_130 vi5 rfl ?_
  refine z_iload_n 132 dX7_readLent_131 rfl rfl ?_
  refine z_imulN 133 (show (5 : Int32) = nI 5 from rfl) rfl dX7_readLent_132 rfl ?_
  refine z_iaddN 134 (show (33 : Int32) = nI 33 from rfl) rfl dX7_readLent_133 rfl ?_
  refine z_iload_n 135 dX7_readLent_134 rfl rfl ?_
  refine z_iaddN 136 rfl rfl dX7_readLent_135 rfl ?_
  refine z_aload_n 137 dX7_readLent_136 rfl rfl ?_
  refine z_iconst 138 dX7_readLent_137 vi0 rfl ?_
  refine z_bipush 140 dX7_readLent_138 vb99 rfl ?_
  refine y_cVP 143 _ (cn2) sh158 cv_X7_103 ⟨by decide, by decide, rfl, rfl⟩ (Nat.le_of_ble_eq_true rfl) dX7_readLent_140 rfl rfl (fun v140 σ140 hp140 => ?_)
  obtain ⟨rfl, g5, g6⟩ := hp140
  show Y G X mX7_readLent _ 143 _ [.int _, .int _, .ref _]
  skip
  have d8 := hTd_upd (v := valN x2) (d7.off g6) (show 33 + 5 * p + c < 55 by omega)
  refine y_st 144 _ (33 + 5 * p + c) sh160 rfl (by omega) (by omega) dX7_readLent_143 rfl ?_
  refine z_vret hq rfl dX7_readLent_144 rfl rfl ?_
  exact ⟨_, ⟨rfl, by rw [eM.1]; exact PS_upd g5 (by omega), fun x hx => by rw [eM.2 x hx]; exact d8, (offP_upd (by omega)).tr (g6.p.tr o4)⟩, rfl⟩

