theorem hb_5 {T : Int32} {p c : Nat} : hb T (p * 5 + c) ↔ hb T (5 * p + c) := by rw [Nat.mul_comm]
set_option maxRecDepth 100000 in
set_option maxHeartbeats 4000000 in
theorem c_readLent {l : Launch} {G : zG} {τ : Nat → Int32} {tn e : Nat} {B : Nat → Nat} {Q : Pg} (hA : stT τ tn B e) (ok : okT tn B) (he : e ≤ tn) (hD : hds τ 21 Q) : zMet l yX4_readLent mX4_readLent [.ref (zGa G 19)] G (zW G τ) (zP G (fun v τ' => v = some (.int (bi (isR (lentF tn B e Q (τ (400 * 19 + 6))) = true))) ∧ aLine τ' (lentF tn B e Q (τ (400 * 19 + 6))) ∧ offL τ' τ)) := by
  have h6 := ok.1
  generalize hR : lentF tn B e Q (τ (400 * 19 + 6)) = Rz
  generalize hT0 : τ (400 * 19 + 6) = T at hR
  rw [lentF] at hR
  have cn0 := c_readNumber (l := l) (G := G) (most := 3) hA.1 ok he hA.2.1 hA.2.2 (by decide)
  refine zMet.of (by decide) rfl (Nat.le_of_ble_eq_true rfl) (Or.inr rfl) fun X hX hq => ?_
  subst hX
  show Y G X mX4_readLent τ 0 [some (.ref (zGa G 19)), none, none] []
  refine z_aload_n 1 dX4_readLent_0 rfl rfl ?_
  refine z_iconst 2 dX4_readLent_1 vi3 rfl ?_
  refine y_cVP 5 _ (cn0) sh19 cv_X4_85 ⟨by decide, by decide, rfl, rfl⟩ (Nat.le_of_ble_eq_true rfl) dX4_readLent_2 rfl rfl (fun v2 σ2 hp2 => ?_)
  obtain ⟨rfl, g1, g2⟩ := hp2
  show Y G X mX4_readLent _ 5 _ [.int _]
  skip
  cases hk0 : numF tn B e 3 with
  | inl q =>
    obtain ⟨cc, ss⟩ := q
    rw [hk0] at g1
    rw [hk0, bnd_l] at hR
    refine z_if_ne_f 8 10 dX4_readLent_5 rfl (rfl) rfl ?_
    refine z_iconst 9 dX4_readLent_8 vi0 rfl ?_
    refine z_zret hq rfl rfl dX4_readLent_9 rfl rfl ?_
    rw [← hR]
    exact ⟨_, ⟨rfl, g1, g2.l⟩, rfl⟩
  | inr q =>
  obtain ⟨p, s0, e0⟩ := q
  rw [hk0] at g1
  rw [hk0, bnd_r] at hR
  dsimp only at hR
  obtain ⟨f0, f1, f2, f3⟩ := g1
  have ho0 := numF_ok he hk0
  have st0 : stT σ2 tn B e0 := ⟨hA.1.off8 g2, f3, f0⟩
  have tt0 : σ2 (400 * 19 + 6) = T := (g2 _ (by omega) (by omega) (by omega) (by omega) (by omega) (by omega)).trans hT0
  have hd0 : hds σ2 21 Q := fun i hi => (g2 _ (by omega) (by omega) (by omega) (by omega) (by omega) (by omega)).trans (hD i hi)
  have cn1 := c_readNumber (l := zXl X) (G := G) (most := 4) st0.1 ok ho0.2.2.2.1 st0.2.1 st0.2.2 (by decide)
  refine z_if_ne_t 10 dX4_readLent_5 rfl (bR_ne) ?_
  refine z_aload_n 11 dX4_readLent_10 rfl rfl ?_
  refine y_get 14 _ sh19 rfl fl_X4_91 dX4_readLent_11 rfl ?_
  rw [f1]
  refine z_istore_n 15 [_, _, _] dX4_readLent_14 (by decide) rfl rfl rfl ?_
  refine z_aload_n 16 dX4_readLent_15 rfl rfl ?_
  refine z_iconst 17 dX4_readLent_16 vi4 rfl ?_
  refine y_cVP 20 _ (cn1) sh19 cv_X4_85 ⟨by decide, by decide, rfl, rfl⟩ (Nat.le_of_ble_eq_true rfl) dX4_readLent_17 rfl rfl (fun v17 σ17 hp17 => ?_)
  obtain ⟨rfl, g3, g4⟩ := hp17
  show Y G X mX4_readLent _ 20 _ [.int _]
  skip
  cases hk1 : numF tn B e0 4 with
  | inl q =>
    obtain ⟨cc, ss⟩ := q
    rw [hk1] at g3
    rw [hk1, bnd_l] at hR
    refine z_if_ne_f 23 25 dX4_readLent_20 rfl (rfl) rfl ?_
    refine z_iconst 24 dX4_readLent_23 vi0 rfl ?_
    refine z_zret hq rfl rfl dX4_readLent_24 rfl rfl ?_
    rw [← hR]
    exact ⟨_, ⟨rfl, g3, (g4.tr g2).l⟩, rfl⟩
  | inr q =>
  obtain ⟨c, s1, e1⟩ := q
  rw [hk1] at g3
  rw [hk1, bnd_r] at hR
  dsimp only at hR
  obtain ⟨f4, f5, f6, f7⟩ := g3
  have ho1 := numF_ok ho0.2.2.2.1 hk1
  have st1 : stT σ17 tn B e1 := ⟨st0.1.off8 g4, f7, f4⟩
  have tt1 : σ17 (400 * 19 + 6) = T := (g4 _ (by omega) (by omega) (by omega) (by omega) (by omega) (by omega)).trans tt0
  have hd1 : hds σ17 21 Q := fun i hi => (g4 _ (by omega) (by omega) (by omega) (by omega) (by omega) (by omega)).trans (hd0 i hi)
  have pc : p * 5 + c < 20 := by omega
  by_cases hbt : hb T (5 * p + c)
  · rw [if_pos hbt] at hR
    refine z_if_ne_t 25 dX4_readLent_20 rfl (bR_ne) ?_
    refine z_iload_n 26 dX4_readLent_25 rfl rfl ?_
    refine z_iconst 27 dX4_readLent_26 vi5 rfl ?_
    refine z_imulN 28 rfl (show (5 : Int32) = nI 5 from rfl) dX4_readLent_27 rfl ?_
    refine z_aload_n 29 dX4_readLent_28 rfl rfl ?_
    refine y_get 32 _ sh19 rfl fl_X4_91 dX4_readLent_29 rfl ?_
    rw [f5]
    refine z_iaddN 33 rfl rfl dX4_readLent_32 rfl ?_
    refine z_istore_n 34 [_, _, _] dX4_readLent_33 (by decide) rfl rfl rfl ?_
    refine z_aload_n 35 dX4_readLent_34 rfl rfl ?_
    refine y_get 38 _ sh19 rfl fl_X4_33 dX4_readLent_35 rfl ?_
    rw [tt1]
    refine z_iload_n 39 dX4_readLent_38 rfl rfl ?_
    refine y_cNs 42 (c_hasBit (by omega)) cn_X4_109 ⟨by decide, by decide, rfl, rfl⟩ (Nat.le_of_ble_eq_true rfl) dX4_readLent_39 rfl rfl ?_
    refine z_if_eq_f 45 55 dX4_readLent_42 rfl (by rw [bi_t (hb_5.mpr hbt)]; decide) rfl ?_
    refine z_aload_n 46 dX4_readLent_45 rfl rfl ?_
    refine z_iconst 47 dX4_readLent_46 vi4 rfl ?_
    refine z_aload_n 48 dX4_readLent_47 rfl rfl ?_
    refine y_get 51 _ sh19 rfl fl_X4_66 dX4_readLent_48 rfl ?_
    rw [f6]
    refine y_cVs 54 _ (c_refuse) sh19 cv_X4_55 ⟨by decide, by decide, rfl, rfl⟩ (Nat.le_of_ble_eq_true rfl) dX4_readLent_51 rfl rfl ?_
    refine z_zret hq rfl rfl dX4_readLent_54 rfl rfl ?_
    rw [← hR]
    exact ⟨_, ⟨rfl, ⟨by rw [pk_un (by omega), pk_us]; rfl, by rw [pk_us]⟩, fun a ha => by rw [pk_un (by omega), pk_un (by omega)]; exact (g4.tr g2).l a ha⟩, rfl⟩
  rw [if_neg hbt] at hR
  refine z_if_ne_t 25 dX4_readLent_20 rfl (bR_ne) ?_
  refine z_iload_n 26 dX4_readLent_25 rfl rfl ?_
  refine z_iconst 27 dX4_readLent_26 vi5 rfl ?_
  refine z_imulN 28 rfl (show (5 : Int32) = nI 5 from rfl) dX4_readLent_27 rfl ?_
  refine z_aload_n 29 dX4_readLent_28 rfl rfl ?_
  refine y_get 32 _ sh19 rfl fl_X4_91 dX4_readLent_29 rfl ?_
  rw [f5]
  refine z_iaddN 33 rfl rfl dX4_readLent_32 rfl ?_
  refine z_istore_n 34 [_, _, _] dX4_readLent_33 (by decide) rfl rfl rfl ?_
  refine z_aload_n 35 dX4_readLent_34 rfl rfl ?_
  refine y_get 38 _ sh19 rfl fl_X4_33 dX4_readLent_35 rfl ?_
  rw [tt1]
  refine z_iload_n 39 dX4_readLent_38 rfl rfl ?_
  refine y_cNs 42 (c_hasBit (by omega)) cn_X4_109 ⟨by decide, by decide, rfl, rfl⟩ (Nat.le_of_ble_eq_true rfl) dX4_readLent_39 rfl rfl ?_
  refine z_if_eq_t 55 dX4_readLent_42 rfl (bi_f (fun z => hbt (hb_5.mp z))) ?_
  refine z_aload_n 56 dX4_readLent_55 rfl rfl ?_
  refine z_dup 57 dX4_readLent_56 rfl rfl ?_
  refine y_get 60 _ sh19 rfl fl_X4_33 dX4_readLent_57 rfl ?_
  rw [tt1]
  refine z_iconst 61 dX4_readLent_60 vi1 rfl ?_
  refine z_iload_n 62 dX4_readLent_61 rfl rfl ?_
  refine z_ishl 63 dX4_readLent_62 rfl ?_
  refine z_ior 64 dX4_readLent_63 rfl ?_
  refine y_putI 67 _ sh19 rfl fp_X4_33 dX4_readLent_64 rfl ?_
  rw [Nat.mul_comm p 5]
  generalize hT1 : T ||| ((1 : Int32) <<< (nI (5 * p + c) &&& 31)) = T1 at hR
  generalize hτ2 : upd σ17 (400 * 19 + 6) T1 = τ2
  have o2 : ∀ a, a ≠ 7606 → τ2 a = σ17 a := fun a ha => by rw [← hτ2]; exact pk_un ha
  have t2 : τ2 (400 * 19 + 6) = T1 := by rw [← hτ2, pk_us]
  have st2 : stT τ2 tn B e1 := ⟨⟨(o2 _ (by omega)).trans st1.1.1, fun i hi => (o2 _ (by omega)).trans (st1.1.2 i hi)⟩, (o2 _ (by omega)).trans st1.2.1, (o2 _ (by omega)).trans st1.2.2⟩
  have hd2 : hds τ2 21 Q := fun i hi => (o2 _ (by omega)).trans (hd1 i hi)
  have of2 : offL τ2 τ := fun a ha => (o2 a (by omega)).trans ((g4.tr g2).l a ha)
  have cn2 := c_readNumber (l := zXl X) (G := G) (most := 99) st2.1 ok ho1.2.2.2.1 st2.2.1 st2.2.2 (by decide)
  refine z_aload_n 68 dX4_readLent_67 rfl rfl ?_
  refine z_bipush 70 dX4_readLent_68 vb99 rfl ?_
  refine y_cVP 73 _ (cn2) sh19 cv_X4_85 ⟨by decide, by decide, rfl, rfl⟩ (Nat.le_of_ble_eq_true rfl) dX4_readLent_70 rfl rfl (fun v70 σ70 hp70 => ?_)
  obtain ⟨rfl, g5, g6⟩ := hp70
  show Y G X mX4_readLent _ 73 _ [.int _]
  skip
  cases hk2 : numF tn B e1 99 with
  | inl q =>
    obtain ⟨cc, ss⟩ := q
    rw [hk2] at g5
    rw [hk2, bnd_l] at hR
    refine z_if_ne_f 76 78 dX4_readLent_73 rfl (rfl) rfl ?_
    refine z_iconst 77 dX4_readLent_76 vi0 rfl ?_
    refine z_zret hq rfl rfl dX4_readLent_77 rfl rfl ?_
    rw [← hR]
    exact ⟨_, ⟨rfl, g5, g6.l.tr of2⟩, rfl⟩
  | inr q =>
  obtain ⟨v, s2, e2⟩ := q
  rw [hk2] at g5
  rw [hk2, bnd_r] at hR
  dsimp only at hR
  obtain ⟨k0, k1, k2, k3⟩ := g5
  have ho2 := numF_ok ho1.2.2.2.1 hk2
  have st3 : stT σ70 tn B e2 := ⟨st2.1.off8 g6, k3, k0⟩
  have tt3 : σ70 (400 * 19 + 6) = T1 := (g6 _ (by omega) (by omega) (by omega) (by omega) (by omega) (by omega)).trans t2
  have hd3 : hds σ70 21 Q := fun i hi => (g6 _ (by omega) (by omega) (by omega) (by omega) (by omega) (by omega)).trans (hd2 i hi)
  have vv : ∀ R, sp σ70 21 R (400 * 19 + 10) = nI v := fun R => (sp_off (by omega)).trans k1
  rw [← sp_self hd3]
  have cs4 := c_readStop (l := zXl X) (G := G) (stT_sp (R := un Q (33 + (5 * p + c)) v) st3 ok).1 ok ho2.2.2.2.1 (stT_sp (R := un Q (33 + (5 * p + c)) v) st3 ok).2.1 (stT_sp (R := un Q (33 + (5 * p + c)) v) st3 ok).2.2
  refine z_if_ne_t 78 dX4_readLent_73 rfl (bR_ne) ?_
  refine z_aload_n 79 dX4_readLent_78 rfl rfl ?_
  refine y_getr 82 _ sh19 rfl fl_X4_18 dX4_readLent_79 rfl ?_
  refine y_getr 85 _ (bk0 bkm21) rfl fl_X4_112 dX4_readLent_82 rfl ?_
  refine z_iload_n 86 dX4_readLent_85 rfl rfl ?_
  refine z_aload_n 87 dX4_readLent_86 rfl rfl ?_
  refine y_get 90 _ sh19 rfl fl_X4_91 dX4_readLent_87 rfl ?_
  rw [vv]
  refine p_st 91 _ (bk6 bkm21) rfl (by omega) rfl (by decide) dX4_readLent_90 rfl ?_
  refine z_aload_n 92 dX4_readLent_91 rfl rfl ?_
  refine y_cVP 95 _ (cs4) sh19 cv_X4_97 ⟨by decide, by decide, rfl, rfl⟩ (Nat.le_of_ble_eq_true rfl) dX4_readLent_92 rfl rfl (fun v92 σ92 hp92 => ?_)
  obtain ⟨rfl, w1, w2⟩ := hp92
  show Y G X mX4_readLent _ 95 _ [.int _]
  skip
  have of4 : offL σ92 τ := (w2.l.tr offL_sp).tr (g6.l.tr of2)
  have tt4 : σ92 (400 * 19 + 6) = T1 := ((w2 _ (by omega) (by omega) (by omega) (by omega) (by omega) (by omega)).trans (sp_off (by omega))).trans tt3
  have hd4 : hds σ92 21 (un Q (33 + (5 * p + c)) v) := hds_off8 w2
  rw [← Nat.add_assoc] at hd4
  cases hk4' : stopF tn B e2 with
  | inl q =>
    obtain ⟨cc, ss⟩ := q
    rw [hk4'] at w1
    rw [hk4', bnd_l] at hR
    refine z_zret hq rfl bi_nar dX4_readLent_95 rfl rfl ?_
    rw [← hR]
    exact ⟨_, ⟨rfl, w1, of4⟩, rfl⟩
  | inr e4 =>
    rw [hk4'] at w1
    rw [hk4', bnd_r] at hR
    refine z_zret hq rfl bi_nar dX4_readLent_95 rfl rfl ?_
    rw [← hR]
    exact ⟨_, ⟨rfl, ⟨w1.1, w1.2, hd4, tt4⟩, of4⟩, rfl⟩
/-- which line a token begins -/
def lnK (B : Nat → Nat) (so s e : Nat) : Nat := if so = 1 then frK B s e 6 0 else 6
set_option maxRecDepth 100000 in
theorem c_readLine {l : Launch} {G : zG} {τ : Nat → Int32} {tn so s e : Nat} {B : Nat → Nat} {Q : Pg} (hA : stT τ tn B e) (ok : okT tn B) (hse : s ≤ e) (he : e ≤ tn) (hD : hds τ 21 Q) (hq5 : Q 56 ≤ 5) (hq4 : Q 57 ≤ 4) (hS : τ (400 * 19 + 9) = nI s) (hO : τ (400 * 19 + 8) = nI so) (hso : so ≤ 3) : zMet l yX4_readLine mX4_readLine [.ref (zGa G 19)] G (zW G τ) (zP G (fun v τ' => v = some (.int (bi (isR (lineF tn B (lnK B so s e) s e Q (τ (400 * 19 + 6))) = true))) ∧ aLine τ' (lineF tn B (lnK B so s e) s e Q (τ (400 * 19 + 6))) ∧ offL τ' τ)) := by
  have h6 := ok.1
  refine zMet.of (by decide) rfl (Nat.le_of_ble_eq_true rfl) (Or.inr rfl) fun X hX hq => ?_
  subst hX
  show Y G X mX4_readLine τ 0 [some (.ref (zGa G 19)), none] []
  have main : ∀ k, k ≤ 6 → lnK B so s e = k → Y G X mX4_readLine τ 17 [some (.ref (zGa G 19)), some (.int (lnV k))] [] := by
    intro k hk6 hk
    rw [hk] at hq
    by_cases c6 : k = 6
    · have ev : lnV k = -1 := by rw [lnV, if_pos c6]
      have eL : lineF tn B k s e Q (τ (400 * 19 + 6)) = .inl (2, s) := by rw [lineF, if_pos c6]
      rw [eL] at hq
      rw [ev]
      refine z_iload_n 18 dX4_readLine_17 rfl rfl ?_
      refine z_iconst 19 dX4_readLine_18 vim1 rfl ?_
      refine z_icmp_ne_f 22 32 dX4_readLine_19 rfl (rfl) rfl ?_
      refine z_aload_n 23 dX4_readLine_22 rfl rfl ?_
      refine z_iconst 24 dX4_readLine_23 vi2 rfl ?_
      refine z_aload_n 25 dX4_readLine_24 rfl rfl ?_
      refine y_get 28 _ sh19 rfl fl_X4_66 dX4_readLine_25 rfl ?_
      rw [hS]
      refine y_cVs 31 _ (c_refuse) sh19 cv_X4_55 ⟨by decide, by decide, rfl, rfl⟩ (Nat.le_of_ble_eq_true rfl) dX4_readLine_28 rfl rfl ?_
      refine z_zret hq rfl rfl dX4_readLine_31 rfl rfl ?_
      exact ⟨_, ⟨rfl, ⟨by rw [pk_un (by omega), pk_us]; rfl, by rw [pk_us]⟩, fun a ha => by rw [pk_un (by omega), pk_un (by omega)]⟩, rfl⟩
    have ev : lnV k = nI k := by rw [lnV, if_neg c6]
    rw [ev]
    by_cases c5 : k = 5
    · have eL : lineF tn B k s e Q (τ (400 * 19 + 6)) = lentF tn B e Q (τ (400 * 19 + 6)) := by rw [lineF, if_neg c6, if_pos c5]
      rw [eL] at hq
      have cl := c_readLent (l := zXl X) (G := G) hA ok he hD
      refine z_iload_n 18 dX4_readLine_17 rfl rfl ?_
      refine z_iconst 19 dX4_readLine_18 vim1 rfl ?_
      refine z_icmp_ne_t 32 dX4_readLine_19 rfl (nI_ne_m1 (by omega)) ?_
      refine z_iload_n 33 dX4_readLine_32 rfl rfl ?_
      refine z_iconst 34 dX4_readLine_33 vi5 rfl ?_
      refine z_icmp_ne_f 37 42 dX4_readLine_34 rfl (by rw [c5]; rfl) rfl ?_
      refine z_aload_n 38 dX4_readLine_37 rfl rfl ?_
      refine y_cVP 41 _ (cl) sh19 cv_X4_69 ⟨by decide, by decide, rfl, rfl⟩ (Nat.le_of_ble_eq_true rfl) dX4_readLine_38 rfl rfl (fun v38 σ38 hp38 => ?_)
      obtain ⟨rfl, w1, w2⟩ := hp38
      show Y G X mX4_readLine _ 41 _ [.int _]
      refine z_zret hq rfl bi_nar dX4_readLine_41 rfl rfl ?_
      exact ⟨_, ⟨rfl, w1, w2⟩, rfl⟩
    by_cases c4 : k = 4
    · have eL : lineF tn B k s e Q (τ (400 * 19 + 6)) = oneF tn B s e Q (τ (400 * 19 + 6)) := by rw [lineF, if_neg c6, if_neg c5, if_pos c4]
      rw [eL] at hq
      have cl := c_readOne (l := zXl X) (G := G) hA ok he (by omega) hD hq4 hS
      refine z_iload_n 18 dX4_readLine_17 rfl rfl ?_
      refine z_iconst 19 dX4_readLine_18 vim1 rfl ?_
      refine z_icmp_ne_t 32 dX4_readLine_19 rfl (nI_ne_m1 (by omega)) ?_
      refine z_iload_n 33 dX4_readLine_32 rfl rfl ?_
      refine z_iconst 34 dX4_readLine_33 vi5 rfl ?_
      refine z_icmp_ne_t 42 dX4_readLine_34 rfl (fun z => c5 (nI_eqL (b := 5) (by omega) (by decide) z)) ?_
      refine z_iload_n 43 dX4_readLine_42 rfl rfl ?_
      refine z_iconst 44 dX4_readLine_43 vi4 rfl ?_
      refine z_icmp_ne_f 47 54 dX4_readLine_44 rfl (by rw [c4]; rfl) rfl ?_
      refine z_aload_n 48 dX4_readLine_47 rfl rfl ?_
      refine y_cVP 51 _ (cl) sh19 cv_X4_72 ⟨by decide, by decide, rfl, rfl⟩ (Nat.le_of_ble_eq_true rfl) dX4_readLine_48 rfl rfl (fun v48 σ48 hp48 => ?_)
      obtain ⟨rfl, w1, w2⟩ := hp48
      show Y G X mX4_readLine _ 51 _ [.int _]
      refine z_goto 59 dX4_readLine_51 rfl ?_
      refine z_zret hq rfl bi_nar dX4_readLine_59 rfl rfl ?_
      exact ⟨_, ⟨rfl, w1, w2⟩, rfl⟩
    · have eL : lineF tn B k s e Q (τ (400 * 19 + 6)) = colF tn B s e k Q (τ (400 * 19 + 6)) := by rw [lineF, if_neg c6, if_neg c5, if_neg c4]
      rw [eL] at hq
      have cl := c_readColour (l := zXl X) (G := G) (k := k) hA ok he (by omega) hD hq5 hS (by omega)
      refine z_iload_n 18 dX4_readLine_17 rfl rfl ?_
      refine z_iconst 19 dX4_readLine_18 vim1 rfl ?_
      refine z_icmp_ne_t 32 dX4_readLine_19 rfl (nI_ne_m1 (by omega)) ?_
      refine z_iload_n 33 dX4_readLine_32 rfl rfl ?_
      refine z_iconst 34 dX4_readLine_33 vi5 rfl ?_
      refine z_icmp_ne_t 42 dX4_readLine_34 rfl (fun z => c5 (nI_eqL (b := 5) (by omega) (by decide) z)) ?_
      refine z_iload_n 43 dX4_readLine_42 rfl rfl ?_
      refine z_iconst 44 dX4_readLine_43 vi4 rfl ?_
      refine z_icmp_ne_t 54 dX4_readLine_44 rfl (fun z => c4 (nI_eqL (b := 4) (by omega) (by decide) z)) ?_
      refine z_aload_n 55 dX4_readLine_54 rfl rfl ?_
      refine z_iload_n 56 dX4_readLine_55 rfl rfl ?_
      refine y_cVP 59 _ (cl) sh19 cv_X4_75 ⟨by decide, by decide, rfl, rfl⟩ (Nat.le_of_ble_eq_true rfl) dX4_readLine_56 rfl rfl (fun v56 σ56 hp56 => ?_)
      obtain ⟨rfl, w1, w2⟩ := hp56
      show Y G X mX4_readLine _ 59 _ [.int _]
      refine z_zret hq rfl bi_nar dX4_readLine_59 rfl rfl ?_
      exact ⟨_, ⟨rfl, w1, w2⟩, rfl⟩
  by_cases c1 : so = 1
  · have ek : lnK B so s e = frK B s e 6 0 := by rw [lnK, if_pos c1]
    have m1 := main (frK B s e 6 0) (frK_le 6 0 (by omega)) ek
    refine z_aload_n 1 dX4_readLine_0 rfl rfl ?_
    refine y_get 4 _ sh19 rfl fl_X4_43 dX4_readLine_1 rfl ?_
    rw [hO]
    refine z_iconst 5 dX4_readLine_4 vi1 rfl ?_
    refine z_icmp_ne_f 8 15 dX4_readLine_5 rfl (by rw [c1]; rfl) rfl ?_
    refine z_aload_n 9 dX4_readLine_8 rfl rfl ?_
    refine y_cVs 12 _ (c_lineOfName hA.1 ok hse he hS hA.2.1) sh19 cv_X4_62 ⟨by decide, by decide, rfl, rfl⟩ (Nat.le_of_ble_eq_true rfl) dX4_readLine_9 rfl rfl ?_
    refine z_goto 16 dX4_readLine_12 rfl ?_
    refine z_istore_n 17 [_, _] dX4_readLine_16 (by decide) rfl rfl rfl ?_
    exact m1
  · have ek : lnK B so s e = 6 := by rw [lnK, if_neg c1]
    have m1 := main 6 (Nat.le_refl _) ek
    refine z_aload_n 1 dX4_readLine_0 rfl rfl ?_
    refine y_get 4 _ sh19 rfl fl_X4_43 dX4_readLine_1 rfl ?_
    rw [hO]
    refine z_iconst 5 dX4_readLine_4 vi1 rfl ?_
    refine z_icmp_ne_t 15 dX4_readLine_5 rfl (fun z => c1 (nI_eqL (b := 1) (by omega) (by decide) z)) ?_
    refine z_iconst 16 dX4_readLine_15 vim1 rfl ?_
    refine z_istore_n 17 [_, _] dX4_readLine_16 (by decide) rfl rfl rfl ?_
    exact m1

