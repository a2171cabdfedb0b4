/-! ===== lines: the class ===== -/
def bnd' {α β : Type} (r : Sum (Nat × Nat) α) (f : α → Sum (Nat × Nat) β) : Sum (Nat × Nat) β := match r with
  | .inl q => .inl q
  | .inr x => f x
theorem bnd_l {α β : Type} {q : Nat × Nat} {f : α → Sum (Nat × Nat) β} : bnd' (.inl q) f = .inl q := rfl
theorem bnd_r {α β : Type} {x : α} {f : α → Sum (Nat × Nat) β} : bnd' (.inr x) f = f x := rfl
abbrev Ln : Type := Nat × Pg × Int32
def colQ (Q : Pg) (k l0 l1 l2 v : Nat) : Pg := un (un (un (un (un (un Q 56 (Q 56 + 1)) (Q 56) k) (5 + Q 56) l0) (10 + Q 56) l1) (15 + Q 56) l2) (20 + Q 56) v
def colF (tn : Nat) (B : Nat → Nat) (s e k : Nat) (Q : Pg) (T : Int32) : Sum (Nat × Nat) Ln := if 5 ≤ Q 56 then .inl (5, s) else bnd' (numF tn B e 9) fun x0 => bnd' (numF tn B x0.2.2 9) fun x1 => bnd' (numF tn B x1.2.2 9) fun x2 => bnd' (numF tn B x2.2.2 99) fun x3 => bnd' (stopF tn B x3.2.2) fun e4 => .inr (e4, colQ Q k x0.1 x1.1 x2.1 x3.1, T)
def oneQ (Q : Pg) (v0 v1 : Nat) : Pg := un (un (un Q 57 (Q 57 + 1)) (25 + Q 57) v0) (29 + Q 57) v1
def oneF (tn : Nat) (B : Nat → Nat) (s e : Nat) (Q : Pg) (T : Int32) : Sum (Nat × Nat) Ln := if 4 ≤ Q 57 then .inl (5, s) else bnd' (numF tn B e 99) fun x0 => bnd' (numF tn B x0.2.2 99) fun x1 => bnd' (stopF tn B x1.2.2) fun e4 => .inr (e4, oneQ Q x0.1 x1.1, T)
def lentF (tn : Nat) (B : Nat → Nat) (e : Nat) (Q : Pg) (T : Int32) : Sum (Nat × Nat) Ln := bnd' (numF tn B e 3) fun x0 => bnd' (numF tn B x0.2.2 4) fun x1 => if hb T (5 * x0.1 + x1.1) then .inl (4, x1.2.1) else bnd' (numF tn B x1.2.2 99) fun x2 => bnd' (stopF tn B x2.2.2) fun e4 => .inr (e4, un Q (33 + 5 * x0.1 + x1.1) x2.1, T ||| ((1 : Int32) <<< (nI (5 * x0.1 + x1.1) &&& 31)))
def lineF (tn : Nat) (B : Nat → Nat) (k s e : Nat) (Q : Pg) (T : Int32) : Sum (Nat × Nat) Ln := if k = 6 then .inl (2, s) else if k = 5 then lentF tn B e Q T else if k = 4 then oneF tn B s e Q T else colF tn B s e k Q T
def aLine (τ' : Nat → Int32) (r : Sum (Nat × Nat) Ln) : Prop := match r with
  | .inl (c, s) => τ' (400 * 19 + 2) = nI c ∧ τ' (400 * 19 + 3) = nI s
  | .inr (e, Q, T) => τ' (400 * 19 + 2) = 0 ∧ τ' (400 * 19 + 7) = nI e ∧ hds τ' 21 Q ∧ τ' (400 * 19 + 6) = T
def offL (τ' τ : Nat → Int32) : Prop := ∀ a, (a < 7602 ∨ (7604 ≤ a ∧ a < 7606) ∨ (7611 ≤ a ∧ a < 8400) ∨ 8462 ≤ a) → τ' a = τ a
theorem offL.tr {τ τ' τ'' : Nat → Int32} (h : offL τ'' τ') (h2 : offL τ' τ) : offL τ'' τ := fun a ha => (h a ha).trans (h2 a ha)
theorem offL.rf {τ : Nat → Int32} : offL τ τ := fun _ _ => rfl
theorem offL_sp {τ : Nat → Int32} {R : Pg} : offL (sp τ 21 R) τ := fun a ha => sp_off (by omega)
theorem offK8.l {τ τ' : Nat → Int32} (h : offK8 τ' τ) : offL τ' τ := fun a ha => h a (by omega) (by omega) (by omega) (by omega) (by omega) (by omega)
/-- where a walk over the tape stands -/
def stT (τ : Nat → Int32) (tn : Nat) (B : Nat → Nat) (a : Nat) : Prop := hTa τ tn B ∧ τ (400 * 19 + 7) = nI a ∧ τ (400 * 19 + 2) = 0
theorem stT_sp {τ : Nat → Int32} {tn a : Nat} {B : Nat → Nat} {R : Pg} (h : stT τ tn B a) (ok : okT tn B) : stT (sp τ 21 R) tn B a := by
  have h6 := ok.1
  exact ⟨⟨(sp_off (by omega)).trans h.1.1, fun i hi => (sp_off (by omega)).trans (h.1.2 i hi)⟩, (sp_off (by omega)).trans h.2.1, (sp_off (by omega)).trans h.2.2⟩
theorem hds_off8 {τ τ' : Nat → Int32} {R : Pg} (h : offK8 τ' (sp τ 21 R)) : hds τ' 21 R := fun i hi => (h _ (by omega) (by omega) (by omega) (by omega) (by omega) (by omega)).trans (sp_at rfl hi)

set_option maxRecDepth 100000 in
set_option maxHeartbeats 4000000 in
theorem c_readColour {l : Launch} {G : zG} {τ : Nat → Int32} {tn s e k : Nat} {B : Nat → Nat} {Q : Pg} (hA : stT τ tn B e) (ok : okT tn B) (he : e ≤ tn) (hs : s ≤ tn) (hD : hds τ 21 Q) (hq5 : Q 56 ≤ 5) (hS : τ (400 * 19 + 9) = nI s) (hk4 : k < 4) : zMet l yX4_readColour mX4_readColour [.ref (zGa G 19), .int (nI k)] G (zW G τ) (zP G (fun v τ' => v = some (.int (bi (isR (colF tn B s e k Q (τ (400 * 19 + 6))) = true))) ∧ aLine τ' (colF tn B s e k Q (τ (400 * 19 + 6))) ∧ offL τ' τ)) := by
  have h6 := ok.1
  generalize hR : colF tn B s e k Q (τ (400 * 19 + 6)) = Rz
  rw [colF] at hR
  conv => arg 6; rw [← sp_self hD]
  refine zMet.of (by decide) rfl (Nat.le_of_ble_eq_true rfl) (Or.inr rfl) fun X hX hq => ?_
  subst hX
  show Y G X mX4_readColour (sp τ 21 Q) 0 [some (.ref (zGa G 19)), some (.int (nI k)), none, none] []
  have st0 : ∀ R, sp τ 21 R (400 * 19 + 9) = nI s := fun R => (sp_off (by omega)).trans hS
  by_cases c5 : 5 ≤ Q 56
  · rw [if_pos c5] at hR
    refine z_aload_n 1 dX4_readColour_0 rfl rfl ?_
    refine y_getr 4 _ sh19 rfl fl_X4_18 dX4_readColour_1 rfl ?_
    refine p_get 7 bkm21 rfl fl_X4_79 dX4_readColour_4 rfl ?_
    refine z_istore_n 8 [_, _, _, _] dX4_readColour_7 (by decide) rfl rfl rfl ?_
    refine z_iload_n 9 dX4_readColour_8 rfl rfl ?_
    refine z_iconst 10 dX4_readColour_9 vi5 rfl ?_
    refine z_icmp_lt_f 13 23 dX4_readColour_10 rfl (nI_nlt (b := 5) c5 (by omega)) rfl ?_
    refine z_aload_n 14 dX4_readColour_13 rfl rfl ?_
    refine z_iconst 15 dX4_readColour_14 vi5 rfl ?_
    refine z_aload_n 16 dX4_readColour_15 rfl rfl ?_
    refine y_get 19 _ sh19 rfl fl_X4_66 dX4_readColour_16 rfl ?_
    rw [st0]
    refine y_cVs 22 _ (c_refuse) sh19 cv_X4_55 ⟨by decide, by decide, rfl, rfl⟩ (Nat.le_of_ble_eq_true rfl) dX4_readColour_19 rfl rfl ?_
    refine z_zret hq rfl rfl dX4_readColour_22 rfl rfl ?_
    rw [← hR]
    exact ⟨_, ⟨rfl, ⟨by rw [pk_un (by omega), pk_us]; rfl, by rw [pk_us]⟩, fun a ha => by rw [pk_un (by omega), pk_un (by omega)]; exact offL_sp a ha⟩, rfl⟩
  rw [if_neg c5] at hR
  obtain ⟨c, hc⟩ : ∃ c, c = Q 56 := ⟨_, rfl⟩
  refine z_aload_n 1 dX4_readColour_0 rfl rfl ?_
  refine y_getr 4 _ sh19 rfl fl_X4_18 dX4_readColour_1 rfl ?_
  refine p_get 7 bkm21 rfl fl_X4_79 dX4_readColour_4 rfl ?_
  refine z_istore_n 8 [_, _, _, _] dX4_readColour_7 (by decide) rfl rfl rfl ?_
  refine z_iload_n 9 dX4_readColour_8 rfl rfl ?_
  refine z_iconst 10 dX4_readColour_9 vi5 rfl ?_
  refine z_icmp_lt_t 23 dX4_readColour_10 rfl (nI_lt (b := 5) (by omega) (by decide)) ?_
  refine z_aload_n 24 dX4_readColour_23 rfl rfl ?_
  refine y_getr 27 _ sh19 rfl fl_X4_18 dX4_readColour_24 rfl ?_
  refine z_dup 28 dX4_readColour_27 rfl rfl ?_
  refine p_get 31 bkm21 rfl fl_X4_79 dX4_readColour_28 rfl ?_
  refine z_iconst 32 dX4_readColour_31 vi1 rfl ?_
  refine z_iaddN 33 rfl (show (1 : Int32) = nI 1 from rfl) dX4_readColour_32 rfl ?_
  refine p_put 36 bkm21 rfl rfl fp_X4_79 dX4_readColour_33 rfl ?_
  refine z_aload_n 37 dX4_readColour_36 rfl rfl ?_
  refine y_getr 40 _ sh19 rfl fl_X4_18 dX4_readColour_37 rfl ?_
  refine y_getr 43 _ (bk0 bkm21) rfl fl_X4_82 dX4_readColour_40 rfl ?_
  refine z_iload_n 44 dX4_readColour_43 rfl rfl ?_
  refine z_iload_n 45 dX4_readColour_44 rfl rfl ?_
  refine p_st 46 _ (bk1 bkm21) rfl (by omega) rfl (by decide) dX4_readColour_45 rfl ?_
  refine z_iconst 47 dX4_readColour_46 vi0 rfl ?_
  refine z_istore_n 48 [_, _, _, _] dX4_readColour_47 (by decide) rfl rfl rfl ?_
  rw [Nat.zero_add]
  rw [show (nI (Q 56)) = nI c by rw [hc]]
  generalize hQ0 : un (un Q 56 (Q 56 + 1)) (Q 56) k = Q0
  have oA : offL τ τ := offL.rf
  have tA : τ (400 * 19 + 6) = τ (400 * 19 + 6) := rfl

  have cn0 := c_readNumber (l := zXl X) (G := G) (most := 9) (stT_sp (R := Q0) hA ok).1 ok he (stT_sp (R := Q0) hA ok).2.1 (stT_sp (R := Q0) hA ok).2.2 (by decide)
  show Y G X mX4_readColour (sp _ 21 Q0) 48 [some (.ref (zGa G 19)), some (.int (nI k)), some (.int (nI c)), some (.int (nI 0))] []
  refine z_iload_n 49 dX4_readColour_48 rfl rfl ?_
  refine z_iconst 50 dX4_readColour_49 vi3 rfl ?_
  refine z_icmp_ge_f 53 87 dX4_readColour_50 rfl (by decide) rfl ?_
  refine z_aload_n 54 dX4_readColour_53 rfl rfl ?_
  refine z_bipush 56 dX4_readColour_54 vb9 rfl ?_
  refine y_cVP 59 _ (cn0) sh19 cv_X4_85 ⟨by decide, by decide, rfl, rfl⟩ (Nat.le_of_ble_eq_true rfl) dX4_readColour_56 rfl rfl (fun v56 σ56 hp56 => ?_)
  obtain ⟨rfl, g1, g2⟩ := hp56
  show Y G X mX4_readColour _ 59 _ [.int _]
  skip
  have of0 : offL σ56 τ := (g2.l.tr offL_sp).tr oA
  have tt0 : σ56 (400 * 19 + 6) = τ (400 * 19 + 6) := ((g2 _ (by omega) (by omega) (by omega) (by omega) (by omega) (by omega)).trans (sp_off (by omega))).trans tA
  have hd0 : hds σ56 21 Q0 := hds_off8 g2
  cases hk0 : numF tn B e 9 with
  | inl q =>
    obtain ⟨cc, ss⟩ := q
    rw [hk0] at g1
    rw [hk0, bnd_l] at hR
    refine z_if_ne_f 62 64 dX4_readColour_59 rfl (rfl) rfl ?_
    refine z_iconst 63 dX4_readColour_62 vi0 rfl ?_
    refine z_zret hq rfl rfl dX4_readColour_63 rfl rfl ?_
    rw [← hR]
    exact ⟨_, ⟨rfl, g1, of0⟩, rfl⟩
  | inr q =>
  obtain ⟨v0, s0, e0⟩ := q
  rw [hk0] at g1
  rw [hk0, bnd_r] at hR
  dsimp only at hR
  obtain ⟨f0, f1, f2, f3⟩ := g1
  have ho0 := numF_ok he hk0
  have st0x : stT σ56 tn B e0 := ⟨(stT_sp (R := Q0) hA ok).1.off8 g2, f3, f0⟩
  have he0 : e0 ≤ tn := ho0.2.2.2.1
  have vv0 : ∀ R, sp σ56 21 R (400 * 19 + 10) = nI v0 := fun R => (sp_off (by omega)).trans f1
  rw [← sp_self hd0]
  refine z_if_ne_t 64 dX4_readColour_59 rfl (bR_ne) ?_
  refine z_aload_n 65 dX4_readColour_64 rfl rfl ?_
  refine y_getr 68 _ sh19 rfl fl_X4_18 dX4_readColour_65 rfl ?_
  refine y_getr 71 _ (bk0 bkm21) rfl fl_X4_88 dX4_readColour_68 rfl ?_
  refine z_iconst 72 dX4_readColour_71 vi3 rfl ?_
  refine z_iload_n 73 dX4_readColour_72 rfl rfl ?_
  refine z_imulN 74 (show (3 : Int32) = nI 3 from rfl) rfl dX4_readColour_73 rfl ?_
  refine z_iload_n 75 dX4_readColour_74 rfl rfl ?_
  refine z_iaddN 76 rfl rfl dX4_readColour_75 rfl ?_
  refine z_aload_n 77 dX4_readColour_76 rfl rfl ?_
  refine y_get 80 _ sh19 rfl fl_X4_91 dX4_readColour_77 rfl ?_
  rw [vv0]
  refine p_stL 81 _ (bk2 bkm21) rfl (by omega) rfl dX4_readColour_80 rfl ?_
  refine z_iinc 84 [_, _, _, _] dX4_readColour_81 rfl (show _ + _ = nI (_ + 1) from nI_1 _) (by decide) rfl rfl rfl ?_
  refine z_goto 48 dX4_readColour_84 rfl ?_
  rw [show 5 + (5 * ((3 * c + 0) % 3) + (3 * c + 0) / 3) = 5 + c by omega]
  generalize hQ1 : un Q0 (5 + c) v0 = Q1
  clear g2
  have cn1 := c_readNumber (l := zXl X) (G := G) (most := 9) (stT_sp (R := Q1) st0x ok).1 ok he0 (stT_sp (R := Q1) st0x ok).2.1 (stT_sp (R := Q1) st0x ok).2.2 (by decide)
  show Y G X mX4_readColour (sp _ 21 Q1) 48 [some (.ref (zGa G 19)), some (.int (nI k)), some (.int (nI c)), some (.int (nI 1))] []
  refine z_iload_n 49 dX4_readColour_48 rfl rfl ?_
  refine z_iconst 50 dX4_readColour_49 vi3 rfl ?_
  refine z_icmp_ge_f 53 87 dX4_readColour_50 rfl (by decide) rfl ?_
  refine z_aload_n 54 dX4_readColour_53 rfl rfl ?_
  refine z_bipush 56 dX4_readColour_54 vb9 rfl ?_
  refine y_cVP 59 _ (cn1) sh19 cv_X4_85 ⟨by decide, by decide, rfl, rfl⟩ (Nat.le_of_ble_eq_true rfl) dX4_readColour_56 rfl rfl (fun v56 σ56 hp56 => ?_)
  obtain ⟨rfl, g1, g2⟩ := hp56
  show Y G X mX4_readColour _ 59 _ [.int _]
  skip
  have of1 : offL σ56 τ := (g2.l.tr offL_sp).tr of0
  have tt1 : σ56 (400 * 19 + 6) = τ (400 * 19 + 6) := ((g2 _ (by omega) (by omega) (by omega) (by omega) (by omega) (by omega)).trans (sp_off (by omega))).trans tt0
  have hd1 : hds σ56 21 Q1 := hds_off8 g2
  cases hk1 : numF tn B e0 9 with
  | inl q =>
    obtain ⟨cc, ss⟩ := q
    rw [hk1] at g1
    rw [hk1, bnd_l] at hR
    refine z_if_ne_f 62 64 dX4_readColour_59 rfl (rfl) rfl ?_
    refine z_iconst 63 dX4_readColour_62 vi0 rfl ?_
    refine z_zret hq rfl rfl dX4_readColour_63 rfl rfl ?_
    rw [← hR]
    exact ⟨_, ⟨rfl, g1, of1⟩, rfl⟩
  | inr q =>
  obtain ⟨v1, s1, e1⟩ := q
  rw [hk1] at g1
  rw [hk1, bnd_r] at hR
  dsimp only at hR
  obtain ⟨f0, f1, f2, f3⟩ := g1
  have ho1 := numF_ok he0 hk1
  have st1x : stT σ56 tn B e1 := ⟨(stT_sp (R := Q1) st0x ok).1.off8 g2, f3, f0⟩
  have he1 : e1 ≤ tn := ho1.2.2.2.1
  have vv1 : ∀ R, sp σ56 21 R (400 * 19 + 10) = nI v1 := fun R => (sp_off (by omega)).trans f1
  rw [← sp_self hd1]
  refine z_if_ne_t 64 dX4_readColour_59 rfl (bR_ne) ?_
  refine z_aload_n 65 dX4_readColour_64 rfl rfl ?_
  refine y_getr 68 _ sh19 rfl fl_X4_18 dX4_readColour_65 rfl ?_
  refine y_getr 71 _ (bk0 bkm21) rfl fl_X4_88 dX4_readColour_68 rfl ?_
  refine z_iconst 72 dX4_readColour_71 vi3 rfl ?_
  refine z_iload_n 73 dX4_readColour_72 rfl rfl ?_
  refine z_imulN 74 (show (3 : Int32) = nI 3 from rfl) rfl dX4_readColour_73 rfl ?_
  refine z_iload_n 75 dX4_readColour_74 rfl rfl ?_
  refine z_iaddN 76 rfl rfl dX4_readColour_75 rfl ?_
  refine z_aload_n 77 dX4_readColour_76 rfl rfl ?_
  refine y_get 80 _ sh19 rfl fl_X4_91 dX4_readColour_77 rfl ?_
  rw [vv1]
  refine p_stL 81 _ (bk2 bkm21) rfl (by omega) rfl dX4_readColour_80 rfl ?_
  refine z_iinc 84 [_, _, _, _] dX4_readColour_81 rfl (show _ + _ = nI (_ + 1) from nI_1 _) (by decide) rfl rfl rfl ?_
  refine z_goto 48 dX4_readColour_84 rfl ?_
  rw [show 5 + (5 * ((3 * c + 1) % 3) + (3 * c + 1) / 3) = 10 + c by omega]
  generalize hQ2 : un Q1 (10 + c) v1 = Q2
  clear g2
  have cn2 := c_readNumber (l := zXl X) (G := G) (most := 9) (stT_sp (R := Q2) st1x ok).1 ok he1 (stT_sp (R := Q2) st1x ok).2.1 (stT_sp (R := Q2) st1x ok).2.2 (by decide)
  show Y G X mX4_readColour (sp _ 21 Q2) 48 [some (.ref (zGa G 19)), some (.int (nI k)), some (.int (nI c)), some (.int (nI 2))] []
  refine z_iload_n 49 dX4_readColour_48 rfl rfl ?_
  refine z_iconst 50 dX4_readColour_49 vi3 rfl ?_
  refine z_icmp_ge_f 53 87 dX4_readColour_50 rfl (by decide) rfl ?_
  refine z_aload_n 54 dX4_readColour_53 rfl rfl ?_
  refine z_bipush 56 dX4_readColour_54 vb9 rfl ?_
  refine y_cVP 59 _ (cn2) sh19 cv_X4_85 ⟨by decide, by decide, rfl, rfl⟩ (Nat.le_of_ble_eq_true rfl) dX4_readColour_56 rfl rfl (fun v56 σ56 hp56 => ?_)
  obtain ⟨rfl, g1, g2⟩ := hp56
  show Y G X mX4_readColour _ 59 _ [.int _]
  skip
  have of2 : offL σ56 τ := (g2.l.tr offL_sp).tr of1
  have tt2 : σ56 (400 * 19 + 6) = τ (400 * 19 + 6) := ((g2 _ (by omega) (by omega) (by omega) (by omega) (by omega) (by omega)).trans (sp_off (by omega))).trans tt1
  have hd2 : hds σ56 21 Q2 := hds_off8 g2
  cases hk2 : numF tn B e1 9 with
  | inl q =>
    obtain ⟨cc, ss⟩ := q
    rw [hk2] at g1
    rw [hk2, bnd_l] at hR
    refine z_if_ne_f 62 64 dX4_readColour_59 rfl (rfl) rfl ?_
    refine z_iconst 63 dX4_readColour_62 vi0 rfl ?_
    refine z_zret hq rfl rfl dX4_readColour_63 rfl rfl ?_
    rw [← hR]
    exact ⟨_, ⟨rfl, g1, of2⟩, rfl⟩
  | inr q =>
  obtain ⟨v2, s2, e2⟩ := q
  rw [hk2] at g1
  rw [hk2, bnd_r] at hR
  dsimp only at hR
  obtain ⟨f0, f1, f2, f3⟩ := g1
  have ho2 := numF_ok he1 hk2
  have st2x : stT σ56 tn B e2 := ⟨(stT_sp (R := Q2) st1x ok).1.off8 g2, f3, f0⟩
  have he2 : e2 ≤ tn := ho2.2.2.2.1
  have vv2 : ∀ R, sp σ56 21 R (400 * 19 + 10) = nI v2 := fun R => (sp_off (by omega)).trans f1
  rw [← sp_self hd2]
  refine z_if_ne_t 64 dX4_readColour_59 rfl (bR_ne) ?_
  refine z_aload_n 65 dX4_readColour_64 rfl rfl ?_
  refine y_getr 68 _ sh19 rfl fl_X4_18 dX4_readColour_65 rfl ?_
  refine y_getr 71 _ (bk0 bkm21) rfl fl_X4_88 dX4_readColour_68 rfl ?_
  refine z_iconst 72 dX4_readColour_71 vi3 rfl ?_
  refine z_iload_n 73 dX4_readColour_72 rfl rfl ?_
  refine z_imulN 74 (show (3 : Int32) = nI 3 from rfl) rfl dX4_readColour_73 rfl ?_
  refine z_iload_n 75 dX4_readColour_74 rfl rfl ?_
  refine z_iaddN 76 rfl rfl dX4_readColour_75 rfl ?_
  refine z_aload_n 77 dX4_readColour_76 rfl rfl ?_
  refine y_get 80 _ sh19 rfl fl_X4_91 dX4_readColour_77 rfl ?_
  rw [vv2]
  refine p_stL 81 _ (bk2 bkm21) rfl (by omega) rfl dX4_readColour_80 rfl ?_
  refine z_iinc 84 [_, _, _, _] dX4_readColour_81 rfl (show _ + _ = nI (_ + 1) from nI_1 _) (by decide) rfl rfl rfl ?_
  refine z_goto 48 dX4_readColour_84 rfl ?_
  rw [show 5 + (5 * ((3 * c + 2) % 3) + (3 * c + 2) / 3) = 15 + c by omega]
  generalize hQ3 : un Q2 (15 + c) v2 = Q3
  clear g2
  have cn3 := c_readNumber (l := zXl X) (G := G) (most := 99) (stT_sp (R := Q3) st2x ok).1 ok he2 (stT_sp (R := Q3) st2x ok).2.1 (stT_sp (R := Q3) st2x ok).2.2 (by decide)
  show Y G X mX4_readColour (sp _ 21 Q3) 48 [some (.ref (zGa G 19)), some (.int (nI k)), some (.int (nI c)), some (.int (nI 3))] []
  refine z_iload_n 49 dX4_readColour_48 rfl rfl ?_
  refine z_iconst 50 dX4_readColour_49 vi3 rfl ?_
  refine z_icmp_ge_t 87 dX4_readColour_50 rfl (by decide) ?_
  refine z_aload_n 88 dX4_readColour_87 rfl rfl ?_
  refine z_bipush 90 dX4_readColour_88 vb99 rfl ?_
  refine y_cVP 93 _ (cn3) sh19 cv_X4_85 ⟨by decide, by decide, rfl, rfl⟩ (Nat.le_of_ble_eq_true rfl) dX4_readColour_90 rfl rfl (fun v90 σ90 hp90 => ?_)
  obtain ⟨rfl, g1, g2⟩ := hp90
  show Y G X mX4_readColour _ 93 _ [.int _]
  skip
  have of3 : offL σ90 τ := (g2.l.tr offL_sp).tr of2
  have tt3 : σ90 (400 * 19 + 6) = τ (400 * 19 + 6) := ((g2 _ (by omega) (by omega) (by omega) (by omega) (by omega) (by omega)).trans (sp_off (by omega))).trans tt2
  have hd3 : hds σ90 21 Q3 := hds_off8 g2
  cases hk3 : numF tn B e2 99 with
  | inl q =>
    obtain ⟨cc, ss⟩ := q
    rw [hk3] at g1
    rw [hk3, bnd_l] at hR
    refine z_if_ne_f 96 98 dX4_readColour_93 rfl (rfl) rfl ?_
    refine z_iconst 97 dX4_readColour_96 vi0 rfl ?_
    refine z_zret hq rfl rfl dX4_readColour_97 rfl rfl ?_
    rw [← hR]
    exact ⟨_, ⟨rfl, g1, of3⟩, rfl⟩
  | inr q =>
  obtain ⟨v3, s3, e3⟩ := q
  rw [hk3] at g1
  rw [hk3, bnd_r] at hR
  dsimp only at hR
  obtain ⟨f0, f1, f2, f3⟩ := g1
  have ho3 := numF_ok he2 hk3
  have st3x : stT σ90 tn B e3 := ⟨(stT_sp (R := Q3) st2x ok).1.off8 g2, f3, f0⟩
  have vv3 : ∀ R, sp σ90 21 R (400 * 19 + 10) = nI v3 := fun R => (sp_off (by omega)).trans f1
  rw [← sp_self hd3]
  have cs4 := c_readStop (l := zXl X) (G := G) (stT_sp (R := un Q3 (20 + c) v3) st3x ok).1 ok ho3.2.2.2.1 (stT_sp (R := un Q3 (20 + c) v3) st3x ok).2.1 (stT_sp (R := un Q3 (20 + c) v3) st3x ok).2.2
  refine z_if_ne_t 98 dX4_readColour_93 rfl (bR_ne) ?_
  refine z_aload_n 99 dX4_readColour_98 rfl rfl ?_
  refine y_getr 102 _ sh19 rfl fl_X4_18 dX4_readColour_99 rfl ?_
  refine y_getr 105 _ (bk0 bkm21) rfl fl_X4_94 dX4_readColour_102 rfl ?_
  refine z_iload_n 106 dX4_readColour_105 rfl rfl ?_
  refine z_aload_n 107 dX4_readColour_106 rfl rfl ?_
  refine y_get 110 _ sh19 rfl fl_X4_91 dX4_readColour_107 rfl ?_
  rw [vv3]
  refine p_st 111 _ (bk3 bkm21) rfl (by omega) rfl (by decide) dX4_readColour_110 rfl ?_
  refine z_aload_n 112 dX4_readColour_111 rfl rfl ?_
  refine y_cVP 115 _ (cs4) sh19 cv_X4_97 ⟨by decide, by decide, rfl, rfl⟩ (Nat.le_of_ble_eq_true rfl) dX4_readColour_112 rfl rfl (fun v112 σ112 hp112 => ?_)
  obtain ⟨rfl, w1, w2⟩ := hp112
  show Y G X mX4_readColour _ 115 _ [.int _]
  skip
  have of4 : offL σ112 τ := (w2.l.tr offL_sp).tr of3
  have tt4 : σ112 (400 * 19 + 6) = τ (400 * 19 + 6) := ((w2 _ (by omega) (by omega) (by omega) (by omega) (by omega) (by omega)).trans (sp_off (by omega))).trans tt3
  have hd4 : hds σ112 21 (un Q3 (20 + c) v3) := hds_off8 w2
  have eQ : un Q3 (20 + c) v3 = colQ Q k v0 v1 v2 v3 := by rw [← hQ3, ← hQ2, ← hQ1, ← hQ0, colQ, hc]
  cases hk4' : stopF tn B e3 with
  | inl q =>
    obtain ⟨cc, ss⟩ := q
    rw [hk4'] at w1
    rw [hk4', bnd_l] at hR
    refine z_zret hq rfl bi_nar dX4_readColour_115 rfl rfl ?_
    rw [← hR]
    exact ⟨_, ⟨rfl, w1, of4⟩, rfl⟩
  | inr e4 =>
    rw [hk4'] at w1
    rw [hk4', bnd_r] at hR
    refine z_zret hq rfl bi_nar dX4_readColour_115 rfl rfl ?_
    rw [← hR]
    exact ⟨_, ⟨rfl, ⟨w1.1, w1.2, eQ ▸ hd4, tt4⟩, of4⟩, rfl⟩
set_option maxRecDepth 100000 in
set_option maxHeartbeats 4000000 in
theorem c_readOne {l : Launch} {G : zG} {τ : Nat → Int32} {tn s e : Nat} {B : Nat → Nat} {Q : Pg} (hA : stT τ tn B e) (ok : okT tn B) (he : e ≤ tn) (hs : s ≤ tn) (hD : hds τ 21 Q) (hq4 : Q 57 ≤ 4) (hS : τ (400 * 19 + 9) = nI s) : zMet l yX4_readOne mX4_readOne [.ref (zGa G 19)] G (zW G τ) (zP G (fun v τ' => v = some (.int (bi (isR (oneF tn B s e Q (τ (400 * 19 + 6))) = true))) ∧ aLine τ' (oneF tn B s e Q (τ (400 * 19 + 6))) ∧ offL τ' τ)) := by
  have h6 := ok.1
  generalize hR : oneF tn B s e Q (τ (400 * 19 + 6)) = Rz
  rw [oneF] at hR
  conv => arg 6; rw [← sp_self hD]
  refine zMet.of (by decide) rfl (Nat.le_of_ble_eq_true rfl) (Or.inr rfl) fun X hX hq => ?_
  subst hX
  show Y G X mX4_readOne (sp τ 21 Q) 0 [some (.ref (zGa G 19)), none] []
  have st0 : ∀ R, sp τ 21 R (400 * 19 + 9) = nI s := fun R => (sp_off (by omega)).trans hS
  by_cases c5 : 4 ≤ Q 57
  · rw [if_pos c5] at hR
    refine z_aload_n 1 dX4_readOne_0 rfl rfl ?_
    refine y_getr 4 _ sh19 rfl fl_X4_18 dX4_readOne_1 rfl ?_
    refine p_get 7 bkm21 rfl fl_X4_100 dX4_readOne_4 rfl ?_
    refine z_istore_n 8 [_, _] dX4_readOne_7 (by decide) rfl rfl rfl ?_
    refine z_iload_n 9 dX4_readOne_8 rfl rfl ?_
    refine z_iconst 10 dX4_readOne_9 vi4 rfl ?_
    refine z_icmp_lt_f 13 23 dX4_readOne_10 rfl (nI_nlt (b := 4) c5 (by omega)) rfl ?_
    refine z_aload_n 14 dX4_readOne_13 rfl rfl ?_
    refine z_iconst 15 dX4_readOne_14 vi5 rfl ?_
    refine z_aload_n 16 dX4_readOne_15 rfl rfl ?_
    refine y_get 19 _ sh19 rfl fl_X4_66 dX4_readOne_16 rfl ?_
    rw [st0]
    refine y_cVs 22 _ (c_refuse) sh19 cv_X4_55 ⟨by decide, by decide, rfl, rfl⟩ (Nat.le_of_ble_eq_true rfl) dX4_readOne_19 rfl rfl ?_
    refine z_zret hq rfl rfl dX4_readOne_22 rfl rfl ?_
    rw [← hR]
    exact ⟨_, ⟨rfl, ⟨by rw [pk_un (by omega), pk_us]; rfl, by rw [pk_us]⟩, fun a ha => by rw [pk_un (by omega), pk_un (by omega)]; exact offL_sp a ha⟩, rfl⟩
  rw [if_neg c5] at hR
  obtain ⟨c, hc⟩ : ∃ c, c = Q 57 := ⟨_, rfl⟩
  have oA : offL τ τ := offL.rf
  have tA : τ (400 * 19 + 6) = τ (400 * 19 + 6) := rfl
  generalize hQ0 : un Q 57 (Q 57 + 1) = Q0
  have cn0 := c_readNumber (l := zXl X) (G := G) (most := 99) (stT_sp (R := Q0) hA ok).1 ok he (stT_sp (R := Q0) hA ok).2.1 (stT_sp (R := Q0) hA ok).2.2 (by decide)
  refine z_aload_n 1 dX4_readOne_0 rfl rfl ?_
  refine y_getr 4 _ sh19 rfl fl_X4_18 dX4_readOne_1 rfl ?_
  refine p_get 7 bkm21 rfl fl_X4_100 dX4_readOne_4 rfl ?_
  refine z_istore_n 8 [_, _] dX4_readOne_7 (by decide) rfl rfl rfl ?_
  refine z_iload_n 9 dX4_readOne_8 rfl rfl ?_
  refine z_iconst 10 dX4_readOne_9 vi4 rfl ?_
  refine z_icmp_lt_t 23 dX4_readOne_10 rfl (nI_lt (b := 4) (by omega) (by decide)) ?_
  refine z_aload_n 24 dX4_readOne_23 rfl rfl ?_
  refine y_getr 27 _ sh19 rfl fl_X4_18 dX4_readOne_24 rfl ?_
  refine z_dup 28 dX4_readOne_27 rfl rfl ?_
  refine p_get 31 bkm21 rfl fl_X4_100 dX4_readOne_28 rfl ?_
  refine z_iconst 32 dX4_readOne_31 vi1 rfl ?_
  refine z_iaddN 33 rfl (show (1 : Int32) = nI 1 from rfl) dX4_readOne_32 rfl ?_
  refine p_put 36 bkm21 rfl rfl fp_X4_100 dX4_readOne_33 rfl ?_
  rw [hQ0, show (nI (Q 57)) = nI c by rw [hc]]
  refine z_aload_n 37 dX4_readOne_36 rfl rfl ?_
  refine z_bipush 39 dX4_readOne_37 vb99 rfl ?_
  refine y_cVP 42 _ (cn0) sh19 cv_X4_85 ⟨by decide, by decide, rfl, rfl⟩ (Nat.le_of_ble_eq_true rfl) dX4_readOne_39 rfl rfl (fun v39 σ39 hp39 => ?_)
  obtain ⟨rfl, g1, g2⟩ := hp39
  show Y G X mX4_readOne _ 42 _ [.int _]
  skip
  have of0 : offL σ39 τ := (g2.l.tr offL_sp).tr oA
  have tt0 : σ39 (400 * 19 + 6) = τ (400 * 19 + 6) := ((g2 _ (by omega) (by omega) (by omega) (by omega) (by omega) (by omega)).trans (sp_off (by omega))).trans tA
  have hd0 : hds σ39 21 Q0 := hds_off8 g2
  cases hk0 : numF tn B e 99 with
  | inl q =>
    obtain ⟨cc, ss⟩ := q
    rw [hk0] at g1
    rw [hk0, bnd_l] at hR
    refine z_if_ne_f 45 47 dX4_readOne_42 rfl (rfl) rfl ?_
    refine z_iconst 46 dX4_readOne_45 vi0 rfl ?_
    refine z_zret hq rfl rfl dX4_readOne_46 rfl rfl ?_
    rw [← hR]
    exact ⟨_, ⟨rfl, g1, of0⟩, rfl⟩
  | inr q =>
  obtain ⟨v0, s0, e0⟩ := q
  rw [hk0] at g1
  rw [hk0, bnd_r] at hR
  dsimp only at hR
  obtain ⟨f0, f1, f2, f3⟩ := g1
  have ho0 := numF_ok he hk0
  have st0x : stT σ39 tn B e0 := ⟨(stT_sp (R := Q0) hA ok).1.off8 g2, f3, f0⟩
  have he0 : e0 ≤ tn := ho0.2.2.2.1
  have vv0 : ∀ R, sp σ39 21 R (400 * 19 + 10) = nI v0 := fun R => (sp_off (by omega)).trans f1
  rw [← sp_self hd0]
  have cn1 := c_readNumber (l := zXl X) (G := G) (most := 99) (stT_sp (R := un Q0 (25 + c) v0) st0x ok).1 ok he0 (stT_sp (R := un Q0 (25 + c) v0) st0x ok).2.1 (stT_sp (R := un Q0 (25 + c) v0) st0x ok).2.2 (by decide)
  refine z_if_ne_t 47 dX4_readOne_42 rfl (bR_ne) ?_
  refine z_aload_n 48 dX4_readOne_47 rfl rfl ?_
  refine y_getr 51 _ sh19 rfl fl_X4_18 dX4_readOne_48 rfl ?_
  refine y_getr 54 _ (bk0 bkm21) rfl fl_X4_103 dX4_readOne_51 rfl ?_
  refine z_iload_n 55 dX4_readOne_54 rfl rfl ?_
  refine z_aload_n 56 dX4_readOne_55 rfl rfl ?_
  refine y_get 59 _ sh19 rfl fl_X4_91 dX4_readOne_56 rfl ?_
  rw [vv0]
  refine p_st 60 _ (bk4 bkm21) rfl (by omega) rfl (by decide) dX4_readOne_59 rfl ?_
  refine z_aload_n 61 dX4_readOne_60 rfl rfl ?_
  refine z_bipush 63 dX4_readOne_61 vb99 rfl ?_
  refine y_cVP 66 _ (cn1) sh19 cv_X4_85 ⟨by decide, by decide, rfl, rfl⟩ (Nat.le_of_ble_eq_true rfl) dX4_readOne_63 rfl rfl (fun v63 σ63 hp63 => ?_)
  obtain ⟨rfl, g1', g2'⟩ := hp63
  show Y G X mX4_readOne _ 66 _ [.int _]
  skip
  have of1 : offL σ63 τ := (g2'.l.tr offL_sp).tr of0
  have tt1 : σ63 (400 * 19 + 6) = τ (400 * 19 + 6) := ((g2' _ (by omega) (by omega) (by omega) (by omega) (by omega) (by omega)).trans (sp_off (by omega))).trans tt0
  have hd1 : hds σ63 21 (un Q0 (25 + c) v0) := hds_off8 g2'
  cases hk1 : numF tn B e0 99 with
  | inl q =>
    obtain ⟨cc, ss⟩ := q
    rw [hk1] at g1'
    rw [hk1, bnd_l] at hR
    refine z_if_ne_f 69 71 dX4_readOne_66 rfl (rfl) rfl ?_
    refine z_iconst 70 dX4_readOne_69 vi0 rfl ?_
    refine z_zret hq rfl rfl dX4_readOne_70 rfl rfl ?_
    rw [← hR]
    exact ⟨_, ⟨rfl, g1', of1⟩, rfl⟩
  | inr q =>
  obtain ⟨v1, s1, e1⟩ := q
  rw [hk1] at g1'
  rw [hk1, bnd_r] at hR
  dsimp only at hR
  obtain ⟨f0', f1', f2', f3'⟩ := g1'
  have ho1 := numF_ok he0 hk1
  have st1x : stT σ63 tn B e1 := ⟨(stT_sp (R := un Q0 (25 + c) v0) st0x ok).1.off8 g2', f3', f0'⟩
  have vv1 : ∀ R, sp σ63 21 R (400 * 19 + 10) = nI v1 := fun R => (sp_off (by omega)).trans f1'
  rw [← sp_self hd1]
  generalize hQ1 : un Q0 (25 + c) v0 = Q1
  have cs4 := c_readStop (l := zXl X) (G := G) (stT_sp (R := un Q1 (29 + c) v1) st1x ok).1 ok ho1.2.2.2.1 (stT_sp (R := un Q1 (29 + c) v1) st1x ok).2.1 (stT_sp (R := un Q1 (29 + c) v1) st1x ok).2.2
  refine z_if_ne_t 71 dX4_readOne_66 rfl (bR_ne) ?_
  refine z_aload_n 72 dX4_readOne_71 rfl rfl ?_
  refine y_getr 75 _ sh19 rfl fl_X4_18 dX4_readOne_72 rfl ?_
  refine y_getr 78 _ (bk0 bkm21) rfl fl_X4_106 dX4_readOne_75 rfl ?_
  refine z_iload_n 79 dX4_readOne_78 rfl rfl ?_
  refine z_aload_n 80 dX4_readOne_79 rfl rfl ?_
  refine y_get 83 _ sh19 rfl fl_X4_91 dX4_readOne_80 rfl ?_
  rw [vv1]
  refine p_st 84 _ (bk5 bkm21) rfl (by omega) rfl (by decide) dX4_readOne_83 rfl ?_
  refine z_aload_n 85 dX4_readOne_84 rfl rfl ?_
  refine y_cVP 88 _ (cs4) sh19 cv_X4_97 ⟨by decide, by decide, rfl, rfl⟩ (Nat.le_of_ble_eq_true rfl) dX4_readOne_85 rfl rfl (fun v85 σ85 hp85 => ?_)
  obtain ⟨rfl, w1, w2⟩ := hp85
  show Y G X mX4_readOne _ 88 _ [.int _]
  skip
  have of4 : offL σ85 τ := (w2.l.tr offL_sp).tr of1
  have tt4 : σ85 (400 * 19 + 6) = τ (400 * 19 + 6) := ((w2 _ (by omega) (by omega) (by omega) (by omega) (by omega) (by omega)).trans (sp_off (by omega))).trans tt1
  have hd4 : hds σ85 21 (un Q1 (29 + c) v1) := hds_off8 w2
  have eQ : un Q1 (29 + c) v1 = oneQ Q v0 v1 := by rw [← hQ1, ← hQ0, oneQ, hc]
  cases hk4' : stopF tn B e1 with
  | inl q =>
    obtain ⟨cc, ss⟩ := q
    rw [hk4'] at w1
    rw [hk4', bnd_l] at hR
    refine z_zret hq rfl bi_nar dX4_readOne_88 rfl rfl ?_
    rw [← hR]
    exact ⟨_, ⟨rfl, w1, of4⟩, rfl⟩
  | inr e4 =>
    rw [hk4'] at w1
    rw [hk4', bnd_r] at hR
    refine z_zret hq rfl bi_nar dX4_readOne_88 rfl rfl ?_
    rw [← hR]
    exact ⟨_, ⟨rfl, ⟨w1.1, w1.2, eQ ▸ hd4, tt4⟩, of4⟩, rfl⟩

