/-! ===== days that are tried: daysGo, runs, ahead, lasts ===== -/
def frst (f : Nat → Nat) (b : Nat) : Nat → Int32
  | 0 => -4
  | k + 1 => if frst f b k = -4 ∧ b < f (k + 1) then nI (k + 1) else frst f b k
theorem okZ_colGo {Q : Pg} {p c t : Nat} (h : okZ Q) (hp : p < Q 57) (hp4 : p < 4) (hc : c < Q 56) (hc5 : c < 5) : okZ (colGo Q p c t) := by
  intro p' c' hp' hc' hx
  rw [colGo_off (i := 57) (by omega) (by omega) (by omega) (by omega) (by omega) (by omega), colGo_off (i := 56) (by omega) (by omega) (by omega) (by omega) (by omega) (by omega)] at hx
  rw [colGo_off (by omega) (by omega) (by omega) (by omega) (by omega) (by omega)]
  exact h p' c' hp' hc' hx
theorem okZ_un {Q : Pg} {i v : Nat} (h : okZ Q) (hi : i < 33 ∨ (53 ≤ i ∧ i < 56) ∨ 58 ≤ i) : okZ (un Q i v) := by
  intro p c hp hc hx
  rw [un_n (by omega), un_n (by omega)] at hx
  rw [un_n (by omega)]
  exact h p c hp hc hx
theorem cols_cnt {Q : Pg} {p t : Nat} (hp : p < 4) : ∀ n, n ≤ 5 → cols Q p t n 56 = Q 56 ∧ cols Q p t n 57 = Q 57
  | n, hn => ⟨cols_off (by omega) (by omega) (by omega) (by omega) n (fun c hc => by omega), cols_off (by omega) (by omega) (by omega) (by omega) n (fun c hc => by omega)⟩
theorem okZ_cols {Q : Pg} {p t : Nat} (h : okZ Q) (ok : okQ Q) (hp : p < Q 57) : ∀ n, n ≤ Q 56 → okZ (cols Q p t n)
  | 0, _ => h
  | n + 1, hn => by
    have h5 := ok.nc
    have h4 := ok.np
    have hc := cols_cnt (Q := Q) (t := t) (show p < 4 by omega) n (by omega)
    exact okZ_colGo (okZ_cols h ok hp n (by omega)) (by omega) (by omega) (by omega) (by omega)
theorem okZ_dayO {Q : Pg} {p t : Nat} (h : okZ Q) (ok : okQ Q) (hp : p < Q 57) : okZ (dayO Q p t) := by
  have h4 := ok.np
  have e6 : un Q (25 + p) (min 999 (Q (25 + p) + Q (29 + p))) 56 = Q 56 := un_n (by omega)
  exact okZ_cols (okZ_un h (by omega)) (okQ_un ok (fun _ => by rw [bnd_p (by omega)]; exact Nat.min_le_left _ _)) (by rw [un_n (by omega)]; exact hp) _ (by omega)
theorem okZ_ones {Q : Pg} {t : Nat} (h : okZ Q) (ok : okQ Q) : ∀ n, n ≤ Q 57 → okZ (ones Q t n)
  | 0, _ => h
  | n + 1, hn => by
    have h4 := ok.np
    exact okZ_dayO (okZ_ones h ok n (by omega)) (okQ_ones ok n (by omega)) (by rw [ones_off ok (by omega) n (by omega)]; omega)
theorem okZ_dayA {Q : Pg} {t : Nat} (h : okZ Q) (ok : okQ Q) : okZ (dayA Q t) := okZ_un (okZ_ones h ok _ (Nat.le_refl _)) (by omega)
theorem okZ_daysA {Q : Pg} (h : okZ Q) (ok : okQ Q) : ∀ n, okZ (daysA Q n)
  | 0 => h
  | n + 1 => okZ_dayA (okZ_daysA h ok n) (okQ_daysA ok n)
theorem okQ_nrm {N : Pg} (ok : okQ N) : okQ (nrm N) := ok.eqc eqc_nrm
theorem okZ_nrm {N : Pg} (oz : okZ N) : okZ (nrm N) := oz.eqc eqc_nrm
/-! the reference's daysGo -/
theorem hdk_rsp_off {σ : Nat → Int32} {o o' : Nat} {N R : Pg} (h : hdk σ o N) (ho : o + 55 ≤ o' ∨ o' + 55 ≤ o) (ho' : o' ≤ 275 ∧ o ≤ 275) (h6 : R 56 = N 56) (h7 : R 57 = N 57) : hdk (rsp σ o' R) o N := fun i hi => by
  rcases hi with q | q | q
  · refine (ov_off ?_).trans (h i (Or.inl q))
    simp only [aR, if_pos q]
    exact pR_off (by omega) (by omega) (by omega)
  · subst q; rw [← h6]; exact ov_at (pR_at (o := o') (i := 56) ho'.1 (by decide))
  · subst q; rw [← h7]; exact ov_at (pR_at (o := o') (i := 57) ho'.1 (by decide))
theorem rsp_upd_off {σ : Nat → Int32} {o a : Nat} {Q : Pg} {x : Int32} (h : pR o a = none) : upd (rsp σ o Q) a x = rsp (upd σ a x) o Q := by
  funext b
  simp only [upd, ov]
  by_cases e : b = a
  · subst e; simp [h]
  · simp [e]
theorem upd_upd {σ : Nat → Int32} {a : Nat} {x y : Int32} : upd (upd σ a x) a y = upd σ a y := by
  funext b; simp only [upd]; split <;> rfl
theorem hdk_fs {σ : Nat → Int32} {o : Nat} {N : Pg} {x : Int32} (h : hdk σ o N) : hdk (upd σ (400 * 158 + 22) x) o N := fun i hi => by
  rw [pk_un]; · exact h i hi
  simp only [aR]
  rcases hi with q | q | q
  · rw [if_pos q]; omega
  · subst q; rw [if_neg (by decide), if_neg (by decide), if_pos rfl]; decide
  · subst q; rw [if_neg (by decide), if_neg (by decide), if_neg (by decide), if_pos rfl]; decide
theorem pR220_fs : pR 220 (400 * 158 + 22) = none := by decide
theorem fs_at {σ : Nat → Int32} {R : Pg} {x : Int32} : rsp (upd σ (400 * 158 + 22) x) 220 R (400 * 158 + 22) = x := (ov_off pR220_fs).trans pk_us
set_option maxRecDepth 100000 in
set_option maxHeartbeats 4000000 in
theorem c_daysGo {l : Launch} {G : zG} {σ : Nat → Int32} {o n : Nat} {N : Pg} (hc : hdk σ o N) (ho : o = 0 ∨ o = 275) (ok : okQ N) (hn : n ≤ 100) (hs : N 54 ≤ 1000000) : zMet l yX7_daysGo mX7_daysGo [.ref (zGa G 158), .int (nI o), .int (nI n)] G (zW G σ) (zFn G (some (.int (nI (daysA (nrm N) n 54 - N 54)))) (rsp (upd σ (400 * 158 + 22) (frst (fun k => daysA (nrm N) k 54) (N 54) n)) 220 (daysA (nrm N) n))) := by
  have o1 : o ≤ 275 := by omega
  have okn := okQ_nrm ok
  have n54 : nrm N 54 = N 54 := nrm_c (by decide)
  have cnt : ∀ k, daysA (nrm N) k 56 = N 56 ∧ daysA (nrm N) k 57 = N 57 := fun k => ⟨(daysA_56 okn k).1.trans (nrm_c (by decide)), (daysA_56 okn k).2.1.trans (nrm_c (by decide))⟩
  have b54 : ∀ k, N 54 ≤ daysA (nrm N) k 54 ∧ daysA (nrm N) k 54 ≤ N 54 + 20 * k := fun k => by have := daysA_54 okn k; rw [n54] at this; exact this
  have hdr_rsp : ∀ {τ : Nat → Int32} {R : Pg}, hdr (rsp τ 220 R) 220 R := hdr_rsp' (by decide)
  refine zMet.of (by decide) rfl (Nat.le_of_ble_eq_true rfl) (Or.inr rfl) fun X hX hq => ?_
  subst hX
  show Y G X mX7_daysGo σ 0 [some (.ref (zGa G 158)), some (.int (nI o)), some (.int (nI n)), none] []
  refine z_aload_n 1 dX7_daysGo_0 rfl rfl ?_
  refine z_iload_n 2 dX7_daysGo_1 rfl rfl ?_
  refine z_sipush 5 dX7_daysGo_2 vs220 rfl ?_
  refine y_cVv 8 _ (c_copies (t := 220) o1 (by decide) (by omega)) sh158 cv_X7_212 ⟨by decide, by decide, rfl, rfl⟩ (Nat.le_of_ble_eq_true rfl) dX7_daysGo_5 rfl rfl ?_
  refine z_aload_n 9 dX7_daysGo_8 rfl rfl ?_
  refine z_iconst 10 dX7_daysGo_9 vi0 rfl ?_
  refine y_putI 13 _ sh158 rfl fp_X7_160 dX7_daysGo_10 rfl ?_
  refine z_aload_n 14 dX7_daysGo_13 rfl rfl ?_
  refine z_bipush 16 dX7_daysGo_14 vbm4 rfl ?_
  refine y_putI 19 _ sh158 rfl fp_X7_215 dX7_daysGo_16 rfl ?_
  refine z_iconst 20 dX7_daysGo_19 vi0 rfl ?_
  refine z_istore_n 21 [_, _, _, _] dX7_daysGo_20 (by decide) rfl rfl rfl ?_
  skip
  refine z_iload_n 22 dX7_daysGo_21 rfl rfl ?_
  refine z_iconst 23 dX7_daysGo_22 vi4 rfl ?_
  refine z_icmp_ge_f 26 39 dX7_daysGo_23 rfl (by decide) rfl ?_
  refine z_aload_n 27 dX7_daysGo_26 rfl rfl ?_
  refine y_getr 30 _ sh158 rfl fl_X7_25 dX7_daysGo_27 rfl ?_
  refine z_iload_n 31 dX7_daysGo_30 rfl rfl ?_
  refine z_iconst 32 dX7_daysGo_31 vi0 rfl ?_
  refine y_st 33 _ 0 sh164 (show (0 : Int32) = nI 0 from rfl) (by decide) (by omega) dX7_daysGo_32 rfl ?_
  refine z_iinc 36 [_, _, _, _] dX7_daysGo_33 rfl (show _ + _ = nI (_ + 1) from nI_1 _) (by decide) rfl rfl rfl ?_
  refine z_goto 21 dX7_daysGo_36 rfl ?_
  skip
  refine z_iload_n 22 dX7_daysGo_21 rfl rfl ?_
  refine z_iconst 23 dX7_daysGo_22 vi4 rfl ?_
  refine z_icmp_ge_f 26 39 dX7_daysGo_23 rfl (by decide) rfl ?_
  refine z_aload_n 27 dX7_daysGo_26 rfl rfl ?_
  refine y_getr 30 _ sh158 rfl fl_X7_25 dX7_daysGo_27 rfl ?_
  refine z_iload_n 31 dX7_daysGo_30 rfl rfl ?_
  refine z_iconst 32 dX7_daysGo_31 vi0 rfl ?_
  refine y_st 33 _ 1 sh164 rfl (by decide) (by omega) dX7_daysGo_32 rfl ?_
  refine z_iinc 36 [_, _, _, _] dX7_daysGo_33 rfl (show _ + _ = nI (_ + 1) from nI_1 _) (by decide) rfl rfl rfl ?_
  refine z_goto 21 dX7_daysGo_36 rfl ?_
  skip
  refine z_iload_n 22 dX7_daysGo_21 rfl rfl ?_
  refine z_iconst 23 dX7_daysGo_22 vi4 rfl ?_
  refine z_icmp_ge_f 26 39 dX7_daysGo_23 rfl (by decide) rfl ?_
  refine z_aload_n 27 dX7_daysGo_26 rfl rfl ?_
  refine y_getr 30 _ sh158 rfl fl_X7_25 dX7_daysGo_27 rfl ?_
  refine z_iload_n 31 dX7_daysGo_30 rfl rfl ?_
  refine z_iconst 32 dX7_daysGo_31 vi0 rfl ?_
  refine y_st 33 _ 2 sh164 rfl (by decide) (by omega) dX7_daysGo_32 rfl ?_
  refine z_iinc 36 [_, _, _, _] dX7_daysGo_33 rfl (show _ + _ = nI (_ + 1) from nI_1 _) (by decide) rfl rfl rfl ?_
  refine z_goto 21 dX7_daysGo_36 rfl ?_
  skip
  refine z_iload_n 22 dX7_daysGo_21 rfl rfl ?_
  refine z_iconst 23 dX7_daysGo_22 vi4 rfl ?_
  refine z_icmp_ge_f 26 39 dX7_daysGo_23 rfl (by decide) rfl ?_
  refine z_aload_n 27 dX7_daysGo_26 rfl rfl ?_
  refine y_getr 30 _ sh158 rfl fl_X7_25 dX7_daysGo_27 rfl ?_
  refine z_iload_n 31 dX7_daysGo_30 rfl rfl ?_
  refine z_iconst 32 dX7_daysGo_31 vi0 rfl ?_
  refine y_st 33 _ 3 sh164 rfl (by decide) (by omega) dX7_daysGo_32 rfl ?_
  refine z_iinc 36 [_, _, _, _] dX7_daysGo_33 rfl (show _ + _ = nI (_ + 1) from nI_1 _) (by decide) rfl rfl rfl ?_
  refine z_goto 21 dX7_daysGo_36 rfl ?_
  skip
  refine z_iload_n 22 dX7_daysGo_21 rfl rfl ?_
  refine z_iconst 23 dX7_daysGo_22 vi4 rfl ?_
  refine z_icmp_ge_t 39 dX7_daysGo_23 rfl (by decide) ?_
  refine z_iconst 40 dX7_daysGo_39 vi1 rfl ?_
  refine z_istore_n 41 [_, _, _, _] dX7_daysGo_40 (by decide) rfl rfl rfl ?_
  refine y_cg (σ' := rsp (upd σ (400 * 158 + 22) (-4)) 220 (nrm N)) (fun s hs a hin => ?_) ?_
  · skip
    clear hin
    cases hp : pR 220 a with
    | none =>
      refine Eq.trans ?_ (ov_off hp).symm
      by_cases e : a = 400 * 158 + 22
      · subst e
        simp (disch := omega) only [pk_un, pk_us]
      · have h1 : ¬ (63600 + 220 ≤ a ∧ a < 63600 + 220 + 55) := fun q => by simp only [pR] at hp; rw [if_pos q] at hp; cases hp
        have h2 : a ≠ 63220 := fun q => by subst q; revert hp; decide
        have h3 : ¬ (65600 ≤ a ∧ a < 65604) := fun q => by
          simp only [pR] at hp; rw [if_neg (by omega), if_neg (by omega), if_neg (by omega), if_neg (by omega), if_pos q] at hp; cases hp
        simp (disch := omega) only [pk_un, cp_out]
    | some i =>
      obtain ⟨hi, rfl⟩ := pR_of hp
      refine Eq.trans ?_ (ov_at hp).symm
      rcases (show i < 55 ∨ i = 55 ∨ i = 56 ∨ i = 57 ∨ i = 58 ∨ i = 59 ∨ i = 60 ∨ i = 61 by omega) with e | e | e | e | e | e | e | e
      · rw [nrm_c (Or.inl e)]
        have hh := hc i (Or.inl e)
        simp only [aR, if_pos e] at hh ⊢
        simp (disch := omega) only [pk_un, cp_in]
        rw [← hh]; exact congrArg σ (by omega)
      · subst e; simp (disch := decide) only [aR, pk_un]; rfl
      · subst e
        have hh := hc 56 (by decide)
        rw [nrm_c (by decide), ← hh]
        simp (disch := decide) only [aR, pk_un, cp_out]; rfl
      · subst e
        have hh := hc 57 (by decide)
        rw [nrm_c (by decide), ← hh]
        simp (disch := decide) only [aR, pk_un, cp_out]; rfl
      all_goals subst e
      all_goals rw [nrm_n (by decide)]
      all_goals rfl
  show Y G X mX7_daysGo (rsp (upd σ (400 * 158 + 22) (-4)) 220 (nrm N)) 41 [some (.ref (zGa G 158)), some (.int (nI o)), some (.int (nI n)), some (.int (nI (0 + 1)))] []
  refine zup (P := fun k => Y G X mX7_daysGo (rsp (upd σ (400 * 158 + 22) (frst (fun k => daysA (nrm N) k 54) (N 54) k)) 220 (daysA (nrm N) k)) 41 [some (.ref (zGa G 158)), some (.int (nI o)), some (.int (nI n)), some (.int (nI (k + 1)))] []) n ?_ (fun k hk ih => ?_) 0 (Nat.zero_le _)
  · have ht := b54 n
    have hc2 : ∀ {x : Int32}, hdk (rsp (upd σ (400 * 158 + 22) x) 220 (daysA (nrm N) n)) o N := hdk_rsp_off (hdk_fs hc) (by omega) (by omega) (cnt n).1 (cnt n).2
    refine z_iload_n 42 dX7_daysGo_41 rfl rfl ?_
    refine z_iload_n 43 dX7_daysGo_42 rfl rfl ?_
    refine z_icmp_gt_t 101 dX7_daysGo_43 rfl (nI_lt (by omega) (by omega)) ?_
    refine z_aload_n 102 dX7_daysGo_101 rfl rfl ?_
    refine y_getr 105 _ sh158 rfl fl_X7_7 dX7_daysGo_102 rfl ?_
    refine z_sipush 108 dX7_daysGo_105 vs274 rfl ?_
    refine m_ld 109 54 hdr_rsp (show (274 : Int32) = nI 274 from rfl) (by omega) (by omega) (by omega) dX7_daysGo_108 rfl ?_
    refine z_aload_n 110 dX7_daysGo_109 rfl rfl ?_
    refine y_getr 113 _ sh158 rfl fl_X7_7 dX7_daysGo_110 rfl ?_
    refine z_iload_n 114 dX7_daysGo_113 rfl rfl ?_
    refine z_bipush 116 dX7_daysGo_114 vb54 rfl ?_
    refine z_iaddN 117 rfl (show (54 : Int32) = nI 54 from rfl) dX7_daysGo_116 rfl ?_
    refine q_ld 118 (54) hc2 rfl (by omega) (by omega) (by omega) dX7_daysGo_117 rfl ?_
    refine z_isubN 119 rfl rfl (by omega) dX7_daysGo_118 rfl ?_
    refine z_iret hq rfl dX7_daysGo_119 rfl rfl ?_
    exact ⟨rfl, rfl⟩
  · have ht := b54 (k + 1)
    have hc2 : ∀ {x : Int32}, hdk (rsp (upd σ (400 * 158 + 22) x) 220 (dayA (daysA (nrm N) k) 1)) o N := hdk_rsp_off (hdk_fs hc) (by omega) (by omega) (cnt (k + 1)).1 (cnt (k + 1)).2
    have efs : frst (fun k => daysA (nrm N) k 54) (N 54) (k + 1) = if frst (fun k => daysA (nrm N) k 54) (N 54) k = -4 ∧ N 54 < dayA (daysA (nrm N) k) 1 54 then nI (k + 1) else frst (fun k => daysA (nrm N) k 54) (N 54) k := rfl
    have ht : N 54 ≤ dayA (daysA (nrm N) k) 1 54 ∧ dayA (daysA (nrm N) k) 1 54 ≤ N 54 + 20 * (k + 1) := ht
    refine z_iload_n 42 dX7_daysGo_41 rfl rfl ?_
    refine z_iload_n 43 dX7_daysGo_42 rfl rfl ?_
    refine z_icmp_gt_f 46 101 dX7_daysGo_43 rfl (fun q => absurd ((nI_ltI (by omega) (by omega)).mp q) (by omega)) rfl ?_
    refine z_aload_n 47 dX7_daysGo_46 rfl rfl ?_
    refine z_sipush 50 dX7_daysGo_47 vs220 rfl ?_
    refine z_iconst 51 dX7_daysGo_50 vi1 rfl ?_
    refine y_cVv 54 _ (c_dayOn (o := 220) (t := 1) hdr_rsp (by decide) (okQ_daysA okn k) (by decide)) sh158 cv_X7_208 ⟨by decide, by decide, rfl, rfl⟩ (Nat.le_of_ble_eq_true rfl) dX7_daysGo_51 rfl rfl ?_
    rw [rsp_rsp]
    refine z_aload_n 55 dX7_daysGo_54 rfl rfl ?_
    refine z_aload_n 56 dX7_daysGo_55 rfl rfl ?_
    refine y_get 59 _ sh158 rfl fl_X7_215 dX7_daysGo_56 rfl ?_
    rw [fs_at]
    refine z_bipush 61 dX7_daysGo_59 vbm4 rfl ?_
    refine z_icmp_ne 88 64 dX7_daysGo_61 rfl rfl (fun h61 => ?_) (fun h61 => ?_)
    · skip
      rw [if_neg (fun q => h61 q.1)] at efs
      refine z_aload_n 89 dX7_daysGo_88 rfl rfl ?_
      refine y_get 92 _ sh158 rfl fl_X7_215 dX7_daysGo_89 rfl ?_
      rw [fs_at]
      refine y_putI 95 _ sh158 rfl fp_X7_215 dX7_daysGo_92 rfl ?_
      rw [rsp_upd_off pR220_fs, upd_upd]
      refine z_iinc 98 [_, _, _, _] dX7_daysGo_95 rfl (show _ + _ = nI (_ + 1) from nI_1 _) (by decide) rfl rfl rfl ?_
      refine z_goto 41 dX7_daysGo_98 rfl ?_
      rw [efs] at ih
      exact ih
    · skip
      refine z_aload_n 65 dX7_daysGo_64 rfl rfl ?_
      refine y_getr 68 _ sh158 rfl fl_X7_7 dX7_daysGo_65 rfl ?_
      refine z_sipush 71 dX7_daysGo_68 vs274 rfl ?_
      refine m_ld 72 54 hdr_rsp (show (274 : Int32) = nI 274 from rfl) (by omega) (by omega) (by omega) dX7_daysGo_71 rfl ?_
      refine z_aload_n 73 dX7_daysGo_72 rfl rfl ?_
      refine y_getr 76 _ sh158 rfl fl_X7_7 dX7_daysGo_73 rfl ?_
      refine z_iload_n 77 dX7_daysGo_76 rfl rfl ?_
      refine z_bipush 79 dX7_daysGo_77 vb54 rfl ?_
      refine z_iaddN 80 rfl (show (54 : Int32) = nI 54 from rfl) dX7_daysGo_79 rfl ?_
      refine q_ld 81 (54) hc2 rfl (by omega) (by omega) (by omega) dX7_daysGo_80 rfl ?_
      refine z_icmp_le 88 84 dX7_daysGo_81 rfl rfl (fun h81 => ?_) (fun h81 => ?_)
      · skip
        rw [if_neg (fun q => absurd ((nI_leI (by omega) (by omega)).mp h81) (by omega))] at efs
        refine z_aload_n 89 dX7_daysGo_88 rfl rfl ?_
        refine y_get 92 _ sh158 rfl fl_X7_215 dX7_daysGo_89 rfl ?_
        rw [fs_at]
        refine y_putI 95 _ sh158 rfl fp_X7_215 dX7_daysGo_92 rfl ?_
        rw [rsp_upd_off pR220_fs, upd_upd]
        refine z_iinc 98 [_, _, _, _] dX7_daysGo_95 rfl (show _ + _ = nI (_ + 1) from nI_1 _) (by decide) rfl rfl rfl ?_
        refine z_goto 41 dX7_daysGo_98 rfl ?_
        rw [efs] at ih
        exact ih
      · skip
        rw [if_pos ⟨h61, by rcases Nat.lt_or_ge (N 54) (dayA (daysA (nrm N) k) 1 54) with q | q; exact q; exact absurd (nI_le q (by omega)) h81⟩] at efs
        refine z_iload_n 85 dX7_daysGo_84 rfl rfl ?_
        refine z_goto 92 dX7_daysGo_85 rfl ?_
        skip
        refine y_putI 95 _ sh158 rfl fp_X7_215 dX7_daysGo_92 rfl ?_
        rw [rsp_upd_off pR220_fs, upd_upd]
        refine z_iinc 98 [_, _, _, _] dX7_daysGo_95 rfl (show _ + _ = nI (_ + 1) from nI_1 _) (by decide) rfl rfl rfl ?_
        refine z_goto 41 dX7_daysGo_98 rfl ?_
        rw [efs] at ih
        exact ih
/-! runs -/
def runV (N : Pg) (n w : Nat) : Int32 := if w = 0 then nI (heldA (daysA (nrm N) n)) else if w = 1 then nI (daysA (nrm N) n 54 - N 54) else if w = 2 then nI (daysA (nrm N) n 55) else frst (fun k => daysA (nrm N) k 54) (N 54) n
def vRuns (N : Pg) (n w : Int32) : Int32 := if inR n 61 ∧ inR w 4 then runV N (nN n) (nN w) else -1
/-- a question's answer: a value, and nothing changed but scratch -/
def pQ (σ : Nat → Int32) (V : Int32) : Option Value → (Nat → Int32) → Prop := fun v σ' => v = some (.int V) ∧ same σ' σ
theorem scr_fs : scr (400 * 158 + 22) = true := by decide
theorem same_dg {σ : Nat → Int32} {N R : Pg} {x : Int32} (hc : hdk σ 0 N) (h6 : R 56 = N 56) (h7 : R 57 = N 57) : same (rsp (upd σ (400 * 158 + 22) x) 220 R) σ :=
  same_rsp (same_upd same.rf scr_fs) (by decide) (by rw [h6, pk_un (by decide)]; exact hc 56 (by decide)) (by rw [h7, pk_un (by decide)]; exact hc 57 (by decide))
set_option maxRecDepth 100000 in
theorem x_runs {l : Launch} {G : zG} {σ : Nat → Int32} {N : Pg} {n w : Int32} (hc : hdc σ 1 N) (ok : okQ N) (oz : okZ N) (hs : N 54 ≤ 1000000) : zMet l yX6_runs mX6_runs [.ref (zGa G 0), .int n, .int w] G (zW G σ) (zP G (pQ σ (vRuns N n w))) := by
  have bn : bi ((0 : Int32) ≤ n ∧ n ≤ 60) = bi (inR n 61) := bi_cg (le_inR (n := 60) (by decide))
  have bw : bi ((0 : Int32) ≤ w ∧ w ≤ 3) = bi (inR w 4) := bi_cg (le_inR (n := 3) (by decide))
  have no : ¬ (inR n 61 ∧ inR w 4) → pQ σ (vRuns N n w) (some (.int (-1))) σ := fun h => ⟨by rw [vRuns, if_neg h], same.rf⟩
  have okn := okQ_nrm ok
  have ozn := okZ_nrm oz
  have n54 : nrm N 54 = N 54 := nrm_c (by decide)
  have b54 : ∀ k, N 54 ≤ daysA (nrm N) k 54 ∧ daysA (nrm N) k 54 ≤ N 54 + 20 * k := fun k => by have := daysA_54 okn k; rw [n54] at this; exact this
  refine zMet.of (by decide) rfl (Nat.le_of_ble_eq_true rfl) (Or.inr rfl) fun X hX hq => ?_
  subst hX
  show Y G X mX6_runs σ 0 [some (.ref (zGa G 0)), some (.int n), some (.int w), none, none] []
  by_cases hn : inR n 61
  · by_cases hw : inR w 4
    · obtain ⟨n', hn', rfl⟩ := inR_of hn (by decide)
      obtain ⟨w', hw', rfl⟩ := inR_of hw (by decide)
      have hc8 : ∀ {R : Pg}, hdc (sp σ 8 R) 1 N := hdc_off hc (by decide)
      have val : vRuns N (nI n') (nI w') = runV N n' w' := by rw [vRuns, if_pos ⟨hn, hw⟩, nN_nI (by omega), nN_nI (by omega)]
      refine z_iload_n 1 dX6_runs_0 rfl rfl ?_
      refine z_iconst 2 dX6_runs_1 vi0 rfl ?_
      refine z_bipush 4 dX6_runs_2 vb60 rfl ?_
      refine y_cSs 7 (c_within) cs_X6_73 ⟨by decide, by decide, rfl, rfl⟩ (Nat.le_of_ble_eq_true rfl) dX6_runs_4 rfl rfl ?_
      rw [bn]
      refine z_if_eq_f 10 19 dX6_runs_7 rfl (by rw [bi_t hn]; decide) rfl ?_
      refine z_iload_n 11 dX6_runs_10 rfl rfl ?_
      refine z_iconst 12 dX6_runs_11 vi0 rfl ?_
      refine z_iconst 13 dX6_runs_12 vi3 rfl ?_
      refine y_cSs 16 (c_within) cs_X6_73 ⟨by decide, by decide, rfl, rfl⟩ (Nat.le_of_ble_eq_true rfl) dX6_runs_13 rfl rfl ?_
      rw [bw]
      refine z_if_ne_t 21 dX6_runs_16 rfl (by rw [bi_t hw]; decide) ?_
      refine z_aload_n 22 dX6_runs_21 rfl rfl ?_
      refine y_getr 25 _ sh0 rfl fl_X6_16 dX6_runs_22 rfl ?_
      refine z_aload_n 26 dX6_runs_25 rfl rfl ?_
      refine y_getr 29 _ sh0 rfl fl_X6_10 dX6_runs_26 rfl ?_
      refine y_cVv 32 _ (n_takeFrom bkm8 bkm1 (by decide) hc) (bk0 bkm8) cv_X6_96 ⟨by decide, by decide, rfl, rfl⟩ (Nat.le_of_ble_eq_true rfl) dX6_runs_29 rfl rfl ?_
      refine z_bipush 34 dX6_runs_32 vbm4 rfl ?_
      refine z_istore_n 35 [_, _, _, _, _] dX6_runs_34 (by decide) rfl rfl rfl ?_
      refine z_iconst 36 dX6_runs_35 vi1 rfl ?_
      refine z_istore 38 [_, _, _, _, _] dX6_runs_36 (by decide) rfl rfl rfl ?_
      show Y G X mX6_runs (sp σ 8 (daysA (nrm N) 0)) 38 [some (.ref (zGa G 0)), some (.int (nI n')), some (.int (nI w')), some (.int (-4)), some (.int (nI (0 + 1)))] []
      refine zup (P := fun k => Y G X mX6_runs (sp σ 8 (daysA (nrm N) k)) 38 [some (.ref (zGa G 0)), some (.int (nI n')), some (.int (nI w')), some (.int (frst (fun k => daysA (nrm N) k 54) (N 54) k)), some (.int (nI (k + 1)))] []) n' ?_ (fun k hk ih => ?_) 0 (Nat.zero_le _)
      · have ht := b54 n'
        have fin : ∀ V, V = runV N n' w' → zP G (pQ σ (vRuns N (nI n') (nI w'))) (some (.int V)) (zW G (sp σ 8 (daysA (nrm N) n'))) := fun V hV => ⟨_, ⟨by rw [val, hV], same_sp8 same.rf⟩, rfl⟩
        rcases (show w' = 0 ∨ w' = 1 ∨ w' = 2 ∨ w' = 3 by omega) with e | e | e | e
        all_goals subst e
        · skip
          refine z_iload 40 dX6_runs_38 rfl rfl ?_
          refine z_iload_n 41 dX6_runs_40 rfl rfl ?_
          refine z_icmp_gt_t 84 dX6_runs_41 rfl (nI_lt (by omega) (by omega)) ?_
          refine z_iload_n 85 dX6_runs_84 rfl rfl ?_
          refine z_tsIn 112 dX6_runs_85 (by decide) (by decide) (by rfl) rfl ?_
          refine z_aload_n 113 dX6_runs_112 rfl rfl ?_
          refine y_getr 116 _ sh0 rfl fl_X6_16 dX6_runs_113 rfl ?_
          refine y_cVs 119 _ (c_heldByAll bkm8 hds_sp (okQ_daysA okn n').nc (okQ_daysA okn n').np (okZ_daysA ozn okn n')) (bk0 bkm8) cv_X6_118 ⟨by decide, by decide, rfl, rfl⟩ (Nat.le_of_ble_eq_true rfl) dX6_runs_116 rfl rfl ?_
          refine z_iret hq rfl dX6_runs_119 rfl rfl ?_
          exact fin _ rfl
        · skip
          refine z_iload 40 dX6_runs_38 rfl rfl ?_
          refine z_iload_n 41 dX6_runs_40 rfl rfl ?_
          refine z_icmp_gt_t 84 dX6_runs_41 rfl (nI_lt (by omega) (by omega)) ?_
          refine z_iload_n 85 dX6_runs_84 rfl rfl ?_
          refine z_tsIn 120 dX6_runs_85 (by decide) (by decide) (by rfl) rfl ?_
          refine z_aload_n 121 dX6_runs_120 rfl rfl ?_
          refine y_getr 124 _ sh0 rfl fl_X6_16 dX6_runs_121 rfl ?_
          refine p_get 127 bkm8 rfl fl_X6_112 dX6_runs_124 rfl ?_
          refine z_aload_n 128 dX6_runs_127 rfl rfl ?_
          refine y_getr 131 _ sh0 rfl fl_X6_10 dX6_runs_128 rfl ?_
          refine k_get 134 bkm1 hc8 rfl (by decide) fl_X6_112 dX6_runs_131 rfl ?_
          refine z_isubN 135 rfl rfl (by omega) dX6_runs_134 rfl ?_
          refine z_iret hq rfl dX6_runs_135 rfl rfl ?_
          exact fin _ rfl
        · skip
          refine z_iload 40 dX6_runs_38 rfl rfl ?_
          refine z_iload_n 41 dX6_runs_40 rfl rfl ?_
          refine z_icmp_gt_t 84 dX6_runs_41 rfl (nI_lt (by omega) (by omega)) ?_
          refine z_iload_n 85 dX6_runs_84 rfl rfl ?_
          refine z_tsIn 136 dX6_runs_85 (by decide) (by decide) (by rfl) rfl ?_
          refine z_aload_n 137 dX6_runs_136 rfl rfl ?_
          refine y_getr 140 _ sh0 rfl fl_X6_16 dX6_runs_137 rfl ?_
          refine p_get 143 bkm8 rfl fl_X6_194 dX6_runs_140 rfl ?_
          refine z_iret hq rfl dX6_runs_143 rfl rfl ?_
          exact fin _ rfl
        · skip
          refine z_iload 40 dX6_runs_38 rfl rfl ?_
          refine z_iload_n 41 dX6_runs_40 rfl rfl ?_
          refine z_icmp_gt_t 84 dX6_runs_41 rfl (nI_lt (by omega) (by omega)) ?_
          refine z_iload_n 85 dX6_runs_84 rfl rfl ?_
          refine z_tsOut 144 dX6_runs_85 (by decide) rfl ?_
          refine z_iload_n 145 dX6_runs_144 rfl rfl ?_
          refine z_iret hq rfl dX6_runs_145 rfl rfl ?_
          exact fin _ rfl
      · have ht := b54 (k + 1)
        have efs : frst (fun k => daysA (nrm N) k 54) (N 54) (k + 1) = if frst (fun k => daysA (nrm N) k 54) (N 54) k = -4 ∧ N 54 < dayA (daysA (nrm N) k) 1 54 then nI (k + 1) else frst (fun k => daysA (nrm N) k 54) (N 54) k := rfl
        have ht : N 54 ≤ dayA (daysA (nrm N) k) 1 54 ∧ dayA (daysA (nrm N) k) 1 54 ≤ N 54 + 20 * (k + 1) := ht
        refine z_iload 40 dX6_runs_38 rfl rfl ?_
        refine z_iload_n 41 dX6_runs_40 rfl rfl ?_
        refine z_icmp_gt_f 44 84 dX6_runs_41 rfl (fun q => absurd ((nI_ltI (by omega) (by omega)).mp q) (by omega)) rfl ?_
        refine z_aload_n 45 dX6_runs_44 rfl rfl ?_
        refine y_getr 48 _ sh0 rfl fl_X6_16 dX6_runs_45 rfl ?_
        refine z_iconst 49 dX6_runs_48 vi1 rfl ?_
        refine y_cVv 52 _ (c_passDay (t := 1) bkm8 hds_sp (okQ_daysA okn k) (by decide)) (bk0 bkm8) cv_X6_191 ⟨by decide, by decide, rfl, rfl⟩ (Nat.le_of_ble_eq_true rfl) dX6_runs_49 rfl rfl ?_
        rw [sp_sp]
        refine z_iload_n 53 dX6_runs_52 rfl rfl ?_
        refine z_bipush 55 dX6_runs_53 vbm4 rfl ?_
        refine z_icmp_ne 78 58 dX6_runs_55 rfl rfl (fun h55 => ?_) (fun h55 => ?_)
        · skip
          rw [if_neg (fun q => h55 q.1)] at efs
          refine z_iinc 81 [_, _, _, _, _] dX6_runs_78 rfl (show _ + _ = nI (_ + 1) from nI_1 _) (by decide) rfl rfl rfl ?_
          refine z_goto 38 dX6_runs_81 rfl ?_
          rw [efs] at ih
          exact ih
        · skip
          refine z_aload_n 59 dX6_runs_58 rfl rfl ?_
          refine y_getr 62 _ sh0 rfl fl_X6_16 dX6_runs_59 rfl ?_
          refine p_get 65 bkm8 rfl fl_X6_112 dX6_runs_62 rfl ?_
          refine z_aload_n 66 dX6_runs_65 rfl rfl ?_
          refine y_getr 69 _ sh0 rfl fl_X6_10 dX6_runs_66 rfl ?_
          refine k_get 72 bkm1 hc8 rfl (by decide) fl_X6_112 dX6_runs_69 rfl ?_
          refine z_icmp_le 78 75 dX6_runs_72 rfl rfl (fun h72 => ?_) (fun h72 => ?_)
          · skip
            rw [if_neg (fun q => absurd ((nI_leI (by omega) (by omega)).mp h72) (by omega))] at efs
            refine z_iinc 81 [_, _, _, _, _] dX6_runs_78 rfl (show _ + _ = nI (_ + 1) from nI_1 _) (by decide) rfl rfl rfl ?_
            refine z_goto 38 dX6_runs_81 rfl ?_
            rw [efs] at ih
            exact ih
          · skip
            rw [if_pos ⟨h55, by rcases Nat.lt_or_ge (N 54) (dayA (daysA (nrm N) k) 1 54) with q | q; exact q; exact absurd (nI_le q (by omega)) h72⟩] at efs
            refine z_iload 77 dX6_runs_75 rfl rfl ?_
            refine z_istore_n 78 [_, _, _, _, _] dX6_runs_77 (by decide) rfl rfl rfl ?_
            refine z_iinc 81 [_, _, _, _, _] dX6_runs_78 rfl (show _ + _ = nI (_ + 1) from nI_1 _) (by decide) rfl rfl rfl ?_
            refine z_goto 38 dX6_runs_81 rfl ?_
            rw [efs] at ih
            exact ih
    · have no := no (fun h => hw h.2)
      refine z_iload_n 1 dX6_runs_0 rfl rfl ?_
      refine z_iconst 2 dX6_runs_1 vi0 rfl ?_
      refine z_bipush 4 dX6_runs_2 vb60 rfl ?_
      refine y_cSs 7 (c_within) cs_X6_73 ⟨by decide, by decide, rfl, rfl⟩ (Nat.le_of_ble_eq_true rfl) dX6_runs_4 rfl rfl ?_
      rw [bn]
      refine z_if_eq_f 10 19 dX6_runs_7 rfl (by rw [bi_t hn]; decide) rfl ?_
      refine z_iload_n 11 dX6_runs_10 rfl rfl ?_
      refine z_iconst 12 dX6_runs_11 vi0 rfl ?_
      refine z_iconst 13 dX6_runs_12 vi3 rfl ?_
      refine y_cSs 16 (c_within) cs_X6_73 ⟨by decide, by decide, rfl, rfl⟩ (Nat.le_of_ble_eq_true rfl) dX6_runs_13 rfl rfl ?_
      rw [bw]
      refine z_if_ne_f 19 21 dX6_runs_16 rfl (bi_f hw) rfl ?_
      refine z_iconst 20 dX6_runs_19 vim1 rfl ?_
      refine z_iret hq rfl dX6_runs_20 rfl rfl ?_
      exact ⟨_, no, rfl⟩
  · have no := no (fun h => hn h.1)
    refine z_iload_n 1 dX6_runs_0 rfl rfl ?_
    refine z_iconst 2 dX6_runs_1 vi0 rfl ?_
    refine z_bipush 4 dX6_runs_2 vb60 rfl ?_
    refine y_cSs 7 (c_within) cs_X6_73 ⟨by decide, by decide, rfl, rfl⟩ (Nat.le_of_ble_eq_true rfl) dX6_runs_4 rfl rfl ?_
    rw [bn]
    refine z_if_eq_t 19 dX6_runs_7 rfl (bi_f hn) ?_
    refine z_iconst 20 dX6_runs_19 vim1 rfl ?_
    refine z_iret hq rfl dX6_runs_20 rfl rfl ?_
    exact ⟨_, no, rfl⟩
set_option maxRecDepth 100000 in
theorem r_runs {l : Launch} {G : zG} {σ : Nat → Int32} {N : Pg} {n w : Int32} (hc : hdk σ 0 N) (ok : okQ N) (hs : N 54 ≤ 1000000) : zMet l yX7_runs mX7_runs [.ref (zGa G 158), .int n, .int w] G (zW G σ) (zP G (pQ σ (vRuns N n w))) := by
  have bn : bi ((0 : Int64) ≤ n.toInt64 ∧ n.toInt64 ≤ 60) = bi (inR n 61) := bi_in7 (n := 60) (by decide)
  have bw : bi ((0 : Int64) ≤ w.toInt64 ∧ w.toInt64 ≤ 3) = bi (inR w 4) := bi_in7 (n := 3) (by decide)
  have no : ¬ (inR n 61 ∧ inR w 4) → pQ σ (vRuns N n w) (some (.int (-1))) σ := fun h => ⟨by rw [vRuns, if_neg h], same.rf⟩
  have okn := okQ_nrm ok
  have hdr_rsp : ∀ {τ : Nat → Int32} {R : Pg}, hdr (rsp τ 220 R) 220 R := hdr_rsp' (by decide)
  refine zMet.of (by decide) rfl (Nat.le_of_ble_eq_true rfl) (Or.inr rfl) fun X hX hq => ?_
  subst hX
  show Y G X mX7_runs σ 0 [some (.ref (zGa G 158)), some (.int n), some (.int w), none] []
  by_cases hn : inR n 61
  · by_cases hw : inR w 4
    · obtain ⟨n', hn', rfl⟩ := inR_of hn (by decide)
      obtain ⟨w', hw', rfl⟩ := inR_of hw (by decide)
      have val : vRuns N (nI n') (nI w') = runV N n' w' := by rw [vRuns, if_pos ⟨hn, hw⟩, nN_nI (by omega), nN_nI (by omega)]
      have cnt : daysA (nrm N) n' 56 = N 56 ∧ daysA (nrm N) n' 57 = N 57 := ⟨(daysA_56 okn n').1.trans (nrm_c (by decide)), (daysA_56 okn n').2.1.trans (nrm_c (by decide))⟩
      have fin : ∀ V x, V = runV N n' w' → zP G (pQ σ (vRuns N (nI n') (nI w'))) (some (.int V)) (zW G (rsp (upd σ (400 * 158 + 22) x) 220 (daysA (nrm N) n'))) := fun V x hV => ⟨_, ⟨by rw [val, hV], same_dg hc cnt.1 cnt.2⟩, rfl⟩
      refine z_iload_n 1 dX7_runs_0 rfl rfl ?_
      refine z_i2l 2 dX7_runs_1 rfl ?_
      refine z_lconst 3 dX7_runs_2 vl0 rfl ?_
      refine z_ldc2 6 kc_X7_218 dX7_runs_3 rfl ?_
      refine y_cSs 9 (c_in) cs_X7_55 ⟨by decide, by decide, rfl, rfl⟩ (Nat.le_of_ble_eq_true rfl) dX7_runs_6 rfl rfl ?_
      rw [bn]
      refine z_if_eq_f 12 24 dX7_runs_9 rfl (by rw [bi_t hn]; decide) rfl ?_
      refine z_iload_n 13 dX7_runs_12 rfl rfl ?_
      refine z_i2l 14 dX7_runs_13 rfl ?_
      refine z_lconst 15 dX7_runs_14 vl0 rfl ?_
      refine z_ldc2 18 kc_X7_220 dX7_runs_15 rfl ?_
      refine y_cSs 21 (c_in) cs_X7_55 ⟨by decide, by decide, rfl, rfl⟩ (Nat.le_of_ble_eq_true rfl) dX7_runs_18 rfl rfl ?_
      rw [bw]
      refine z_if_ne_t 26 dX7_runs_21 rfl (by rw [bi_t hw]; decide) ?_
      refine z_aload_n 27 dX7_runs_26 rfl rfl ?_
      refine z_iconst 28 dX7_runs_27 vi0 rfl ?_
      refine z_iload_n 29 dX7_runs_28 rfl rfl ?_
      refine y_cVs 32 _ (c_daysGo (o := 0) hc (by decide) ok (by omega) hs) sh158 cv_X7_222 ⟨by decide, by decide, rfl, rfl⟩ (Nat.le_of_ble_eq_true rfl) dX7_runs_29 rfl rfl ?_
      refine z_istore_n 33 [_, _, _, _] dX7_runs_32 (by decide) rfl rfl rfl ?_
      refine z_iload_n 34 dX7_runs_33 rfl rfl ?_
      refine z_if_ne 47 37 dX7_runs_34 rfl rfl (fun h34 => ?_) (fun h34 => ?_)
      · skip
        have n0 : w' ≠ 0 := fun e => h34 (by rw [e]; rfl)
        refine z_iload_n 48 dX7_runs_47 rfl rfl ?_
        refine z_iconst 49 dX7_runs_48 vi1 rfl ?_
        refine z_icmp_ne 56 52 dX7_runs_49 rfl rfl (fun h49 => ?_) (fun h49 => ?_)
        · skip
          have n1 : w' ≠ 1 := fun e => h49 (by rw [e]; rfl)
          refine z_iload_n 57 dX7_runs_56 rfl rfl ?_
          refine z_iconst 58 dX7_runs_57 vi2 rfl ?_
          refine z_icmp_ne 68 61 dX7_runs_58 rfl rfl (fun h58 => ?_) (fun h58 => ?_)
          · skip
            have e : w' = 3 := by
                have n2 : w' ≠ 2 := fun e => h58 (by rw [e]; rfl)
                omega
            refine z_aload_n 69 dX7_runs_68 rfl rfl ?_
            refine y_get 72 _ sh158 rfl fl_X7_215 dX7_runs_69 rfl ?_
            rw [fs_at]
            refine z_iret hq rfl dX7_runs_72 rfl rfl ?_
            exact fin _ _ (by rw [e]; rfl)
          · skip
            have e : w' = 2 := nI_eqL (b := 2) (by omega) (by decide) h58
            refine z_aload_n 62 dX7_runs_61 rfl rfl ?_
            refine m_get 65 hdr_rsp rfl (by decide) fl_X7_160 dX7_runs_62 rfl ?_
            refine z_goto 72 dX7_runs_65 rfl ?_
            refine z_iret hq rfl dX7_runs_72 rfl rfl ?_
            exact fin _ _ (by rw [e]; rfl)
        · skip
          have e : w' = 1 := nI_eqL (b := 1) (by omega) (by decide) h49
          refine z_iload_n 53 dX7_runs_52 rfl rfl ?_
          refine z_goto 72 dX7_runs_53 rfl ?_
          refine z_iret hq rfl dX7_runs_72 rfl rfl ?_
          exact fin _ _ (by rw [e]; rfl)
      · skip
        have e : w' = 0 := nI_eqL (b := 0) (by omega) (by decide) h34
        refine z_aload_n 38 dX7_runs_37 rfl rfl ?_
        refine z_sipush 41 dX7_runs_38 vs220 rfl ?_
        refine y_cVs 44 _ (c_heldByAll7 (o := 220) hdr_rsp (by decide) (okQ_daysA okn n').nc (okQ_daysA okn n').np) sh158 cv_X7_173 ⟨by decide, by decide, rfl, rfl⟩ (Nat.le_of_ble_eq_true rfl) dX7_runs_41 rfl rfl ?_
        refine z_goto 72 dX7_runs_44 rfl ?_
        refine z_iret hq rfl dX7_runs_72 rfl rfl ?_
        exact fin _ _ (by rw [e]; rfl)
    · have no := no (fun h => hw h.2)
      refine z_iload_n 1 dX7_runs_0 rfl rfl ?_
      refine z_i2l 2 dX7_runs_1 rfl ?_
      refine z_lconst 3 dX7_runs_2 vl0 rfl ?_
      refine z_ldc2 6 kc_X7_218 dX7_runs_3 rfl ?_
      refine y_cSs 9 (c_in) cs_X7_55 ⟨by decide, by decide, rfl, rfl⟩ (Nat.le_of_ble_eq_true rfl) dX7_runs_6 rfl rfl ?_
      rw [bn]
      refine z_if_eq_f 12 24 dX7_runs_9 rfl (by rw [bi_t hn]; decide) rfl ?_
      refine z_iload_n 13 dX7_runs_12 rfl rfl ?_
      refine z_i2l 14 dX7_runs_13 rfl ?_
      refine z_lconst 15 dX7_runs_14 vl0 rfl ?_
      refine z_ldc2 18 kc_X7_220 dX7_runs_15 rfl ?_
      refine y_cSs 21 (c_in) cs_X7_55 ⟨by decide, by decide, rfl, rfl⟩ (Nat.le_of_ble_eq_true rfl) dX7_runs_18 rfl rfl ?_
      rw [bw]
      refine z_if_ne_f 24 26 dX7_runs_21 rfl (bi_f hw) rfl ?_
      refine z_iconst 25 dX7_runs_24 vim1 rfl ?_
      refine z_iret hq rfl dX7_runs_25 rfl rfl ?_
      exact ⟨_, no, rfl⟩
  · have no := no (fun h => hn h.1)
    refine z_iload_n 1 dX7_runs_0 rfl rfl ?_
    refine z_i2l 2 dX7_runs_1 rfl ?_
    refine z_lconst 3 dX7_runs_2 vl0 rfl ?_
    refine z_ldc2 6 kc_X7_218 dX7_runs_3 rfl ?_
    refine y_cSs 9 (c_in) cs_X7_55 ⟨by decide, by decide, rfl, rfl⟩ (Nat.le_of_ble_eq_true rfl) dX7_runs_6 rfl rfl ?_
    rw [bn]
    refine z_if_eq_t 24 dX7_runs_9 rfl (bi_f hn) ?_
    refine z_iconst 25 dX7_runs_24 vim1 rfl ?_
    refine z_iret hq rfl dX7_runs_25 rfl rfl ?_
    exact ⟨_, no, rfl⟩

