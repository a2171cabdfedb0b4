theorem nI_min {a b : Nat} (ha : a < 2 ^ 31) (hb : b < 2 ^ 31) : (if nI b < nI a then nI b else nI a) = nI (min a b) := by
  by_cases h : b < a
  · rw [if_pos (nI_lt h ha), Nat.min_eq_right (by omega)]
  · rw [if_neg (nI_nlt (by omega) hb), Nat.min_eq_left (by omega)]
theorem hMx_cg {τ τ' : Nat → Int32} {m h far : Nat} {s : Mx} (hM : hMx τ m h far s) (hm : m ≤ 5) (e : ∀ a, ((15600 ≤ a ∧ a < 15606) ∨ (16000 ≤ a ∧ a < 16005)) → τ' a = τ a) : hMx τ' m h far s := by
  obtain ⟨m1, m2, m3, m4, m5, m6, m7⟩ := hM
  exact ⟨(e _ (by omega)).trans m1, fun q c hc => (e _ (by omega)).trans (m2 q c hc), (e _ (by omega)).trans m3, (e _ (by omega)).trans m4, (e _ (by omega)).trans m5, m6, m7⟩
def offM (τ' τ : Nat → Int32) : Prop := ∀ a, (a < 15600 ∨ (15602 ≤ a ∧ a < 16000) ∨ (16005 ≤ a ∧ a < 16400) ∨ 16405 ≤ a) → τ' a = τ a
theorem offM.rf {τ : Nat → Int32} : offM τ τ := fun _ _ => rfl
theorem offM.tr {τ τ' τ'' : Nat → Int32} (h : offM τ'' τ') (h2 : offM τ' τ) : offM τ'' τ := fun a ha => (h a ha).trans (h2 a ha)
theorem offM.c {τ τ' : Nat → Int32} {N : Pg} (h : offM τ' τ) (hc : hdc τ 1 N) : hdc τ' 1 N := fun i hi => (h _ (by omega)).trans (hc i hi)
theorem offM_same {σ τ τ' : Nat → Int32} (h : offM τ' τ) (hs : same τ σ) : same τ' σ := fun a ha => by
  have : ¬ (15600 ≤ a ∧ a < 42800) := fun q => by
    have : scr a = true := by simp only [scr, Bool.or_eq_true, Bool.and_eq_true, decide_eq_true_eq, beq_iff_eq]; omega
    rw [this] at ha; cases ha
  exact (h a (by omega)).trans (hs a ha)
set_option maxRecDepth 100000 in
set_option maxHeartbeats 4000000 in
theorem c_pickFrom {l : Launch} {G : zG} {N : Pg} {h far : Nat} (ok : okQ N) (hh : h < 1000) (hfar : far ≤ 27) : ∀ (k c left : Nat) (d : Nat → Nat) (τ : Nat → Int32) (s : Mx), c + k = N 56 → left ≤ 6 → hdc τ 1 N → hMx τ (N 56) h far s → (∀ i, i < c → τ (400 * 41 + 0 + i) = nI (d i)) → (∀ i, i < c → d i ≤ 6) → zMet l yX2_pickFrom (mX2_pickFrom (10 + k)) [.ref (zGa G 39), .ref (zGa G 1), .int (nI c), .int (nI left)] G (zW G τ) (zP G (fun v τ' => v = none ∧ hMx τ' (N 56) h far (pkA (mxF N h far) (fun c => N (20 + c)) k c left d s) ∧ (∀ i, i < c → τ' (400 * 41 + 0 + i) = nI (d i)) ∧ offM τ' τ)) := by
  have b5 := ok.nc
  intro k
  induction k with
  | zero =>
    intro c left d τ s hck h6 hc hM hp hd
    obtain rfl : c = N 56 := by omega
    refine zMet.of (by decide) rfl (Nat.le_of_ble_eq_true rfl) (Or.inr rfl) fun X hX hq => ?_
    subst hX
    show Y G X (mX2_pickFrom (10 + 0)) τ 0 [some (.ref (zGa G 39)), some (.ref (zGa G 1)), some (.int (nI (N 56))), some (.int (nI left)), none, none] []
    refine z_iload_n 1 dX2_pickFrom_0 rfl rfl ?_
    refine z_aload_n 2 dX2_pickFrom_1 rfl rfl ?_
    refine k_get 5 bkm1 hc rfl (by decide) fl_X2_35 dX2_pickFrom_2 rfl ?_
    refine z_icmp_ge_t 13 dX2_pickFrom_5 rfl (Int32.le_refl _) ?_
    refine z_iload_n 14 dX2_pickFrom_13 rfl rfl ?_
    refine z_if_ne 22 17 dX2_pickFrom_14 rfl rfl (fun h14 => ?_) (fun h14 => ?_)
    · skip
      have n0 : left ≠ 0 := fun q => h14 (by rw [q]; rfl)
      refine z_vret hq rfl dX2_pickFrom_22 rfl rfl ?_
      exact ⟨_, ⟨rfl, by rw [pkA, if_neg n0]; exact hM, hp, offM.rf⟩, rfl⟩
    · skip
      have n0 : left = 0 := nI_eqL (b := 0) (by omega) (by decide) h14
      refine z_aload_n 18 dX2_pickFrom_17 rfl rfl ?_
      refine z_aload_n 19 dX2_pickFrom_18 rfl rfl ?_
      refine y_cVP 22 _ (c_weigh hc ok hh hfar hM hp hd) sh39 cv_X2_40 ⟨by decide, by decide, rfl, rfl⟩ (Nat.le_of_ble_eq_true rfl) dX2_pickFrom_19 rfl rfl (fun v19 σ19 hp19 => ?_)
      obtain ⟨rfl, w1, w2⟩ := hp19
      show Y G X (mX2_pickFrom (10 + 0)) _ 22 _ []
      refine z_vret hq rfl dX2_pickFrom_22 rfl rfl ?_
      exact ⟨_, ⟨rfl, by rw [pkA, if_pos n0]; exact w1, fun i hi => (w2 _ (by omega)).trans (hp i hi), fun a ha => w2 a (by omega)⟩, rfl⟩
  | succ k ihk =>
    intro c left d τ s hck h6 hc hM hp hd
    have c5 : c < 5 := by omega
    have bv := ok.vt c5
    have em := nI_min (a := left) (b := N (20 + c)) (by omega) (by omega)
    refine zMet.of (by decide) rfl (Nat.le_of_ble_eq_true rfl) (Or.inr rfl) fun X hX hq => ?_
    subst hX
    show Y G X (mX2_pickFrom (10 + (k + 1))) τ 0 [some (.ref (zGa G 39)), some (.ref (zGa G 1)), some (.int (nI c)), some (.int (nI left)), none, none] []
    have e0 : pkA (mxF N h far) (fun c => N (20 + c)) (k + 1) c left d s = itr (fun n s => pkA (mxF N h far) (fun c => N (20 + c)) k (c + 1) (left - n) (un d c n) s) (min left (N (20 + c)) + 1) s := rfl
    rw [e0] at hq
    generalize hg : (fun (n : Nat) (s : Mx) => pkA (mxF N h far) (fun c => N (20 + c)) k (c + 1) (left - n) (un d c n) s) = g at hq
    generalize hmin : min left (N (20 + c)) = most at em hq
    refine z_iload_n 1 dX2_pickFrom_0 rfl rfl ?_
    refine z_aload_n 2 dX2_pickFrom_1 rfl rfl ?_
    refine k_get 5 bkm1 hc rfl (by decide) fl_X2_35 dX2_pickFrom_2 rfl ?_
    refine z_icmp_ge_f 8 13 dX2_pickFrom_5 rfl (nI_ge (by omega) (by omega)) rfl ?_
    refine z_iload_n 9 dX2_pickFrom_8 rfl rfl ?_
    refine z_iconst 10 dX2_pickFrom_9 vi5 rfl ?_
    refine z_icmp_lt_t 23 dX2_pickFrom_10 rfl (nI_lt (b := 5) c5 (by decide)) ?_
    refine z_iload_n 24 dX2_pickFrom_23 rfl rfl ?_
    refine z_aload_n 25 dX2_pickFrom_24 rfl rfl ?_
    refine y_getr 28 _ (bk0 bkm1) rfl fl_X2_44 dX2_pickFrom_25 rfl ?_
    refine z_iload_n 29 dX2_pickFrom_28 rfl rfl ?_
    refine k_ld 30 _ hc (bk3 bkm1) rfl (by omega) (by decide) dX2_pickFrom_29 rfl ?_
    refine y_mn 33 kl_X2_47 (by show 1 ≤ 10 + (k + 1); omega) (Nat.le_of_ble_eq_true rfl) dX2_pickFrom_30 rfl ?_
    rw [em]
    refine z_istore 35 [_, _, _, _, _, _] dX2_pickFrom_33 (Nat.le_of_ble_eq_true rfl) rfl rfl rfl ?_
    refine z_iconst 36 dX2_pickFrom_35 vi0 rfl ?_
    refine z_istore 38 [_, _, _, _, _, _] dX2_pickFrom_36 (Nat.le_of_ble_eq_true rfl) rfl rfl rfl ?_
    refine zup (P := fun i => ∀ τ1, hMx τ1 (N 56) h far (itr g i s) → (∀ i, i < c → τ1 (400 * 41 + 0 + i) = nI (d i)) → offM τ1 τ → Y G X (mX2_pickFrom (10 + (k + 1))) τ1 38 [some (.ref (zGa G 39)), some (.ref (zGa G 1)), some (.int (nI c)), some (.int (nI left)), some (.int (nI most)), some (.int (nI i))] []) (most + 1) ?_ (fun i hi ih => ?_) 0 (Nat.zero_le _) τ hM hp offM.rf
    · intro τ1 hM1 hp1 ho1
      refine z_iload 40 dX2_pickFrom_38 rfl rfl ?_
      refine z_iload 42 dX2_pickFrom_40 rfl rfl ?_
      refine z_icmp_gt_t 71 dX2_pickFrom_42 rfl (nI_lt (by omega) (by omega)) ?_
      refine z_vret hq rfl dX2_pickFrom_71 rfl rfl ?_
      exact ⟨_, ⟨rfl, hM1, hp1, ho1⟩, rfl⟩
    · intro τ1 hM1 hp1 ho1
      have hc1 := ho1.c hc
      have hcu : hdc (upd τ1 (400 * 41 + 0 + c) (nI i)) 1 N := fun j hj => (pk_un (by omega)).trans (hc1 j hj)
      have hMu : hMx (upd τ1 (400 * 41 + 0 + c) (nI i)) (N 56) h far (itr g i s) := hMx_cg hM1 b5 (fun a ha => pk_un (by omega))
      have hpu : ∀ j, j < c + 1 → upd τ1 (400 * 41 + 0 + c) (nI i) (400 * 41 + 0 + j) = nI (un d c i j) := fun j hj => by
        by_cases q : j = c
        · subst q; rw [pk_us, un_s]
        · rw [pk_un (by omega), un_n q]; exact hp1 j (by omega)
      have hdu : ∀ j, j < c + 1 → un d c i j ≤ 6 := fun j hj => by
        by_cases q : j = c
        · subst q; rw [un_s]; omega
        · rw [un_n q]; exact hd j (by omega)
      have es : itr g (i + 1) s = pkA (mxF N h far) (fun c => N (20 + c)) k (c + 1) (left - i) (un d c i) (itr g i s) := by rw [itr, ← hg]
      refine z_iload 40 dX2_pickFrom_38 rfl rfl ?_
      refine z_iload 42 dX2_pickFrom_40 rfl rfl ?_
      refine z_icmp_gt_f 45 71 dX2_pickFrom_42 rfl (nI_nlt (a := most) (b := i) (by omega) (by omega)) rfl ?_
      refine z_aload_n 46 dX2_pickFrom_45 rfl rfl ?_
      refine y_getr 49 _ sh39 rfl fl_X2_15 dX2_pickFrom_46 rfl ?_
      refine z_iload_n 50 dX2_pickFrom_49 rfl rfl ?_
      refine z_iload 52 dX2_pickFrom_50 rfl rfl ?_
      refine y_st 53 _ c sh41 rfl (by omega) (by omega) dX2_pickFrom_52 rfl ?_
      refine z_aload_n 54 dX2_pickFrom_53 rfl rfl ?_
      refine z_aload_n 55 dX2_pickFrom_54 rfl rfl ?_
      refine z_iload_n 56 dX2_pickFrom_55 rfl rfl ?_
      refine z_iconst 57 dX2_pickFrom_56 vi1 rfl ?_
      refine z_iaddN 58 rfl (show (1 : Int32) = nI 1 from rfl) dX2_pickFrom_57 rfl ?_
      refine z_iload_n 59 dX2_pickFrom_58 rfl rfl ?_
      refine z_iload 61 dX2_pickFrom_59 rfl rfl ?_
      refine z_isubN 62 rfl rfl (show i ≤ left by omega) dX2_pickFrom_61 rfl ?_
      refine y_cVP 65 _ (ihk (c + 1) (left - i) (un d c i) _ _ (by omega) (by omega) hcu hMu hpu hdu) sh39 (cv_X2_31 (10 + k)) ⟨Nat.le_refl _, Nat.le_of_ble_eq_true rfl, rfl, rfl⟩ (Nat.le_of_ble_eq_true rfl) dX2_pickFrom_62 rfl rfl (fun v62 σ62 hp62 => ?_)
      obtain ⟨rfl, w1, w2, w3⟩ := hp62
      rw [← es] at w1
      show Y G X (mX2_pickFrom (10 + (k + 1))) _ 65 _ []
      refine z_iinc 68 [_, _, _, _, _, _] dX2_pickFrom_65 rfl (show _ + _ = nI (_ + 1) from nI_1 _) (Nat.le_of_ble_eq_true rfl) rfl rfl rfl ?_
      refine z_goto 38 dX2_pickFrom_68 rfl ?_
      exact ih _ w1 (fun j hj => (w2 j (by omega)).trans (by rw [un_n (by omega)])) (w3.tr (fun a ha => (pk_un (by omega)).trans (ho1 a ha)))
set_option maxRecDepth 100000 in
theorem c_tryAll {l : Launch} {G : zG} {σ : Nat → Int32} {N : Pg} {h n far : Nat} (hc : hdc σ 1 N) (ok : okQ N) (hh : h < 1000) (hn : n ≤ 6) (hfar : far ≤ 27) : zMet l yX2_tryAll mX2_tryAll [.ref (zGa G 39), .ref (zGa G 1), .int (nI h), .int (nI n), .int (nI far)] G (zW G σ) (zP G (fun v τ => v = none ∧ hMx τ (N 56) h far (mxR N h n far) ∧ same τ σ)) := by
  have b5 := ok.nc
  refine zMet.of (by decide) rfl (Nat.le_of_ble_eq_true rfl) (Or.inr rfl) fun X hX hq => ?_
  subst hX
  show Y G X mX2_tryAll σ 0 [some (.ref (zGa G 39)), some (.ref (zGa G 1)), some (.int (nI h)), some (.int (nI n)), some (.int (nI far))] []
  refine z_aload_n 1 dX2_tryAll_0 rfl rfl ?_
  refine z_iload_n 2 dX2_tryAll_1 rfl rfl ?_
  refine y_putI 5 _ sh39 rfl fp_X2_18 dX2_tryAll_2 rfl ?_
  refine z_aload_n 6 dX2_tryAll_5 rfl rfl ?_
  refine z_iload 8 dX2_tryAll_6 rfl rfl ?_
  refine y_putI 11 _ sh39 rfl fp_X2_22 dX2_tryAll_8 rfl ?_
  refine z_aload_n 12 dX2_tryAll_11 rfl rfl ?_
  refine z_bipush 14 dX2_tryAll_12 vb28 rfl ?_
  refine y_putI 17 _ sh39 rfl fp_X2_25 dX2_tryAll_14 rfl ?_
  refine z_aload_n 18 dX2_tryAll_17 rfl rfl ?_
  refine z_bipush 20 dX2_tryAll_18 vbm4 rfl ?_
  refine y_putI 23 _ sh39 rfl fp_X2_28 dX2_tryAll_20 rfl ?_
  skip
  generalize hτ : upd (upd (upd (upd σ (400 * 39 + 4) (nI h)) (400 * 39 + 5) (nI far)) (400 * 39 + 0) 28) (400 * 39 + 1) (-4) = τ
  have ho : ∀ a, (a < 15600 ∨ 15606 ≤ a) → τ a = σ a := fun a ha => by
    rw [← hτ, pk_un (by omega), pk_un (by omega), pk_un (by omega), pk_un (by omega)]
  have hM : hMx τ (N 56) h far mx0 := by
    refine ⟨?_, fun q => absurd q (by decide), ?_, ?_, ?_, by decide, by decide⟩
    · rw [← hτ, pk_un (by omega), pk_us]; rfl
    · rw [← hτ, pk_us]; rfl
    · rw [← hτ, pk_un (by omega), pk_un (by omega), pk_un (by omega), pk_us]
    · rw [← hτ, pk_un (by omega), pk_un (by omega), pk_us]
  have hc' : hdc τ 1 N := fun i hi => (ho _ (by omega)).trans (hc i hi)
  have sm : same τ σ := fun a ha => by
    have : ¬ (15600 ≤ a ∧ a < 42800) := fun q => by
      have : scr a = true := by simp only [scr, Bool.or_eq_true, Bool.and_eq_true, decide_eq_true_eq, beq_iff_eq]; omega
      rw [this] at ha; cases ha
    exact ho a (by omega)
  refine z_aload_n 24 dX2_tryAll_23 rfl rfl ?_
  refine z_aload_n 25 dX2_tryAll_24 rfl rfl ?_
  refine z_iconst 26 dX2_tryAll_25 vi0 rfl ?_
  refine z_iload_n 27 dX2_tryAll_26 rfl rfl ?_
  refine y_cVP 30 _ (c_pickFrom ok hh hfar (N 56) 0 n (fun _ => 0) _ _ (by omega) hn hc' hM (fun i hi => by omega) (fun i hi => by omega)) sh39 (cv_X2_31 (10 + N 56)) ⟨by show 10 + N 56 + 1 ≤ 21; omega, Nat.le_of_ble_eq_true rfl, rfl, rfl⟩ (Nat.le_of_ble_eq_true rfl) dX2_tryAll_27 rfl rfl (fun v27 σ27 hp27 => ?_)
  obtain ⟨rfl, w1, w2, w3⟩ := hp27
  show Y G X mX2_tryAll _ 30 _ []
  refine z_vret hq rfl dX2_tryAll_30 rfl rfl ?_
  exact ⟨_, ⟨rfl, w1, offM_same w3 sm⟩, rfl⟩
abbrev okMix (N : Pg) (h n w : Int32) : Prop := inR h 1000 ∧ ((1 : Int32) ≤ n ∧ n ≤ 6) ∧ inR w (N 56 + 1)
def mixV (r : Mx) (w : Nat) : Int32 := if r.1 = 28 then -4 else if w = 0 then nI r.1 else nI (r.2.1 (w - 1))
def vMix (N : Pg) (h n w : Int32) : Int32 := if okMix N h n w then mixV (mxR N (nN h) (nN n) 27) (nN w) else -1
abbrev okCheap (h d n : Int32) : Prop := inR h 1000 ∧ inR d 28 ∧ ((1 : Int32) ≤ n ∧ n ≤ 6)
def vCheap (N : Pg) (h d n : Int32) : Int32 := if okCheap h d n then (if (mxR N (nN h) (nN n) (nN d)).2.2 = 1000 then -4 else nI (mxR N (nN h) (nN n) (nN d)).2.2) else -1
theorem le_nI6 {n : Int32} (h : (1 : Int32) ≤ n ∧ n ≤ 6) : ∃ j, 1 ≤ j ∧ j ≤ 6 ∧ n = nI j := by
  obtain ⟨h1, h2⟩ := h
  rw [Int32.le_iff_toInt_le] at h1 h2
  have e1 : (1 : Int32).toInt = 1 := by decide
  have e2 : (6 : Int32).toInt = 6 := by decide
  obtain ⟨j, hj, e⟩ := inR_of (x := n) (n := 7) ⟨by omega, by omega⟩ (by decide)
  refine ⟨j, ?_, by omega, e⟩
  rw [e, nI_toInt (by omega)] at h1
  omega
set_option maxRecDepth 100000 in
theorem x_mix {l : Launch} {G : zG} {σ : Nat → Int32} {N : Pg} {h n w : Int32} (hc : hdc σ 1 N) (ok : okQ N) : zMet l yX6_mix mX6_mix [.ref (zGa G 0), .int h, .int n, .int w] G (zW G σ) (zP G (pQ σ (vMix N h n w))) := by
  have b5 := ok.nc
  have bw : bi ((0 : Int32) ≤ w ∧ w ≤ nI (N 56)) = bi (inR w (N 56 + 1)) := bi_cg (le_inR (by omega))
  have no : ¬ okMix N h n w → pQ σ (vMix N h n w) (some (.int (-1))) σ := fun h => ⟨by rw [vMix, if_neg h], same.rf⟩
  refine zMet.of (by decide) rfl (Nat.le_of_ble_eq_true rfl) (Or.inr rfl) fun X hX hq => ?_
  subst hX
  show Y G X mX6_mix σ 0 [some (.ref (zGa G 0)), some (.int h), some (.int n), some (.int w)] []
  by_cases h1 : inR h 1000
  · by_cases h2 : (1 : Int32) ≤ n ∧ n ≤ 6
    · by_cases h3 : inR w (N 56 + 1)
      · obtain ⟨h', hh', rfl⟩ := inR_of h1 (by decide)
        obtain ⟨n', hn1, hn2, rfl⟩ := le_nI6 h2
        obtain ⟨w', hw', rfl⟩ := inR_of h3 (by omega)
        have val : vMix N (nI h') (nI n') (nI w') = mixV (mxR N h' n' 27) w' := by rw [vMix, if_pos ⟨h1, h2, h3⟩, nN_nI (by omega), nN_nI (by omega), nN_nI (by omega)]
        generalize hr : mxR N h' n' 27 = r at val
        refine z_iload_n 1 dX6_mix_0 rfl rfl ?_
        refine y_cSs 4 (c_isHue) cs_X6_163 ⟨by decide, by decide, rfl, rfl⟩ (Nat.le_of_ble_eq_true rfl) dX6_mix_1 rfl rfl ?_
        refine z_if_eq_f 7 32 dX6_mix_4 rfl (by rw [bi_t h1]; decide) rfl ?_
        refine z_iload_n 8 dX6_mix_7 rfl rfl ?_
        refine z_iconst 9 dX6_mix_8 vi1 rfl ?_
        refine z_bipush 11 dX6_mix_9 vb6 rfl ?_
        refine y_cSs 14 (c_within) cs_X6_73 ⟨by decide, by decide, rfl, rfl⟩ (Nat.le_of_ble_eq_true rfl) dX6_mix_11 rfl rfl ?_
        refine z_if_eq_f 17 32 dX6_mix_14 rfl (by rw [bi_t h2]; decide) rfl ?_
        refine z_iload_n 18 dX6_mix_17 rfl rfl ?_
        refine z_iconst 19 dX6_mix_18 vi0 rfl ?_
        refine z_aload_n 20 dX6_mix_19 rfl rfl ?_
        refine y_getr 23 _ sh0 rfl fl_X6_10 dX6_mix_20 rfl ?_
        refine k_get 26 bkm1 hc rfl (by decide) fl_X6_103 dX6_mix_23 rfl ?_
        refine y_cSs 29 (c_within) cs_X6_73 ⟨by decide, by decide, rfl, rfl⟩ (Nat.le_of_ble_eq_true rfl) dX6_mix_26 rfl rfl ?_
        rw [bw]
        refine z_if_ne_t 34 dX6_mix_29 rfl (by rw [bi_t h3]; decide) ?_
        refine z_aload_n 35 dX6_mix_34 rfl rfl ?_
        refine y_getr 38 _ sh0 rfl fl_X6_51 dX6_mix_35 rfl ?_
        refine z_aload_n 39 dX6_mix_38 rfl rfl ?_
        refine y_getr 42 _ sh0 rfl fl_X6_10 dX6_mix_39 rfl ?_
        refine z_iload_n 43 dX6_mix_42 rfl rfl ?_
        refine z_iload_n 44 dX6_mix_43 rfl rfl ?_
        refine z_bipush 46 dX6_mix_44 vb27 rfl ?_
        refine y_cVP 49 _ (c_tryAll (far := 27) hc ok hh' hn2 (by decide)) sh39 cv_X6_204 ⟨by decide, by decide, rfl, rfl⟩ (Nat.le_of_ble_eq_true rfl) dX6_mix_46 rfl rfl (fun v46 σ46 hp46 => ?_)
        obtain ⟨rfl, hM, hs⟩ := hp46
        rw [hr] at hM
        obtain ⟨m1, m2, m3, m4, m5, m6, m7⟩ := hM
        show Y G X mX6_mix _ 49 _ []
        refine z_aload_n 50 dX6_mix_49 rfl rfl ?_
        refine y_getr 53 _ sh0 rfl fl_X6_51 dX6_mix_50 rfl ?_
        refine y_get 56 _ sh39 rfl fl_X6_208 dX6_mix_53 rfl ?_
        rw [m1]
        refine z_bipush 58 dX6_mix_56 vb27 rfl ?_
        refine z_icmp_le 64 61 dX6_mix_58 rfl rfl (fun h58 => ?_) (fun h58 => ?_)
        · skip
          have l28 : r.1 ≤ 27 := (nI_leI (b := 27) (by omega) (by decide)).mp h58
          refine z_iload_n 65 dX6_mix_64 rfl rfl ?_
          refine z_if_ne 78 68 dX6_mix_65 rfl rfl (fun h65 => ?_) (fun h65 => ?_)
          · skip
            have w0 : w' ≠ 0 := fun q => h65 (by rw [q]; rfl)
            refine z_aload_n 79 dX6_mix_78 rfl rfl ?_
            refine y_getr 82 _ sh0 rfl fl_X6_51 dX6_mix_79 rfl ?_
            refine y_getr 85 _ sh39 rfl fl_X6_211 dX6_mix_82 rfl ?_
            refine z_iload_n 86 dX6_mix_85 rfl rfl ?_
            refine z_iconst 87 dX6_mix_86 vi1 rfl ?_
            refine z_isubN 88 rfl (show (1 : Int32) = nI 1 from rfl) (show 1 ≤ w' by omega) dX6_mix_87 rfl ?_
            refine y_ld 89 _ (w' - 1) sh40 rfl (by omega) (by omega) dX6_mix_88 rfl ?_
            refine z_iret hq rfl dX6_mix_89 rfl rfl ?_
            exact ⟨_, ⟨by rw [val, mixV, if_neg (by omega), if_neg w0, m2 (by omega) _ (by omega)], hs⟩, rfl⟩
          · skip
            have w0 : w' = 0 := nI_eqL (b := 0) (by omega) (by decide) h65
            refine z_aload_n 69 dX6_mix_68 rfl rfl ?_
            refine y_getr 72 _ sh0 rfl fl_X6_51 dX6_mix_69 rfl ?_
            refine y_get 75 _ sh39 rfl fl_X6_208 dX6_mix_72 rfl ?_
            rw [m1]
            refine z_goto 89 dX6_mix_75 rfl ?_
            refine z_iret hq rfl dX6_mix_89 rfl rfl ?_
            exact ⟨_, ⟨by rw [val, mixV, if_neg (by omega), if_pos w0], hs⟩, rfl⟩
        · skip
          have e28 : r.1 = 28 := by
              rcases Nat.lt_or_ge r.1 28 with q | q
              · exact absurd (nI_le (b := 27) (by omega) (by decide)) h58
              · omega
          refine z_bipush 63 dX6_mix_61 vbm4 rfl ?_
          refine z_iret hq rfl dX6_mix_63 rfl rfl ?_
          exact ⟨_, ⟨by rw [val, mixV, if_pos e28], hs⟩, rfl⟩
      · have no := no (fun q => h3 q.2.2)
        refine z_iload_n 1 dX6_mix_0 rfl rfl ?_
        refine y_cSs 4 (c_isHue) cs_X6_163 ⟨by decide, by decide, rfl, rfl⟩ (Nat.le_of_ble_eq_true rfl) dX6_mix_1 rfl rfl ?_
        refine z_if_eq_f 7 32 dX6_mix_4 rfl (by rw [bi_t h1]; decide) rfl ?_
        refine z_iload_n 8 dX6_mix_7 rfl rfl ?_
        refine z_iconst 9 dX6_mix_8 vi1 rfl ?_
        refine z_bipush 11 dX6_mix_9 vb6 rfl ?_
        refine y_cSs 14 (c_within) cs_X6_73 ⟨by decide, by decide, rfl, rfl⟩ (Nat.le_of_ble_eq_true rfl) dX6_mix_11 rfl rfl ?_
        refine z_if_eq_f 17 32 dX6_mix_14 rfl (by rw [bi_t h2]; decide) rfl ?_
        refine z_iload_n 18 dX6_mix_17 rfl rfl ?_
        refine z_iconst 19 dX6_mix_18 vi0 rfl ?_
        refine z_aload_n 20 dX6_mix_19 rfl rfl ?_
        refine y_getr 23 _ sh0 rfl fl_X6_10 dX6_mix_20 rfl ?_
        refine k_get 26 bkm1 hc rfl (by decide) fl_X6_103 dX6_mix_23 rfl ?_
        refine y_cSs 29 (c_within) cs_X6_73 ⟨by decide, by decide, rfl, rfl⟩ (Nat.le_of_ble_eq_true rfl) dX6_mix_26 rfl rfl ?_
        rw [bw]
        refine z_if_ne_f 32 34 dX6_mix_29 rfl (bi_f h3) rfl ?_
        refine z_iconst 33 dX6_mix_32 vim1 rfl ?_
        refine z_iret hq rfl dX6_mix_33 rfl rfl ?_
        exact ⟨_, no, rfl⟩
    · have no := no (fun q => h2 q.2.1)
      refine z_iload_n 1 dX6_mix_0 rfl rfl ?_
      refine y_cSs 4 (c_isHue) cs_X6_163 ⟨by decide, by decide, rfl, rfl⟩ (Nat.le_of_ble_eq_true rfl) dX6_mix_1 rfl rfl ?_
      refine z_if_eq_f 7 32 dX6_mix_4 rfl (by rw [bi_t h1]; decide) rfl ?_
      refine z_iload_n 8 dX6_mix_7 rfl rfl ?_
      refine z_iconst 9 dX6_mix_8 vi1 rfl ?_
      refine z_bipush 11 dX6_mix_9 vb6 rfl ?_
      refine y_cSs 14 (c_within) cs_X6_73 ⟨by decide, by decide, rfl, rfl⟩ (Nat.le_of_ble_eq_true rfl) dX6_mix_11 rfl rfl ?_
      refine z_if_eq_t 32 dX6_mix_14 rfl (bi_f h2) ?_
      refine z_iconst 33 dX6_mix_32 vim1 rfl ?_
      refine z_iret hq rfl dX6_mix_33 rfl rfl ?_
      exact ⟨_, no, rfl⟩
  · have no := no (fun q => h1 q.1)
    refine z_iload_n 1 dX6_mix_0 rfl rfl ?_
    refine y_cSs 4 (c_isHue) cs_X6_163 ⟨by decide, by decide, rfl, rfl⟩ (Nat.le_of_ble_eq_true rfl) dX6_mix_1 rfl rfl ?_
    refine z_if_eq_t 32 dX6_mix_4 rfl (bi_f h1) ?_
    refine z_iconst 33 dX6_mix_32 vim1 rfl ?_
    refine z_iret hq rfl dX6_mix_33 rfl rfl ?_
    exact ⟨_, no, rfl⟩
set_option maxRecDepth 100000 in
theorem x_cheap {l : Launch} {G : zG} {σ : Nat → Int32} {N : Pg} {h d n : Int32} (hc : hdc σ 1 N) (ok : okQ N) : zMet l yX6_cheap mX6_cheap [.ref (zGa G 0), .int h, .int d, .int n] G (zW G σ) (zP G (pQ σ (vCheap N h d n))) := by
  have b5 := ok.nc
  have bd : bi ((0 : Int32) ≤ d ∧ d ≤ 27) = bi (inR d 28) := bi_cg (le_inR (n := 27) (by decide))
  have no : ¬ okCheap h d n → pQ σ (vCheap N h d n) (some (.int (-1))) σ := fun h => ⟨by rw [vCheap, if_neg h], same.rf⟩
  refine zMet.of (by decide) rfl (Nat.le_of_ble_eq_true rfl) (Or.inr rfl) fun X hX hq => ?_
  subst hX
  show Y G X mX6_cheap σ 0 [some (.ref (zGa G 0)), some (.int h), some (.int d), some (.int n)] []
  by_cases h1 : inR h 1000
  · by_cases h2 : inR d 28
    · by_cases h3 : (1 : Int32) ≤ n ∧ n ≤ 6
      · obtain ⟨h', hh', rfl⟩ := inR_of h1 (by decide)
        obtain ⟨n', hn1, hn2, rfl⟩ := le_nI6 h3
        obtain ⟨d', hd', rfl⟩ := inR_of h2 (by decide)
        have val : vCheap N (nI h') (nI d') (nI n') = if (mxR N h' n' d').2.2 = 1000 then -4 else nI (mxR N h' n' d').2.2 := by rw [vCheap, if_pos ⟨h1, h2, h3⟩, nN_nI (by omega), nN_nI (by omega), nN_nI (by omega)]
        refine z_iload_n 1 dX6_cheap_0 rfl rfl ?_
        refine y_cSs 4 (c_isHue) cs_X6_163 ⟨by decide, by decide, rfl, rfl⟩ (Nat.le_of_ble_eq_true rfl) dX6_cheap_1 rfl rfl ?_
        refine z_if_eq_f 7 27 dX6_cheap_4 rfl (by rw [bi_t h1]; decide) rfl ?_
        refine z_iload_n 8 dX6_cheap_7 rfl rfl ?_
        refine z_iconst 9 dX6_cheap_8 vi0 rfl ?_
        refine z_bipush 11 dX6_cheap_9 vb27 rfl ?_
        refine y_cSs 14 (c_within) cs_X6_73 ⟨by decide, by decide, rfl, rfl⟩ (Nat.le_of_ble_eq_true rfl) dX6_cheap_11 rfl rfl ?_
        rw [bd]
        refine z_if_eq_f 17 27 dX6_cheap_14 rfl (by rw [bi_t h2]; decide) rfl ?_
        refine z_iload_n 18 dX6_cheap_17 rfl rfl ?_
        refine z_iconst 19 dX6_cheap_18 vi1 rfl ?_
        refine z_bipush 21 dX6_cheap_19 vb6 rfl ?_
        refine y_cSs 24 (c_within) cs_X6_73 ⟨by decide, by decide, rfl, rfl⟩ (Nat.le_of_ble_eq_true rfl) dX6_cheap_21 rfl rfl ?_
        refine z_if_ne_t 29 dX6_cheap_24 rfl (by rw [bi_t h3]; decide) ?_
        refine z_aload_n 30 dX6_cheap_29 rfl rfl ?_
        refine y_getr 33 _ sh0 rfl fl_X6_51 dX6_cheap_30 rfl ?_
        refine z_aload_n 34 dX6_cheap_33 rfl rfl ?_
        refine y_getr 37 _ sh0 rfl fl_X6_10 dX6_cheap_34 rfl ?_
        refine z_iload_n 38 dX6_cheap_37 rfl rfl ?_
        refine z_iload_n 39 dX6_cheap_38 rfl rfl ?_
        refine z_iload_n 40 dX6_cheap_39 rfl rfl ?_
        refine y_cVP 43 _ (c_tryAll hc ok hh' hn2 (by omega)) sh39 cv_X6_204 ⟨by decide, by decide, rfl, rfl⟩ (Nat.le_of_ble_eq_true rfl) dX6_cheap_40 rfl rfl (fun v40 σ40 hp40 => ?_)
        obtain ⟨rfl, hM, hs⟩ := hp40
        obtain ⟨m1, m2, m3, m4, m5, m6, m7⟩ := hM
        show Y G X mX6_cheap _ 43 _ []
        refine z_aload_n 44 dX6_cheap_43 rfl rfl ?_
        refine y_getr 47 _ sh0 rfl fl_X6_51 dX6_cheap_44 rfl ?_
        refine y_get 50 _ sh39 rfl fl_X6_214 dX6_cheap_47 rfl ?_
        rw [m3]
        refine z_iret hq rfl dX6_cheap_50 rfl rfl ?_
        exact ⟨_, ⟨by rw [val], hs⟩, rfl⟩
      · have no := no (fun q => h3 q.2.2)
        refine z_iload_n 1 dX6_cheap_0 rfl rfl ?_
        refine y_cSs 4 (c_isHue) cs_X6_163 ⟨by decide, by decide, rfl, rfl⟩ (Nat.le_of_ble_eq_true rfl) dX6_cheap_1 rfl rfl ?_
        refine z_if_eq_f 7 27 dX6_cheap_4 rfl (by rw [bi_t h1]; decide) rfl ?_
        refine z_iload_n 8 dX6_cheap_7 rfl rfl ?_
        refine z_iconst 9 dX6_cheap_8 vi0 rfl ?_
        refine z_bipush 11 dX6_cheap_9 vb27 rfl ?_
        refine y_cSs 14 (c_within) cs_X6_73 ⟨by decide, by decide, rfl, rfl⟩ (Nat.le_of_ble_eq_true rfl) dX6_cheap_11 rfl rfl ?_
        rw [bd]
        refine z_if_eq_f 17 27 dX6_cheap_14 rfl (by rw [bi_t h2]; decide) rfl ?_
        refine z_iload_n 18 dX6_cheap_17 rfl rfl ?_
        refine z_iconst 19 dX6_cheap_18 vi1 rfl ?_
        refine z_bipush 21 dX6_cheap_19 vb6 rfl ?_
        refine y_cSs 24 (c_within) cs_X6_73 ⟨by decide, by decide, rfl, rfl⟩ (Nat.le_of_ble_eq_true rfl) dX6_cheap_21 rfl rfl ?_
        refine z_if_ne_f 27 29 dX6_cheap_24 rfl (bi_f h3) rfl ?_
        refine z_iconst 28 dX6_cheap_27 vim1 rfl ?_
        refine z_iret hq rfl dX6_cheap_28 rfl rfl ?_
        exact ⟨_, no, rfl⟩
    · have no := no (fun q => h2 q.2.1)
      refine z_iload_n 1 dX6_cheap_0 rfl rfl ?_
      refine y_cSs 4 (c_isHue) cs_X6_163 ⟨by decide, by decide, rfl, rfl⟩ (Nat.le_of_ble_eq_true rfl) dX6_cheap_1 rfl rfl ?_
      refine z_if_eq_f 7 27 dX6_cheap_4 rfl (by rw [bi_t h1]; decide) rfl ?_
      refine z_iload_n 8 dX6_cheap_7 rfl rfl ?_
      refine z_iconst 9 dX6_cheap_8 vi0 rfl ?_
      refine z_bipush 11 dX6_cheap_9 vb27 rfl ?_
      refine y_cSs 14 (c_within) cs_X6_73 ⟨by decide, by decide, rfl, rfl⟩ (Nat.le_of_ble_eq_true rfl) dX6_cheap_11 rfl rfl ?_
      rw [bd]
      refine z_if_eq_t 27 dX6_cheap_14 rfl (bi_f h2) ?_
      refine z_iconst 28 dX6_cheap_27 vim1 rfl ?_
      refine z_iret hq rfl dX6_cheap_28 rfl rfl ?_
      exact ⟨_, no, rfl⟩
  · have no := no (fun q => h1 q.1)
    refine z_iload_n 1 dX6_cheap_0 rfl rfl ?_
    refine y_cSs 4 (c_isHue) cs_X6_163 ⟨by decide, by decide, rfl, rfl⟩ (Nat.le_of_ble_eq_true rfl) dX6_cheap_1 rfl rfl ?_
    refine z_if_eq_t 27 dX6_cheap_4 rfl (bi_f h1) ?_
    refine z_iconst 28 dX6_cheap_27 vim1 rfl ?_
    refine z_iret hq rfl dX6_cheap_28 rfl rfl ?_
    exact ⟨_, no, rfl⟩

