theorem l_toInt {x y : Int64} (h : -(2 ^ 62) ≤ x.toInt ∧ x.toInt ≤ 2 ^ 62) (h2 : -(2 ^ 62) < y.toInt ∧ y.toInt < 2 ^ 62) : (x + y).toInt = x.toInt + y.toInt := by
  rw [Int64.toInt_add]; apply Int.bmod_eq_of_le <;> omega
theorem l_toIntM {x y : Int64} (h : -(2 ^ 62) ≤ x.toInt * y.toInt ∧ x.toInt * y.toInt ≤ 2 ^ 62) : (x * y).toInt = x.toInt * y.toInt := by
  rw [Int64.toInt_mul]; apply Int.bmod_eq_of_le <;> omega
theorem nI_L {n : Nat} (h : n < 2 ^ 31) : (nI n).toInt64.toInt = n := by rw [Int32.toInt_toInt64]; exact nI_toInt h
theorem sp_sp2 {σ : Nat → Int32} {r : Nat} {Q R : Pg} : sp (sp σ r Q) r R = sp σ r R := ov_ov
theorem l_at {a : Int32} {i : Nat} (hi : i < 2 ^ 20) : (a.toInt64 + 3 * (nI i).toInt64).toInt = a.toInt + 3 * i := by
  have h1 : (3 * (nI i).toInt64).toInt = 3 * i := by
    have h3 : (3 : Int64).toInt = 3 := by decide
    rw [l_toIntM, h3, nI_L (by omega)]
    rw [h3, nI_L (by omega)]; omega
  have b1 := Int32.toInt_lt a
  have b2 := Int32.le_toInt a
  rw [l_toInt, h1, Int32.toInt_toInt64]
  · rw [Int32.toInt_toInt64]; omega
  · rw [h1]; omega
theorem l_at2 {a : Int32} {i : Nat} (hi : i < 2 ^ 20) : (a.toInt64 + 3 * (nI i).toInt64 + 2).toInt = a.toInt + 3 * i + 2 := by
  have b1 := Int32.toInt_lt a
  have b2 := Int32.le_toInt a
  have h3 : (2 : Int64).toInt = 2 := by decide
  rw [l_toInt, l_at hi, h3]
  · rw [l_at hi]; omega
  · rw [h3]; omega
theorem l_i {x : Int64} {t : Nat} (h : x.toInt = t) (ht : t < 2 ^ 31) : x.toInt32 = nI t := by
  apply Int32.toInt_inj.mp
  rw [Int64.toInt_toInt32, h, nI_toInt ht]
  apply Int.bmod_eq_of_le <;> omega
theorem rd_eq {c : Nat → Int32} {T : Option (Nat × Nat)} {w n : Nat} {a : Int} {N : Pg} : rdAll c T w a n N = if n = 0 then (some 0, 0, N) else if flt T w = 0 then (match T with | none => (some 0, 0, N) | some (_, s) => rdGo c s a n 0 N) else (some (flt T w), 0, N) := by
  simp only [rdAll]
  by_cases h : n = 0
  · rw [if_pos h, if_pos h]
  rw [if_neg h, if_neg h]
  match T with
  | none => rfl
  | some (L, s) =>
    simp only [flt]
    by_cases hL : L = w
    · simp only [if_pos hL]; rfl
    · simp only [if_neg hL]; rfl
theorem upd_self {σ : Nat → Int32} {a : Nat} : upd σ a (σ a) = σ := by
  funext b; simp only [upd]; split
  · rename_i h; rw [h]
  · rfl
set_option maxRecDepth 100000 in
set_option maxHeartbeats 1000000 in
theorem x_read {l : Launch} {G : zG} {σ : Nat → Int32} {T : Sht} {N : Pg} {k w a n : Int32} (hc : hdc σ 1 N) (ok : okQ N) (hT : hTC σ T) : zMet l yX6_read mX6_read [.ref (zGa G 0), .int k, .int w, .int a, .int n] G (zW G σ) (zP G (pC1 (upd σ (400 * 0 + 11) (tRead (fun j i => σ (400 * (150 + 2 * j + 1) + 0 + i)) T N k w a n (σ (400 * 0 + 11)))) (vRead (fun j i => σ (400 * (150 + 2 * j + 1) + 0 + i)) T N k w a n) (qRead (fun j i => σ (400 * (150 + 2 * j + 1) + 0 + i)) T N k w a n))) := by
  have b1 : bi ((0 : Int32) ≤ k ∧ k ≤ 3) = bi (inR k 4) := bi_cg (le_inR (n := 3) (by decide))
  have b2 : bi ((0 : Int32) ≤ w ∧ w ≤ 2) = bi (inR w 3) := bi_cg (le_inR (n := 2) (by decide))
  have b3 : bi ((0 : Int32) ≤ n ∧ n ≤ 13) = bi (inR n 14) := bi_cg (le_inR (n := 13) (by decide))
  generalize hC : (fun j i => σ (400 * (150 + 2 * j + 1) + 0 + i)) = C
  have no : ¬ okRead k w n → zP G (pC1 (upd σ (400 * 0 + 11) (tRead C T N k w a n (σ (400 * 0 + 11)))) (vRead C T N k w a n) (qRead C T N k w a n)) (some (.int (-1))) (zW G σ) := fun q => ⟨_, ⟨by rw [vRead, if_neg q], by rw [qRead, if_neg q]; exact hc, by rw [tRead, if_neg q, upd_self]; exact off1.rf⟩, rfl⟩
  refine zMet.of (by decide) rfl (Nat.le_of_ble_eq_true rfl) (Or.inr rfl) fun X hX hq => ?_
  subst hX
  show Y G X mX6_read σ 0 [some (.ref (zGa G 0)), some (.int k), some (.int w), some (.int a), some (.int n), none, none, none, none, none, none] []
  by_cases h1 : inR k 4
  · by_cases h2 : inR w 3
    · by_cases h3 : inR n 14
      · have yes : okRead k w n := ⟨h1, h2, h3⟩
        obtain ⟨j, hj, rfl⟩ := inR_of h1 (by decide)
        obtain ⟨w', hw, rfl⟩ := inR_of h2 (by decide)
        obtain ⟨n', hn, rfl⟩ := inR_of h3 (by decide)
        have ej : nN (nI j) = j := nN_nI (by omega)
        have ew : nN (nI w') = w' := nN_nI (by omega)
        have en : nN (nI n') = n' := nN_nI (by omega)
        have okn := okQ_nrm ok
        have hRc := rdAll_c (c := C j) (T := T j) (w := w') (a := a.toInt) (n := n') (eqc_nrm (Q := N)) ok
        generalize hR : rdAll (C j) (T j) w' a.toInt n' (nrm N) = R at hRc
        have goal1 : ∀ f i Q, R = (some f, i, Q) → vRead C T N (nI j) (nI w') a (nI n') = nI i ∧ eqc Q (qRead C T N (nI j) (nI w') a (nI n')) ∧ tRead C T N (nI j) (nI w') a (nI n') (σ (400 * 0 + 11)) = nI f := by
          intro f i Q e
          rw [e] at hRc
          simp only [vRead, qRead, tRead, if_pos yes, rdR, ej, ew, en]
          generalize hM : rdAll (C j) (T j) w' a.toInt n' N = M at hRc
          obtain ⟨m1, m2, m3⟩ := M
          obtain ⟨e1, e2, e3⟩ := hRc
          dsimp only at e1 e2 e3
          subst e1 e2
          exact ⟨rfl, e3, rfl⟩
        have goal0 : ∀ i Q, R = (none, i, Q) → vRead C T N (nI j) (nI w') a (nI n') = -20 - nI i ∧ qRead C T N (nI j) (nI w') a (nI n') = N ∧ tRead C T N (nI j) (nI w') a (nI n') (σ (400 * 0 + 11)) = σ (400 * 0 + 11) := by
          intro i Q e
          rw [e] at hRc
          simp only [vRead, qRead, tRead, if_pos yes, rdR, ej, ew, en]
          generalize hM : rdAll (C j) (T j) w' a.toInt n' N = M at hRc
          obtain ⟨m1, m2, m3⟩ := M
          obtain ⟨e1, e2, e3⟩ := hRc
          dsimp only at e1 e2 e3
          subst e1 e2
          exact ⟨rfl, rfl, rfl⟩
        have fin : ∀ f i Q x8 x9 x10, R = (some f, i, Q) → Y G X mX6_read (sp σ 8 Q) 156 [some (.ref (zGa G 0)), some (.int (nI j)), some (.int (nI w')), some (.int a), some (.int (nI n')), some (.ref (zGa G (150 + 2 * j))), some (.int (nI f)), some (.int (nI i)), x8, x9, x10] [] := by
          intro f i Q x8 x9 x10 e
          obtain ⟨g1, g2, g3⟩ := goal1 f i Q e
          refine z_aload_n 157 dX6_read_156 rfl rfl ?_
          refine y_getr 160 _ sh0 rfl fl_X6_10 dX6_read_157 rfl ?_
          refine z_aload_n 161 dX6_read_160 rfl rfl ?_
          refine y_getr 164 _ sh0 rfl fl_X6_16 dX6_read_161 rfl ?_
          refine y_cVv 167 _ (n_takeFrom bkm1 bkm8 (by decide) hds_sp.c) (bk0 bkm1) cv_X6_96 ⟨by decide, by decide, rfl, rfl⟩ (Nat.le_of_ble_eq_true rfl) dX6_read_164 rfl rfl ?_
          refine z_aload_n 168 dX6_read_167 rfl rfl ?_
          refine z_iload 170 dX6_read_168 rfl rfl ?_
          refine y_putI 173 _ sh0 rfl fp_X6_68 dX6_read_170 rfl ?_
          refine z_iload 175 dX6_read_173 rfl rfl ?_
          refine z_iret hq rfl dX6_read_175 rfl rfl ?_
          refine ⟨_, ⟨by rw [g1], ?_, ?_⟩, rfl⟩
          · exact fun i hi => (pk_un (by omega)).trans (hdc_sp1 (eqc_nrm.trans g2) i hi)
          · intro b hb hx
            rw [g3]
            by_cases h11 : b = 400 * 0 + 11
            · rw [h11, pk_us, pk_us]
            · rw [pk_un h11, pk_un h11, sp_off (by omega)]
              exact same_sp8 same.rf b hb
        by_cases hn0 : n' = 0
        · have hR0 : R = (some 0, 0, nrm N) := by rw [← hR, rd_eq, if_pos hn0]
          subst hn0
          refine z_iload_n 1 dX6_read_0 rfl rfl ?_
          refine z_iconst 2 dX6_read_1 vi0 rfl ?_
          refine z_iconst 3 dX6_read_2 vi3 rfl ?_
          refine y_cSs 6 (c_within) cs_X6_73 ⟨by decide, by decide, rfl, rfl⟩ (Nat.le_of_ble_eq_true rfl) dX6_read_3 rfl rfl ?_
          rw [b1]
          refine z_if_eq_f 9 29 dX6_read_6 rfl (by rw [bi_t h1]; decide) rfl ?_
          refine z_iload_n 10 dX6_read_9 rfl rfl ?_
          refine z_iconst 11 dX6_read_10 vi0 rfl ?_
          refine z_iconst 12 dX6_read_11 vi2 rfl ?_
          refine y_cSs 15 (c_within) cs_X6_73 ⟨by decide, by decide, rfl, rfl⟩ (Nat.le_of_ble_eq_true rfl) dX6_read_12 rfl rfl ?_
          rw [b2]
          refine z_if_eq_f 18 29 dX6_read_15 rfl (by rw [bi_t h2]; decide) rfl ?_
          refine z_iload 20 dX6_read_18 rfl rfl ?_
          refine z_iconst 21 dX6_read_20 vi0 rfl ?_
          refine z_bipush 23 dX6_read_21 vb13 rfl ?_
          refine y_cSs 26 (c_within) cs_X6_73 ⟨by decide, by decide, rfl, rfl⟩ (Nat.le_of_ble_eq_true rfl) dX6_read_23 rfl rfl ?_
          rw [b3]
          refine z_if_ne_t 31 dX6_read_26 rfl (by rw [bi_t h3]; decide) ?_
          refine z_aload_n 32 dX6_read_31 rfl rfl ?_
          refine y_getr 35 _ sh0 rfl fl_X6_64 dX6_read_32 rfl ?_
          refine z_iload_n 36 dX6_read_35 rfl rfl ?_
          refine y_aaS 37 _ j sh107 rfl hj (by decide) (aa107 hj) dX6_read_36 rfl ?_
          refine z_astore 39 [_, _, _, _, _, _, _, _, _, _, _] dX6_read_37 (by decide) rfl rfl rfl ?_
          refine z_iload 41 dX6_read_39 rfl rfl ?_
          refine z_if_ne_f 44 48 dX6_read_41 rfl (rfl) rfl ?_
          refine z_iconst 45 dX6_read_44 vi0 rfl ?_
          refine z_goto 54 dX6_read_45 rfl ?_
          refine z_istore 56 [_, _, _, _, _, _, _, _, _, _, _] dX6_read_54 (by decide) rfl rfl rfl ?_
          refine z_iconst 57 dX6_read_56 vi0 rfl ?_
          refine z_istore 59 [_, _, _, _, _, _, _, _, _, _, _] dX6_read_57 (by decide) rfl rfl rfl ?_
          refine z_aload_n 60 dX6_read_59 rfl rfl ?_
          refine y_getr 63 _ sh0 rfl fl_X6_16 dX6_read_60 rfl ?_
          refine z_aload_n 64 dX6_read_63 rfl rfl ?_
          refine y_getr 67 _ sh0 rfl fl_X6_10 dX6_read_64 rfl ?_
          refine y_cVv 70 _ (n_takeFrom bkm8 bkm1 (by decide) hc) (bk0 bkm8) cv_X6_96 ⟨by decide, by decide, rfl, rfl⟩ (Nat.le_of_ble_eq_true rfl) dX6_read_67 rfl rfl ?_
          refine z_iconst 71 dX6_read_70 vi0 rfl ?_
          refine z_istore 73 [_, _, _, _, _, _, _, _, _, _, _] dX6_read_71 (by decide) rfl rfl rfl ?_
          refine z_iload 75 dX6_read_73 rfl rfl ?_
          refine z_iload 77 dX6_read_75 rfl rfl ?_
          refine z_icmp_ge_t 156 dX6_read_77 rfl (by decide) ?_
          exact fin 0 0 _ _ _ _ hR0
        have nn0 : ¬ nI n' = 0 := fun q => hn0 (nI_eqL (b := 0) (by omega) (by decide) q)
        have n0n : ¬ nI n' ≤ nI 0 := nI_ge (a := 0) (by omega) (by omega)
        by_cases hf : flt (T j) w' = 0
        · cases hs : T j with
          | none => rw [hs] at hf; exact absurd hf (by simp [flt])
          | some q =>
            obtain ⟨L, s⟩ := q
            have ht := hT j hj
            rw [hs] at ht
            obtain ⟨hL, hz, h3', h40⟩ := ht
            have hR1 : rdGo (C j) s a.toInt n' 0 (nrm N) = R := by rw [← hR, rd_eq, if_neg hn0, if_pos hf, hs]
            suffices main : ∀ Q x9 x10, okQ Q → rdGo (C j) s a.toInt (n' - 0) 0 Q = R → Y G X mX6_read (sp σ 8 Q) 73 [some (.ref (zGa G 0)), some (.int (nI j)), some (.int (nI w')), some (.int a), some (.int (nI n')), some (.ref (zGa G (150 + 2 * j))), some (.int (nI 0)), some (.int (nI 0)), some (.int (nI 0)), x9, x10] [] by
              have hfa := c_faultAs (l := zXl X) (G := G) (j := j) (w := w') hj hT hw
              rw [hf] at hfa
              refine z_iload_n 1 dX6_read_0 rfl rfl ?_
              refine z_iconst 2 dX6_read_1 vi0 rfl ?_
              refine z_iconst 3 dX6_read_2 vi3 rfl ?_
              refine y_cSs 6 (c_within) cs_X6_73 ⟨by decide, by decide, rfl, rfl⟩ (Nat.le_of_ble_eq_true rfl) dX6_read_3 rfl rfl ?_
              rw [b1]
              refine z_if_eq_f 9 29 dX6_read_6 rfl (by rw [bi_t h1]; decide) rfl ?_
              refine z_iload_n 10 dX6_read_9 rfl rfl ?_
              refine z_iconst 11 dX6_read_10 vi0 rfl ?_
              refine z_iconst 12 dX6_read_11 vi2 rfl ?_
              refine y_cSs 15 (c_within) cs_X6_73 ⟨by decide, by decide, rfl, rfl⟩ (Nat.le_of_ble_eq_true rfl) dX6_read_12 rfl rfl ?_
              rw [b2]
              refine z_if_eq_f 18 29 dX6_read_15 rfl (by rw [bi_t h2]; decide) rfl ?_
              refine z_iload 20 dX6_read_18 rfl rfl ?_
              refine z_iconst 21 dX6_read_20 vi0 rfl ?_
              refine z_bipush 23 dX6_read_21 vb13 rfl ?_
              refine y_cSs 26 (c_within) cs_X6_73 ⟨by decide, by decide, rfl, rfl⟩ (Nat.le_of_ble_eq_true rfl) dX6_read_23 rfl rfl ?_
              rw [b3]
              refine z_if_ne_t 31 dX6_read_26 rfl (by rw [bi_t h3]; decide) ?_
              refine z_aload_n 32 dX6_read_31 rfl rfl ?_
              refine y_getr 35 _ sh0 rfl fl_X6_64 dX6_read_32 rfl ?_
              refine z_iload_n 36 dX6_read_35 rfl rfl ?_
              refine y_aaS 37 _ j sh107 rfl hj (by decide) (aa107 hj) dX6_read_36 rfl ?_
              refine z_astore 39 [_, _, _, _, _, _, _, _, _, _, _] dX6_read_37 (by decide) rfl rfl rfl ?_
              refine z_iload 41 dX6_read_39 rfl rfl ?_
              refine z_if_ne_t 48 dX6_read_41 rfl (nn0) ?_
              refine z_aload 50 dX6_read_48 rfl rfl ?_
              refine z_iload_n 51 dX6_read_50 rfl rfl ?_
              refine y_cVs 54 _ (hfa) (sho hj) cv_X6_276 ⟨by decide, by decide, rfl, rfl⟩ (Nat.le_of_ble_eq_true rfl) dX6_read_51 rfl rfl ?_
              refine z_istore 56 [_, _, _, _, _, _, _, _, _, _, _] dX6_read_54 (by decide) rfl rfl rfl ?_
              refine z_iconst 57 dX6_read_56 vi0 rfl ?_
              refine z_istore 59 [_, _, _, _, _, _, _, _, _, _, _] dX6_read_57 (by decide) rfl rfl rfl ?_
              refine z_aload_n 60 dX6_read_59 rfl rfl ?_
              refine y_getr 63 _ sh0 rfl fl_X6_16 dX6_read_60 rfl ?_
              refine z_aload_n 64 dX6_read_63 rfl rfl ?_
              refine y_getr 67 _ sh0 rfl fl_X6_10 dX6_read_64 rfl ?_
              refine y_cVv 70 _ (n_takeFrom bkm8 bkm1 (by decide) hc) (bk0 bkm8) cv_X6_96 ⟨by decide, by decide, rfl, rfl⟩ (Nat.le_of_ble_eq_true rfl) dX6_read_67 rfl rfl ?_
              refine z_iconst 71 dX6_read_70 vi0 rfl ?_
              refine z_istore 73 [_, _, _, _, _, _, _, _, _, _, _] dX6_read_71 (by decide) rfl rfl rfl ?_
              exact main _ _ _ okn hR1
            refine zup (P := fun i => ∀ Q x9 x10, okQ Q → rdGo (C j) s a.toInt (n' - i) i Q = R → Y G X mX6_read (sp σ 8 Q) 73 [some (.ref (zGa G 0)), some (.int (nI j)), some (.int (nI w')), some (.int a), some (.int (nI n')), some (.ref (zGa G (150 + 2 * j))), some (.int (nI 0)), some (.int (nI i)), some (.int (nI i)), x9, x10] []) n' ?_ (fun i hi ih => ?_) 0 (by omega)
            · intro Q x9 x10 okQ' e
              rw [Nat.sub_self] at e
              refine z_iload 75 dX6_read_73 rfl rfl ?_
              refine z_iload 77 dX6_read_75 rfl rfl ?_
              refine z_icmp_ge_t 156 dX6_read_77 rfl (Int32.le_refl _) ?_
              exact fin 0 _ _ _ _ _ e.symm
            · intro Q x9 x10 okQ' e
              rw [show n' - i = (n' - (i + 1)) + 1 by omega, rdGo] at e
              have ea := l_at (a := a) (i := i) (by omega)
              have ea2 := l_at2 (a := a) (i := i) (by omega)
              have hz' : sp σ 8 Q (400 * (150 + 2 * j) + 1) = nI s := (sp_off (by omega)).trans hz
              have c1 : lg_cmp (a.toInt64 + 3 * (nI i).toInt64) 0 < 0 ↔ a.toInt + 3 * i < 0 := by rw [lgc_lt, Int64.lt_iff_toInt_lt, ea]; exact Iff.rfl
              have c2 : lg_cmp (a.toInt64 + 3 * (nI i).toInt64 + 2) (nI s).toInt64 < 0 ↔ a.toInt + 3 * i + 2 < s := by rw [lgc_lt, Int64.lt_iff_toInt_lt, ea2, nI_L (by omega)]
              by_cases hin : rdIn a.toInt s i
              · rw [if_pos hin] at e
                obtain ⟨t, et⟩ : ∃ t : Nat, a.toInt + 3 * i = t := ⟨(a.toInt + 3 * i).toNat, by omega⟩
                have ht2 : t + 2 < s := by omega
                have ei := l_i (ea.trans et) (by omega)
                have ex : ∀ d, d < 3 → sp σ 8 Q (400 * (150 + 2 * j + 1) + 0 + (t + d)) = rdX (C j) a.toInt i d := fun d hd => by
                  rw [sp_off (by omega), rdX, et, ← hC]; rfl
                have hlt := c_lendOnTrial (l := zXl X) (G := G) (σ := sp σ 8 Q) (j := j) (t := t) hj (by omega) hds_sp okQ'
                rw [show t = t + 0 from rfl, Nat.add_assoc t 0 1, Nat.add_assoc t 0 2, Nat.zero_add, Nat.zero_add, ex 0 (by decide), ex 1 (by decide), ex 2 (by decide), sp_sp2] at hlt
                by_cases hv : 0 ≤ rdV (C j) a.toInt i Q
                · rw [if_pos hv] at e
                  refine z_iload 75 dX6_read_73 rfl rfl ?_
                  refine z_iload 77 dX6_read_75 rfl rfl ?_
                  refine z_icmp_ge_f 80 156 dX6_read_77 rfl (nI_ge hi (by omega)) rfl ?_
                  refine z_iload 82 dX6_read_80 rfl rfl ?_
                  refine z_if_ne_f 85 156 dX6_read_82 rfl (rfl) rfl ?_
                  refine z_iload_n 86 dX6_read_85 rfl rfl ?_
                  refine z_i2l 87 dX6_read_86 rfl ?_
                  refine z_ldc2 90 kc_X6_279 dX6_read_87 rfl ?_
                  refine z_iload 92 dX6_read_90 rfl rfl ?_
                  refine z_i2l 93 dX6_read_92 rfl ?_
                  refine z_lmul 94 dX6_read_93 rfl ?_
                  refine z_ladd 95 dX6_read_94 rfl ?_
                  refine z_lstore 97 [_, _, _, _, _, _, _, _, _, _, _] dX6_read_95 (by decide) rfl rfl rfl ?_
                  refine z_lload 99 dX6_read_97 rfl rfl ?_
                  refine z_lconst 100 dX6_read_99 vl0 rfl ?_
                  refine z_lcmp 101 dX6_read_100 rfl ?_
                  refine z_if_lt_f 104 120 dX6_read_101 rfl (by rw [c1]; omega) rfl ?_
                  refine z_lload 106 dX6_read_104 rfl rfl ?_
                  refine z_ldc2 109 kc_X6_281 dX6_read_106 rfl ?_
                  refine z_ladd 110 dX6_read_109 rfl ?_
                  refine z_aload 112 dX6_read_110 rfl rfl ?_
                  refine y_get 115 _ (sho hj) rfl fl_X6_269 dX6_read_112 rfl ?_
                  rw [hz']
                  refine z_i2l 116 dX6_read_115 rfl ?_
                  refine z_lcmp 117 dX6_read_116 rfl ?_
                  refine z_if_lt_t 126 dX6_read_117 rfl (by rw [c2]; omega) ?_
                  refine z_aload_n 127 dX6_read_126 rfl rfl ?_
                  refine z_aload 129 dX6_read_127 rfl rfl ?_
                  refine y_getr 132 _ (sho hj) rfl fl_X6_270 dX6_read_129 rfl ?_
                  refine z_lload 134 dX6_read_132 rfl rfl ?_
                  refine z_l2i 135 dX6_read_134 rfl ?_
                  rw [ei]
                  refine y_cVs 138 _ (hlt) sh0 cv_X6_283 ⟨by decide, by decide, rfl, rfl⟩ (Nat.le_of_ble_eq_true rfl) dX6_read_135 rfl rfl ?_
                  refine z_if_ne_t 147 dX6_read_138 rfl (by rw [bi_t hv]; decide) ?_
                  refine z_iinc 150 [_, _, _, _, _, _, _, _, _, _, _] dX6_read_147 rfl (show _ + _ = nI (_ + 1) from nI_1 _) (by decide) rfl rfl rfl ?_
                  refine z_iinc 153 [_, _, _, _, _, _, _, _, _, _, _] dX6_read_150 rfl (show _ + _ = nI (_ + 1) from nI_1 _) (by decide) rfl rfl rfl ?_
                  refine z_goto 73 dX6_read_153 rfl ?_
                  exact ih _ _ _ (okQ_lendQ okQ') e
                · rw [if_neg hv] at e
                  obtain ⟨g1, g2, g3⟩ := goal0 i Q e.symm
                  refine z_iload 75 dX6_read_73 rfl rfl ?_
                  refine z_iload 77 dX6_read_75 rfl rfl ?_
                  refine z_icmp_ge_f 80 156 dX6_read_77 rfl (nI_ge hi (by omega)) rfl ?_
                  refine z_iload 82 dX6_read_80 rfl rfl ?_
                  refine z_if_ne_f 85 156 dX6_read_82 rfl (rfl) rfl ?_
                  refine z_iload_n 86 dX6_read_85 rfl rfl ?_
                  refine z_i2l 87 dX6_read_86 rfl ?_
                  refine z_ldc2 90 kc_X6_279 dX6_read_87 rfl ?_
                  refine z_iload 92 dX6_read_90 rfl rfl ?_
                  refine z_i2l 93 dX6_read_92 rfl ?_
                  refine z_lmul 94 dX6_read_93 rfl ?_
                  refine z_ladd 95 dX6_read_94 rfl ?_
                  refine z_lstore 97 [_, _, _, _, _, _, _, _, _, _, _] dX6_read_95 (by decide) rfl rfl rfl ?_
                  refine z_lload 99 dX6_read_97 rfl rfl ?_
                  refine z_lconst 100 dX6_read_99 vl0 rfl ?_
                  refine z_lcmp 101 dX6_read_100 rfl ?_
                  refine z_if_lt_f 104 120 dX6_read_101 rfl (by rw [c1]; omega) rfl ?_
                  refine z_lload 106 dX6_read_104 rfl rfl ?_
                  refine z_ldc2 109 kc_X6_281 dX6_read_106 rfl ?_
                  refine z_ladd 110 dX6_read_109 rfl ?_
                  refine z_aload 112 dX6_read_110 rfl rfl ?_
                  refine y_get 115 _ (sho hj) rfl fl_X6_269 dX6_read_112 rfl ?_
                  rw [hz']
                  refine z_i2l 116 dX6_read_115 rfl ?_
                  refine z_lcmp 117 dX6_read_116 rfl ?_
                  refine z_if_lt_t 126 dX6_read_117 rfl (by rw [c2]; omega) ?_
                  refine z_aload_n 127 dX6_read_126 rfl rfl ?_
                  refine z_aload 129 dX6_read_127 rfl rfl ?_
                  refine y_getr 132 _ (sho hj) rfl fl_X6_270 dX6_read_129 rfl ?_
                  refine z_lload 134 dX6_read_132 rfl rfl ?_
                  refine z_l2i 135 dX6_read_134 rfl ?_
                  rw [ei]
                  refine y_cVs 138 _ (hlt) sh0 cv_X6_283 ⟨by decide, by decide, rfl, rfl⟩ (Nat.le_of_ble_eq_true rfl) dX6_read_135 rfl rfl ?_
                  refine z_if_ne_f 141 147 dX6_read_138 rfl (bi_f hv) rfl ?_
                  refine z_bipush 143 dX6_read_141 vbm20 rfl ?_
                  refine z_iload 145 dX6_read_143 rfl rfl ?_
                  refine z_isub 146 dX6_read_145 rfl ?_
                  refine z_iret hq rfl dX6_read_146 rfl rfl ?_
                  exact ⟨_, ⟨by rw [g1], by rw [g2]; exact hdc_off hc (by decide), by rw [g3, upd_self]; exact fun b hb hx => same_sp8 same.rf b hb⟩, rfl⟩
              · rw [if_neg hin] at e
                have bad : ∀ x9 x10, Y G X mX6_read (sp σ 8 Q) 120 [some (.ref (zGa G 0)), some (.int (nI j)), some (.int (nI w')), some (.int a), some (.int (nI n')), some (.ref (zGa G (150 + 2 * j))), some (.int (nI 0)), some (.int (nI i)), some (.int (nI i)), x9, x10] [] := by
                  intro x9 x10
                  refine z_iconst 121 dX6_read_120 vi2 rfl ?_
                  refine z_istore 123 [_, _, _, _, _, _, _, _, _, _, _] dX6_read_121 (by decide) rfl rfl rfl ?_
                  refine z_goto 150 dX6_read_123 rfl ?_
                  refine z_iinc 153 [_, _, _, _, _, _, _, _, _, _, _] dX6_read_150 rfl (show _ + _ = nI (_ + 1) from nI_1 _) (by decide) rfl rfl rfl ?_
                  refine z_goto 73 dX6_read_153 rfl ?_
                  refine z_iload 75 dX6_read_73 rfl rfl ?_
                  refine z_iload 77 dX6_read_75 rfl rfl ?_
                  refine z_icmp_ge 156 80 dX6_read_77 rfl rfl (fun h77 => ?_) (fun h77 => ?_)
                  · skip
                    exact fin 2 _ _ _ _ _ e.symm
                  · skip
                    refine z_iload 82 dX6_read_80 rfl rfl ?_
                    refine z_if_ne_t 156 dX6_read_82 rfl (by decide) ?_
                    exact fin 2 _ _ _ _ _ e.symm
                refine z_iload 75 dX6_read_73 rfl rfl ?_
                refine z_iload 77 dX6_read_75 rfl rfl ?_
                refine z_icmp_ge_f 80 156 dX6_read_77 rfl (nI_ge hi (by omega)) rfl ?_
                refine z_iload 82 dX6_read_80 rfl rfl ?_
                refine z_if_ne_f 85 156 dX6_read_82 rfl (rfl) rfl ?_
                refine z_iload_n 86 dX6_read_85 rfl rfl ?_
                refine z_i2l 87 dX6_read_86 rfl ?_
                refine z_ldc2 90 kc_X6_279 dX6_read_87 rfl ?_
                refine z_iload 92 dX6_read_90 rfl rfl ?_
                refine z_i2l 93 dX6_read_92 rfl ?_
                refine z_lmul 94 dX6_read_93 rfl ?_
                refine z_ladd 95 dX6_read_94 rfl ?_
                refine z_lstore 97 [_, _, _, _, _, _, _, _, _, _, _] dX6_read_95 (by decide) rfl rfl rfl ?_
                refine z_lload 99 dX6_read_97 rfl rfl ?_
                refine z_lconst 100 dX6_read_99 vl0 rfl ?_
                refine z_lcmp 101 dX6_read_100 rfl ?_
                refine z_if_lt 120 104 dX6_read_101 rfl rfl (fun h101 => ?_) (fun h101 => ?_)
                · skip
                  exact bad _ _
                · skip
                  have h101' := mt c1.mpr h101
                  refine z_lload 106 dX6_read_104 rfl rfl ?_
                  refine z_ldc2 109 kc_X6_281 dX6_read_106 rfl ?_
                  refine z_ladd 110 dX6_read_109 rfl ?_
                  refine z_aload 112 dX6_read_110 rfl rfl ?_
                  refine y_get 115 _ (sho hj) rfl fl_X6_269 dX6_read_112 rfl ?_
                  rw [hz']
                  refine z_i2l 116 dX6_read_115 rfl ?_
                  refine z_lcmp 117 dX6_read_116 rfl ?_
                  refine z_if_lt_f 120 126 dX6_read_117 rfl (fun q => hin ⟨by omega, c2.mp q⟩) rfl ?_
                  exact bad _ _
        · have hR1 : R = (some (flt (T j) w'), 0, nrm N) := by rw [← hR, rd_eq, if_neg hn0, if_neg hf]
          have fl3 : flt (T j) w' < 4 := by
            simp only [flt]; split
            · decide
            · split <;> decide
          refine z_iload_n 1 dX6_read_0 rfl rfl ?_
          refine z_iconst 2 dX6_read_1 vi0 rfl ?_
          refine z_iconst 3 dX6_read_2 vi3 rfl ?_
          refine y_cSs 6 (c_within) cs_X6_73 ⟨by decide, by decide, rfl, rfl⟩ (Nat.le_of_ble_eq_true rfl) dX6_read_3 rfl rfl ?_
          rw [b1]
          refine z_if_eq_f 9 29 dX6_read_6 rfl (by rw [bi_t h1]; decide) rfl ?_
          refine z_iload_n 10 dX6_read_9 rfl rfl ?_
          refine z_iconst 11 dX6_read_10 vi0 rfl ?_
          refine z_iconst 12 dX6_read_11 vi2 rfl ?_
          refine y_cSs 15 (c_within) cs_X6_73 ⟨by decide, by decide, rfl, rfl⟩ (Nat.le_of_ble_eq_true rfl) dX6_read_12 rfl rfl ?_
          rw [b2]
          refine z_if_eq_f 18 29 dX6_read_15 rfl (by rw [bi_t h2]; decide) rfl ?_
          refine z_iload 20 dX6_read_18 rfl rfl ?_
          refine z_iconst 21 dX6_read_20 vi0 rfl ?_
          refine z_bipush 23 dX6_read_21 vb13 rfl ?_
          refine y_cSs 26 (c_within) cs_X6_73 ⟨by decide, by decide, rfl, rfl⟩ (Nat.le_of_ble_eq_true rfl) dX6_read_23 rfl rfl ?_
          rw [b3]
          refine z_if_ne_t 31 dX6_read_26 rfl (by rw [bi_t h3]; decide) ?_
          refine z_aload_n 32 dX6_read_31 rfl rfl ?_
          refine y_getr 35 _ sh0 rfl fl_X6_64 dX6_read_32 rfl ?_
          refine z_iload_n 36 dX6_read_35 rfl rfl ?_
          refine y_aaS 37 _ j sh107 rfl hj (by decide) (aa107 hj) dX6_read_36 rfl ?_
          refine z_astore 39 [_, _, _, _, _, _, _, _, _, _, _] dX6_read_37 (by decide) rfl rfl rfl ?_
          refine z_iload 41 dX6_read_39 rfl rfl ?_
          refine z_if_ne_t 48 dX6_read_41 rfl (nn0) ?_
          refine z_aload 50 dX6_read_48 rfl rfl ?_
          refine z_iload_n 51 dX6_read_50 rfl rfl ?_
          refine y_cVs 54 _ (c_faultAs hj hT hw) (sho hj) cv_X6_276 ⟨by decide, by decide, rfl, rfl⟩ (Nat.le_of_ble_eq_true rfl) dX6_read_51 rfl rfl ?_
          refine z_istore 56 [_, _, _, _, _, _, _, _, _, _, _] dX6_read_54 (by decide) rfl rfl rfl ?_
          refine z_iconst 57 dX6_read_56 vi0 rfl ?_
          refine z_istore 59 [_, _, _, _, _, _, _, _, _, _, _] dX6_read_57 (by decide) rfl rfl rfl ?_
          refine z_aload_n 60 dX6_read_59 rfl rfl ?_
          refine y_getr 63 _ sh0 rfl fl_X6_16 dX6_read_60 rfl ?_
          refine z_aload_n 64 dX6_read_63 rfl rfl ?_
          refine y_getr 67 _ sh0 rfl fl_X6_10 dX6_read_64 rfl ?_
          refine y_cVv 70 _ (n_takeFrom bkm8 bkm1 (by decide) hc) (bk0 bkm8) cv_X6_96 ⟨by decide, by decide, rfl, rfl⟩ (Nat.le_of_ble_eq_true rfl) dX6_read_67 rfl rfl ?_
          refine z_iconst 71 dX6_read_70 vi0 rfl ?_
          refine z_istore 73 [_, _, _, _, _, _, _, _, _, _, _] dX6_read_71 (by decide) rfl rfl rfl ?_
          refine z_iload 75 dX6_read_73 rfl rfl ?_
          refine z_iload 77 dX6_read_75 rfl rfl ?_
          refine z_icmp_ge_f 80 156 dX6_read_77 rfl (n0n) rfl ?_
          refine z_iload 82 dX6_read_80 rfl rfl ?_
          refine z_if_ne_t 156 dX6_read_82 rfl (fun q => hf (nI_eqL (b := 0) (by omega) (by decide) q)) ?_
          exact fin _ 0 _ _ _ _ hR1
      · have no := no (fun q => h3 q.2.2)
        refine z_iload_n 1 dX6_read_0 rfl rfl ?_
        refine z_iconst 2 dX6_read_1 vi0 rfl ?_
        refine z_iconst 3 dX6_read_2 vi3 rfl ?_
        refine y_cSs 6 (c_within) cs_X6_73 ⟨by decide, by decide, rfl, rfl⟩ (Nat.le_of_ble_eq_true rfl) dX6_read_3 rfl rfl ?_
        rw [b1]
        refine z_if_eq_f 9 29 dX6_read_6 rfl (by rw [bi_t h1]; decide) rfl ?_
        refine z_iload_n 10 dX6_read_9 rfl rfl ?_
        refine z_iconst 11 dX6_read_10 vi0 rfl ?_
        refine z_iconst 12 dX6_read_11 vi2 rfl ?_
        refine y_cSs 15 (c_within) cs_X6_73 ⟨by decide, by decide, rfl, rfl⟩ (Nat.le_of_ble_eq_true rfl) dX6_read_12 rfl rfl ?_
        rw [b2]
        refine z_if_eq_f 18 29 dX6_read_15 rfl (by rw [bi_t h2]; decide) rfl ?_
        refine z_iload 20 dX6_read_18 rfl rfl ?_
        refine z_iconst 21 dX6_read_20 vi0 rfl ?_
        refine z_bipush 23 dX6_read_21 vb13 rfl ?_
        refine y_cSs 26 (c_within) cs_X6_73 ⟨by decide, by decide, rfl, rfl⟩ (Nat.le_of_ble_eq_true rfl) dX6_read_23 rfl rfl ?_
        rw [b3]
        refine z_if_ne_f 29 31 dX6_read_26 rfl (bi_f h3) rfl ?_
        refine z_iconst 30 dX6_read_29 vim1 rfl ?_
        refine z_iret hq rfl dX6_read_30 rfl rfl ?_
        exact no
    · have no := no (fun q => h2 q.2.1)
      refine z_iload_n 1 dX6_read_0 rfl rfl ?_
      refine z_iconst 2 dX6_read_1 vi0 rfl ?_
      refine z_iconst 3 dX6_read_2 vi3 rfl ?_
      refine y_cSs 6 (c_within) cs_X6_73 ⟨by decide, by decide, rfl, rfl⟩ (Nat.le_of_ble_eq_true rfl) dX6_read_3 rfl rfl ?_
      rw [b1]
      refine z_if_eq_f 9 29 dX6_read_6 rfl (by rw [bi_t h1]; decide) rfl ?_
      refine z_iload_n 10 dX6_read_9 rfl rfl ?_
      refine z_iconst 11 dX6_read_10 vi0 rfl ?_
      refine z_iconst 12 dX6_read_11 vi2 rfl ?_
      refine y_cSs 15 (c_within) cs_X6_73 ⟨by decide, by decide, rfl, rfl⟩ (Nat.le_of_ble_eq_true rfl) dX6_read_12 rfl rfl ?_
      rw [b2]
      refine z_if_eq_t 29 dX6_read_15 rfl (bi_f h2) ?_
      refine z_iconst 30 dX6_read_29 vim1 rfl ?_
      refine z_iret hq rfl dX6_read_30 rfl rfl ?_
      exact no
  · have no := no (fun q => h1 q.1)
    refine z_iload_n 1 dX6_read_0 rfl rfl ?_
    refine z_iconst 2 dX6_read_1 vi0 rfl ?_
    refine z_iconst 3 dX6_read_2 vi3 rfl ?_
    refine y_cSs 6 (c_within) cs_X6_73 ⟨by decide, by decide, rfl, rfl⟩ (Nat.le_of_ble_eq_true rfl) dX6_read_3 rfl rfl ?_
    rw [b1]
    refine z_if_eq_t 29 dX6_read_6 rfl (bi_f h1) ?_
    refine z_iconst 30 dX6_read_29 vim1 rfl ?_
    refine z_iret hq rfl dX6_read_30 rfl rfl ?_
    exact no

