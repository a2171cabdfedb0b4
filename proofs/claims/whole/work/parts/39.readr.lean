theorem rsp_hi {σ : Nat → Int32} {o a : Nat} {Q : Pg} (h : 65604 ≤ a) (ho : o ≤ 275) : rsp σ o Q a = σ a := ov_off (pR_off (by omega) (by omega) (by omega))
theorem hdk_up {σ : Nat → Int32} {o a : Nat} {N : Pg} {x : Int32} (h : hdk σ o N) (ha : (a < 63600 + o ∨ 63600 + o + 55 ≤ a) ∧ a ≠ 63201 ∧ a ≠ 63202) : hdk (upd σ a x) o N := fun i hi => by
  rw [pk_un]; · exact h i hi
  simp only [aR]
  rcases hi with q | q | q
  · rw [if_pos q]; omega
  · subst q; rw [if_neg (by decide), if_neg (by decide), if_pos rfl]; omega
  · subst q; rw [if_neg (by decide), if_neg (by decide), if_neg (by decide), if_pos rfl]; omega
theorem l_ref {a : Int32} {s j : Nat} (hj : j < 2 ^ 20) (hs : s ≤ 40) : ((0 : Int64) ≤ a.toInt64 + (nI j).toInt64 ∧ a.toInt64 + (nI j).toInt64 ≤ (nI s - 1).toInt64) ↔ (0 ≤ a.toInt + j ∧ a.toInt + j < s) := by
  have b1 := Int32.toInt_lt a
  have b2 := Int32.le_toInt a
  have h1 : (a.toInt64 + (nI j).toInt64).toInt = a.toInt + j := by
    rw [l_toInt, nI_L (by omega), Int32.toInt_toInt64]
    · rw [Int32.toInt_toInt64]; omega
    · rw [nI_L (by omega)]; omega
  have h2 : (nI s - 1).toInt64.toInt = s - 1 := by rw [Int32.toInt_toInt64]; exact nI_sd (b := 1) (by omega) (by decide)
  rw [Int64.le_iff_toInt_le, Int64.le_iff_toInt_le, h1, h2, show (0 : Int64).toInt = 0 from rfl]
  omega
theorem l_ix {a : Int32} {j m t : Nat} (h : a.toInt + j = t) (ht : t < 1000) (hj : j < 1000) : nI m + a + nI j = nI (m + t) := by
  have : a + nI j = nI t := by
    apply Int32.toInt_inj.mp
    rw [Int32.toInt_add, nI_toInt (by omega), nI_toInt (by omega), h]
    apply Int.bmod_eq_of_le <;> omega
  rw [Int32.add_assoc, this, nI_add]
set_option maxRecDepth 100000 in
set_option maxHeartbeats 1000000 in
theorem r_read {l : Launch} {G : zG} {σ : Nat → Int32} {T : Sht} {N : Pg} {k w a n : Int32} (hc : hdk σ 0 N) (ok : okQ N) (hT : hTR σ T) : zMet l yX7_read mX7_read [.ref (zGa G 158), .int k, .int w, .int a, .int n] G (zW G σ) (zP G (pR1 (upd σ (400 * 158 + 32) (tRead (fun j i => σ (400 * 172 + 0 + (40 * j + i))) T N k w a n (σ (400 * 158 + 32)))) (vRead (fun j i => σ (400 * 172 + 0 + (40 * j + i))) T N k w a n) (qRead (fun j i => σ (400 * 172 + 0 + (40 * j + i))) T N k w a n))) := by
  have b1 : bi ((0 : Int64) ≤ k.toInt64 ∧ k.toInt64 ≤ 3) = bi (inR k 4) := bi_in7 (n := 3) (by decide)
  have b2 : bi ((0 : Int64) ≤ w.toInt64 ∧ w.toInt64 ≤ 2) = bi (inR w 3) := bi_in7 (n := 2) (by decide)
  have b3 : bi ((0 : Int64) ≤ n.toInt64 ∧ n.toInt64 ≤ 13) = bi (inR n 14) := bi_in7 (n := 13) (by decide)
  generalize hC : (fun j i => σ (400 * 172 + 0 + (40 * j + i))) = C
  have no : ¬ okRead k w n → zP G (pR1 (upd σ (400 * 158 + 32) (tRead C T N k w a n (σ (400 * 158 + 32)))) (vRead C T N k w a n) (qRead C T N k w a n)) (some (.int (-1))) (zW G σ) := fun q => ⟨_, ⟨by rw [vRead, if_neg q], by rw [qRead, if_neg q]; exact hc, by rw [tRead, if_neg q, upd_self]; exact offR.rf⟩, rfl⟩
  refine zMet.of (by decide) rfl (Nat.le_of_ble_eq_true rfl) (Or.inr rfl) fun X hX hq => ?_
  subst hX
  show Y G X mX7_read σ 0 [some (.ref (zGa G 158)), some (.int k), some (.int w), some (.int a), some (.int n), none, none, none, none] []
  by_cases h1 : inR k 4
  · by_cases h2 : inR w 3
    · by_cases h3 : inR n 14
      · have yes : okRead k w n := ⟨h1, h2, h3⟩
        obtain ⟨j, hj, rfl⟩ := inR_of h1 (by decide)
        obtain ⟨w', hw, rfl⟩ := inR_of h2 (by decide)
        obtain ⟨n', hn, rfl⟩ := inR_of h3 (by decide)
        have ej : nN (nI j) = j := nN_nI (by omega)
        have ew : nN (nI w') = w' := nN_nI (by omega)
        have en : nN (nI n') = n' := nN_nI (by omega)
        have eE : eqc (exq σ 165 N) N := exq_c
        generalize hEE : exq σ 165 N = E at eE
        have cpe := cp_rsp hc (t := 165) (by decide) (by decide) (by decide)
        rw [hEE] at cpe
        have hsm : same (rsp σ 165 E) σ := same_rsp same.rf (by decide) (hdk_c56 hc eE).1 (hdk_c56 hc eE).2
        have hcτ : hdk (rsp σ 165 E) 0 N := hdk_rsp_off hc (by decide) (by decide) (eE 56 (by decide)) (eE 57 (by decide))
        have hc165 : hdk (rsp σ 165 E) 165 N := (hdr_rsp' (by decide)).k.eqc eE
        have hhi : ∀ x, 65604 ≤ x → rsp σ 165 E x = σ x := fun x hx => rsp_hi hx (by decide)
        generalize hτ : rsp σ 165 E = τ at cpe hsm hcτ hc165 hhi
        obtain ⟨Q0, hQ0, e0⟩ := hdk_full hcτ
        have okn : okQ Q0 := ok.eqc e0
        have hRc := rdAll_c (c := C j) (T := T j) (w := w') (a := a.toInt) (n := n') e0 ok
        generalize hR : rdAll (C j) (T j) w' a.toInt n' Q0 = R at hRc
        have goal1 : ∀ f i Q, R = (some f, i, Q) → vRead C T N (nI j) (nI w') a (nI n') = nI i ∧ eqc Q (qRead C T N (nI j) (nI w') a (nI n')) ∧ tRead C T N (nI j) (nI w') a (nI n') (σ (400 * 158 + 32)) = nI f := by
          intro f i Q e
          rw [e] at hRc
          simp only [vRead, qRead, tRead, if_pos yes, rdR, ej, ew, en]
          generalize hM : rdAll (C j) (T j) w' a.toInt n' N = M at hRc
          obtain ⟨m1, m2, m3⟩ := M
          obtain ⟨e1, e2, e3⟩ := hRc
          dsimp only at e1 e2 e3
          subst e1 e2
          exact ⟨rfl, e3, rfl⟩
        have goal0 : ∀ i Q, R = (none, i, Q) → vRead C T N (nI j) (nI w') a (nI n') = -20 - nI i ∧ qRead C T N (nI j) (nI w') a (nI n') = N ∧ tRead C T N (nI j) (nI w') a (nI n') (σ (400 * 158 + 32)) = σ (400 * 158 + 32) := by
          intro i Q e
          rw [e] at hRc
          simp only [vRead, qRead, tRead, if_pos yes, rdR, ej, ew, en]
          generalize hM : rdAll (C j) (T j) w' a.toInt n' N = M at hRc
          obtain ⟨m1, m2, m3⟩ := M
          obtain ⟨e1, e2, e3⟩ := hRc
          dsimp only at e1 e2 e3
          subst e1 e2
          exact ⟨rfl, rfl, rfl⟩
        have fin : ∀ f i Q x7 x8, Q 56 = N 56 ∧ Q 57 = N 57 → R = (some f, i, Q) → Y G X mX7_read (rsp τ 0 Q) 208 [some (.ref (zGa G 158)), some (.int (nI j)), some (.int (nI w')), some (.int a), some (.int (nI n')), some (.int (nI f)), some (.int (nI i)), x7, x8] [] := by
          intro f i Q x7 x8 hx e
          obtain ⟨g1, g2, g3⟩ := goal1 f i Q e
          refine z_aload_n 209 dX7_read_208 rfl rfl ?_
          refine z_iload 211 dX7_read_209 rfl rfl ?_
          refine y_putI 214 _ sh158 rfl fp_X7_264 dX7_read_211 rfl ?_
          refine z_iload 216 dX7_read_214 rfl rfl ?_
          refine z_iret hq rfl dX7_read_216 rfl rfl ?_
          refine ⟨_, ⟨by rw [g1], ?_, ?_⟩, rfl⟩
          · exact hdk_up (hdk_rsp g2) (by decide)
          · intro b hb hx2
            rw [g3]
            by_cases h11 : b = 400 * 158 + 32
            · rw [h11, pk_us, pk_us]
            · rw [pk_un h11, pk_un h11]
              exact (offR_rsp (h56 hcτ hx.1) (h57 hcτ hx.2) b hb hx2).trans (hsm b hb)
        suffices main : Y G X mX7_read (rsp τ 0 Q0) 56 [some (.ref (zGa G 158)), some (.int (nI j)), some (.int (nI w')), some (.int a), some (.int (nI n')), some (.int (nI 0)), some (.int (nI 0)), some (.int (nI 0)), none] [] by
          rw [rsp_self hQ0] at main
          refine z_iload_n 1 dX7_read_0 rfl rfl ?_
          refine z_i2l 2 dX7_read_1 rfl ?_
          refine z_lconst 3 dX7_read_2 vl0 rfl ?_
          refine z_ldc2 6 kc_X7_220 dX7_read_3 rfl ?_
          refine y_cSs 9 (c_in) cs_X7_55 ⟨by decide, by decide, rfl, rfl⟩ (Nat.le_of_ble_eq_true rfl) dX7_read_6 rfl rfl ?_
          rw [b1]
          refine z_if_eq_f 12 37 dX7_read_9 rfl (by rw [bi_t h1]; decide) rfl ?_
          refine z_iload_n 13 dX7_read_12 rfl rfl ?_
          refine z_i2l 14 dX7_read_13 rfl ?_
          refine z_lconst 15 dX7_read_14 vl0 rfl ?_
          refine z_ldc2 18 kc_X7_225 dX7_read_15 rfl ?_
          refine y_cSs 21 (c_in) cs_X7_55 ⟨by decide, by decide, rfl, rfl⟩ (Nat.le_of_ble_eq_true rfl) dX7_read_18 rfl rfl ?_
          rw [b2]
          refine z_if_eq_f 24 37 dX7_read_21 rfl (by rw [bi_t h2]; decide) rfl ?_
          refine z_iload 26 dX7_read_24 rfl rfl ?_
          refine z_i2l 27 dX7_read_26 rfl ?_
          refine z_lconst 28 dX7_read_27 vl0 rfl ?_
          refine z_ldc2 31 kc_X7_262 dX7_read_28 rfl ?_
          refine y_cSs 34 (c_in) cs_X7_55 ⟨by decide, by decide, rfl, rfl⟩ (Nat.le_of_ble_eq_true rfl) dX7_read_31 rfl rfl ?_
          rw [b3]
          refine z_if_ne_t 39 dX7_read_34 rfl (by rw [bi_t h3]; decide) ?_
          refine z_aload_n 40 dX7_read_39 rfl rfl ?_
          refine z_iconst 41 dX7_read_40 vi0 rfl ?_
          refine z_sipush 44 dX7_read_41 vs165 rfl ?_
          refine y_cVv 47 _ (c_copies (f := 0) (t := 165) (by decide) (by decide) (by decide)) sh158 cv_X7_212 ⟨by decide, by decide, rfl, rfl⟩ (Nat.le_of_ble_eq_true rfl) dX7_read_44 rfl rfl ?_
          rw [cpe]
          refine z_iconst 48 dX7_read_47 vi0 rfl ?_
          refine z_istore 50 [_, _, _, _, _, _, _, _, _] dX7_read_48 (by decide) rfl rfl rfl ?_
          refine z_iconst 51 dX7_read_50 vi0 rfl ?_
          refine z_istore 53 [_, _, _, _, _, _, _, _, _] dX7_read_51 (by decide) rfl rfl rfl ?_
          refine z_iconst 54 dX7_read_53 vi0 rfl ?_
          refine z_istore 56 [_, _, _, _, _, _, _, _, _] dX7_read_54 (by decide) rfl rfl rfl ?_
          exact main
        have hq0 : Q0 56 = N 56 ∧ Q0 57 = N 57 := ⟨e0 56 (by decide), e0 57 (by decide)⟩
        by_cases hn0 : n' = 0
        · have hR0 : R = (some 0, 0, Q0) := by rw [← hR, rd_eq, if_pos hn0]
          subst hn0
          refine z_iload 58 dX7_read_56 rfl rfl ?_
          refine z_iconst 59 dX7_read_58 vi3 rfl ?_
          refine z_iload 61 dX7_read_59 rfl rfl ?_
          refine z_imulN 62 (show (3 : Int32) = nI 3 from rfl) rfl dX7_read_61 rfl ?_
          refine z_icmp_ge_t 208 dX7_read_62 rfl (by decide) ?_
          exact fin 0 0 _ _ _ hq0 hR0
        have n0n : ¬ nI (3 * n') ≤ nI 0 := nI_ge (a := 0) (by omega) (by omega)
        have ht := hT j hj
        have hla : ∀ Q, rsp τ 0 Q (400 * 170 + 0 + j) = σ (400 * 170 + 0 + j) := fun Q => (rsp_hi (by omega) (by decide)).trans (hhi _ (by omega))
        have hle : ∀ Q, rsp τ 0 Q (400 * 171 + 0 + j) = σ (400 * 171 + 0 + j) := fun Q => (rsp_hi (by omega) (by decide)).trans (hhi _ (by omega))
        cases hs : T j with
        | none =>
          rw [hs] at ht
          have hR1 : R = (some 1, 0, Q0) := by rw [← hR]; simp only [rdAll, hs, if_neg hn0]
          refine z_iload 58 dX7_read_56 rfl rfl ?_
          refine z_iconst 59 dX7_read_58 vi3 rfl ?_
          refine z_iload 61 dX7_read_59 rfl rfl ?_
          refine z_imulN 62 (show (3 : Int32) = nI 3 from rfl) rfl dX7_read_61 rfl ?_
          refine z_icmp_ge_f 65 208 dX7_read_62 rfl (n0n) rfl ?_
          refine z_iload 67 dX7_read_65 rfl rfl ?_
          refine z_if_ne_f 70 208 dX7_read_67 rfl (rfl) rfl ?_
          refine z_aload_n 71 dX7_read_70 rfl rfl ?_
          refine y_getr 74 _ sh158 rfl fl_X7_44 dX7_read_71 rfl ?_
          refine z_iload_n 75 dX7_read_74 rfl rfl ?_
          refine y_ld 76 _ j sh170 rfl hj (by omega) dX7_read_75 rfl ?_
          rw [hla, ht]
          refine z_bipush 78 dX7_read_76 vbm4 rfl ?_
          refine z_icmp_ne_f 81 85 dX7_read_78 rfl (rfl) rfl ?_
          refine z_iconst 82 dX7_read_81 vi1 rfl ?_
          refine z_goto 126 dX7_read_82 rfl ?_
          refine z_istore 128 [_, _, _, _, _, _, _, _, _] dX7_read_126 (by decide) rfl rfl rfl ?_
          refine z_iload 130 dX7_read_128 rfl rfl ?_
          refine z_if_ne_t 202 dX7_read_130 rfl (by decide) ?_
          skip
          refine z_iinc 205 [_, _, _, _, _, _, _, _, _] dX7_read_202 rfl (show _ + _ = nI (_ + 1) from nI_1 _) (by decide) rfl rfl rfl ?_
          refine z_goto 56 dX7_read_205 rfl ?_
          refine z_iload 58 dX7_read_56 rfl rfl ?_
          refine z_iconst 59 dX7_read_58 vi3 rfl ?_
          refine z_iload 61 dX7_read_59 rfl rfl ?_
          refine z_imulN 62 (show (3 : Int32) = nI 3 from rfl) rfl dX7_read_61 rfl ?_
          refine z_icmp_ge 208 65 dX7_read_62 rfl rfl (fun h62 => ?_) (fun h62 => ?_)
          · skip
            exact fin 1 0 _ _ _ hq0 hR1
          · skip
            refine z_iload 67 dX7_read_65 rfl rfl ?_
            refine z_if_ne_t 208 dX7_read_67 rfl (by decide) ?_
            exact fin 1 0 _ _ _ hq0 hR1
        | some q =>
          obtain ⟨L, s⟩ := q
          rw [hs] at ht
          obtain ⟨hL, hz, h3', h40⟩ := ht
          have n4 : nI L ≠ -4 := nI_neg4 h3'
          by_cases hLw : L = w'
          · have hR1 : rdGo (C j) s a.toInt n' 0 Q0 = R := by rw [← hR]; simp only [rdAll, hs, if_neg hn0, if_pos hLw]
            refine zup (P := fun m => ∀ Q x8, okQ Q → Q 56 = N 56 ∧ Q 57 = N 57 → rdGo (C j) s a.toInt (n' - m / 3) (m / 3) Q = R → (∀ d, d < m % 3 → 0 ≤ a.toInt + 3 * ((m / 3 : Nat) : Int) + d ∧ a.toInt + 3 * ((m / 3 : Nat) : Int) + d < s) → Y G X mX7_read (rsp τ 0 Q) 56 [some (.ref (zGa G 158)), some (.int (nI j)), some (.int (nI w')), some (.int a), some (.int (nI n')), some (.int (nI 0)), some (.int (nI (m / 3))), some (.int (nI m)), x8] []) (3 * n') ?_ (fun m hm ih => ?_) 0 (by omega) Q0 none okn hq0 hR1 (fun d hd => absurd hd (by omega))
            · intro Q x8 _ hx e _
              rw [show 3 * n' / 3 = n' by omega, Nat.sub_self] at e
              rw [show 3 * n' / 3 = n' by omega]
              refine z_iload 58 dX7_read_56 rfl rfl ?_
              refine z_iconst 59 dX7_read_58 vi3 rfl ?_
              refine z_iload 61 dX7_read_59 rfl rfl ?_
              refine z_imulN 62 (show (3 : Int32) = nI 3 from rfl) rfl dX7_read_61 rfl ?_
              refine z_icmp_ge_t 208 dX7_read_62 rfl (Int32.le_refl _) ?_
              exact fin 0 _ _ _ _ hx e.symm
            · intro Q x8 okQ' hx e hpre
              obtain ⟨i, d, hd, rfl⟩ : ∃ i d, d < 3 ∧ m = 3 * i + d := ⟨m / 3, m % 3, by omega, by omega⟩
              rw [show (3 * i + d) / 3 = i by omega] at e hpre ⊢
              rw [show (3 * i + d) % 3 = d by omega] at hpre
              have c1 := bi_cg (l_ref (a := a) (s := s) (j := 3 * i + d) (by omega) h40)
              by_cases hin : 0 ≤ a.toInt + ((3 * i + d : Nat) : Int) ∧ a.toInt + ((3 * i + d : Nat) : Int) < s
              · by_cases hd2 : d = 2
                · subst hd2
                  rw [show n' - i = (n' - (i + 1)) + 1 by omega, rdGo] at e
                  have hrd : rdIn a.toInt s i := by have := hpre 0 (by decide); omega
                  rw [if_pos hrd] at e
                  obtain ⟨t, et⟩ : ∃ t : Nat, a.toInt + 3 * i = t := ⟨(a.toInt + 3 * i).toNat, by omega⟩
                  have ht2 : t + 2 < s := by omega
                  have eix : nI (40 * j) + a + nI (3 * i + 2) = nI (40 * j + (t + 2)) := l_ix (by omega) (by omega) (by omega)
                  have ex : ∀ b d, d < 3 → b = 40 * j + (t + d) → rsp τ 0 Q (400 * 172 + 0 + b) = rdX (C j) a.toInt i d := fun b d hd hb => by
                    rw [rsp_hi (by omega) (by decide), hhi _ (by omega), rdX, et, ← hC, hb]; rfl
                  by_cases hv : 0 ≤ rdV (C j) a.toInt i Q
                  · rw [if_pos hv] at e
                    have hx' := lendQ_56 (p := rdX (C j) a.toInt i 0) (c := rdX (C j) a.toInt i 1) (n := rdX (C j) a.toInt i 2) okQ'
                    refine z_iload 58 dX7_read_56 rfl rfl ?_
                    refine z_iconst 59 dX7_read_58 vi3 rfl ?_
                    refine z_iload 61 dX7_read_59 rfl rfl ?_
                    refine z_imulN 62 (show (3 : Int32) = nI 3 from rfl) rfl dX7_read_61 rfl ?_
                    refine z_icmp_ge_f 65 208 dX7_read_62 rfl (nI_ge (by omega) (by omega)) rfl ?_
                    refine z_iload 67 dX7_read_65 rfl rfl ?_
                    refine z_if_ne_f 70 208 dX7_read_67 rfl (rfl) rfl ?_
                    refine z_aload_n 71 dX7_read_70 rfl rfl ?_
                    refine y_getr 74 _ sh158 rfl fl_X7_44 dX7_read_71 rfl ?_
                    refine z_iload_n 75 dX7_read_74 rfl rfl ?_
                    refine y_ld 76 _ j sh170 rfl hj (by omega) dX7_read_75 rfl ?_
                    rw [hla, hL]
                    refine z_bipush 78 dX7_read_76 vbm4 rfl ?_
                    refine z_icmp_ne_t 85 dX7_read_78 rfl (n4) ?_
                    refine z_aload_n 86 dX7_read_85 rfl rfl ?_
                    refine y_getr 89 _ sh158 rfl fl_X7_44 dX7_read_86 rfl ?_
                    refine z_iload_n 90 dX7_read_89 rfl rfl ?_
                    refine y_ld 91 _ j sh170 rfl hj (by omega) dX7_read_90 rfl ?_
                    rw [hla, hL]
                    refine z_iload_n 92 dX7_read_91 rfl rfl ?_
                    refine z_icmp_eq_t 99 dX7_read_92 rfl (by rw [hLw]) ?_
                    refine z_iload_n 100 dX7_read_99 rfl rfl ?_
                    refine z_i2l 101 dX7_read_100 rfl ?_
                    refine z_iload 103 dX7_read_101 rfl rfl ?_
                    refine z_i2l 104 dX7_read_103 rfl ?_
                    refine z_ladd 105 dX7_read_104 rfl ?_
                    refine z_lconst 106 dX7_read_105 vl0 rfl ?_
                    refine z_aload_n 107 dX7_read_106 rfl rfl ?_
                    refine y_getr 110 _ sh158 rfl fl_X7_47 dX7_read_107 rfl ?_
                    refine z_iload_n 111 dX7_read_110 rfl rfl ?_
                    refine y_ld 112 _ j sh171 rfl hj (by omega) dX7_read_111 rfl ?_
                    rw [hle, hz]
                    refine z_iconst 113 dX7_read_112 vi1 rfl ?_
                    refine z_isub 114 dX7_read_113 rfl ?_
                    refine z_i2l 115 dX7_read_114 rfl ?_
                    refine y_cSs 118 (c_in) cs_X7_55 ⟨by decide, by decide, rfl, rfl⟩ (Nat.le_of_ble_eq_true rfl) dX7_read_115 rfl rfl ?_
                    rw [c1]
                    refine z_if_ne_t 125 dX7_read_118 rfl (by rw [bi_t hin]; decide) ?_
                    refine z_iconst 126 dX7_read_125 vi0 rfl ?_
                    refine z_istore 128 [_, _, _, _, _, _, _, _, _] dX7_read_126 (by decide) rfl rfl rfl ?_
                    refine z_iload 130 dX7_read_128 rfl rfl ?_
                    refine z_if_ne_f 133 202 dX7_read_130 rfl (rfl) rfl ?_
                    refine z_iload 135 dX7_read_133 rfl rfl ?_
                    refine z_iconst 136 dX7_read_135 vi3 rfl ?_
                    refine z_iremN 137 rfl (show (3 : Int32) = nI 3 from rfl) (by omega) (by omega) dX7_read_136 rfl ?_
                    refine z_iconst 138 dX7_read_137 vi2 rfl ?_
                    refine z_icmp_ne_f 141 202 dX7_read_138 rfl (by rw [show (3 * i + 2) % 3 = 2 by omega]; rfl) rfl ?_
                    refine z_bipush 143 dX7_read_141 vb40 rfl ?_
                    refine z_iload_n 144 dX7_read_143 rfl rfl ?_
                    refine z_imulN 145 (show (40 : Int32) = nI 40 from rfl) rfl dX7_read_144 rfl ?_
                    refine z_iload_n 146 dX7_read_145 rfl rfl ?_
                    refine z_iadd 147 dX7_read_146 rfl ?_
                    refine z_iload 149 dX7_read_147 rfl rfl ?_
                    refine z_iadd 150 dX7_read_149 rfl ?_
                    rw [eix]
                    refine z_istore 152 [_, _, _, _, _, _, _, _, _] dX7_read_150 (by decide) rfl rfl rfl ?_
                    refine z_aload_n 153 dX7_read_152 rfl rfl ?_
                    refine z_iconst 154 dX7_read_153 vi0 rfl ?_
                    refine z_aload_n 155 dX7_read_154 rfl rfl ?_
                    refine y_getr 158 _ sh158 rfl fl_X7_50 dX7_read_155 rfl ?_
                    refine z_iload 160 dX7_read_158 rfl rfl ?_
                    refine z_iconst 161 dX7_read_160 vi2 rfl ?_
                    refine z_isubN 162 rfl (show (2 : Int32) = nI 2 from rfl) (by omega) dX7_read_161 rfl ?_
                    refine y_ld 163 _ _ sh172 rfl (by omega) (by omega) dX7_read_162 rfl ?_
                    refine z_aload_n 164 dX7_read_163 rfl rfl ?_
                    refine y_getr 167 _ sh158 rfl fl_X7_50 dX7_read_164 rfl ?_
                    refine z_iload 169 dX7_read_167 rfl rfl ?_
                    refine z_iconst 170 dX7_read_169 vi1 rfl ?_
                    refine z_isubN 171 rfl (show (1 : Int32) = nI 1 from rfl) (by omega) dX7_read_170 rfl ?_
                    refine y_ld 172 _ _ sh172 rfl (by omega) (by omega) dX7_read_171 rfl ?_
                    refine z_aload_n 173 dX7_read_172 rfl rfl ?_
                    refine y_getr 176 _ sh158 rfl fl_X7_50 dX7_read_173 rfl ?_
                    refine z_iload 178 dX7_read_176 rfl rfl ?_
                    refine y_ld 179 _ _ sh172 rfl (by omega) (by omega) dX7_read_178 rfl ?_
                    rw [ex _ 2 (by decide) (by omega), ex _ 1 (by decide) (by omega), ex _ 0 (by decide) (by omega)]
                    refine y_cVs 182 _ (c_lendsOn (o := 0) (hdr_rsp' (by decide)) (by decide) okQ') sh158 cv_X7_199 ⟨by decide, by decide, rfl, rfl⟩ (Nat.le_of_ble_eq_true rfl) dX7_read_179 rfl rfl ?_
                    rw [rsp_rsp]
                    refine z_if_ge_t 199 dX7_read_182 rfl (hv) ?_
                    refine z_iinc 202 [_, _, _, _, _, _, _, _, _] dX7_read_199 rfl (show _ + _ = nI (_ + 1) from nI_1 _) (by decide) rfl rfl rfl ?_
                    refine z_iinc 205 [_, _, _, _, _, _, _, _, _] dX7_read_202 rfl (show _ + _ = nI (_ + 1) from nI_1 _) (by decide) rfl rfl rfl ?_
                    refine z_goto 56 dX7_read_205 rfl ?_
                    have key := ih (rdQ (C j) a.toInt i Q) (some (.int (nI (40 * j + (t + 2))))) (okQ_lendQ okQ') ⟨hx'.1.trans hx.1, hx'.2.trans hx.2⟩
                    rw [show (3 * i + 2 + 1) / 3 = i + 1 by omega, show (3 * i + 2 + 1) % 3 = 0 by omega] at key
                    exact key e (fun d hd => absurd hd (by omega))
                  · rw [if_neg hv] at e
                    obtain ⟨g1, g2, g3⟩ := goal0 i Q e.symm
                    have hx' := lendQ_56 (p := rdX (C j) a.toInt i 0) (c := rdX (C j) a.toInt i 1) (n := rdX (C j) a.toInt i 2) okQ'
                    have h165 : hdk (rsp τ 0 (rdQ (C j) a.toInt i Q)) 165 N := hdk_rsp_off hc165 (by decide) (by decide) (hx'.1.trans hx.1) (hx'.2.trans hx.2)
                    have cp2 := cp_rsp h165 (t := 0) (by decide) (by decide) (by decide)
                    have eX : eqc (exq (rsp τ 0 (rdQ (C j) a.toInt i Q)) 0 N) N := exq_c
                    generalize exq (rsp τ 0 (rdQ (C j) a.toInt i Q)) 0 N = F at cp2 eX
                    rw [rsp_rsp] at cp2
                    refine z_iload 58 dX7_read_56 rfl rfl ?_
                    refine z_iconst 59 dX7_read_58 vi3 rfl ?_
                    refine z_iload 61 dX7_read_59 rfl rfl ?_
                    refine z_imulN 62 (show (3 : Int32) = nI 3 from rfl) rfl dX7_read_61 rfl ?_
                    refine z_icmp_ge_f 65 208 dX7_read_62 rfl (nI_ge (by omega) (by omega)) rfl ?_
                    refine z_iload 67 dX7_read_65 rfl rfl ?_
                    refine z_if_ne_f 70 208 dX7_read_67 rfl (rfl) rfl ?_
                    refine z_aload_n 71 dX7_read_70 rfl rfl ?_
                    refine y_getr 74 _ sh158 rfl fl_X7_44 dX7_read_71 rfl ?_
                    refine z_iload_n 75 dX7_read_74 rfl rfl ?_
                    refine y_ld 76 _ j sh170 rfl hj (by omega) dX7_read_75 rfl ?_
                    rw [hla, hL]
                    refine z_bipush 78 dX7_read_76 vbm4 rfl ?_
                    refine z_icmp_ne_t 85 dX7_read_78 rfl (n4) ?_
                    refine z_aload_n 86 dX7_read_85 rfl rfl ?_
                    refine y_getr 89 _ sh158 rfl fl_X7_44 dX7_read_86 rfl ?_
                    refine z_iload_n 90 dX7_read_89 rfl rfl ?_
                    refine y_ld 91 _ j sh170 rfl hj (by omega) dX7_read_90 rfl ?_
                    rw [hla, hL]
                    refine z_iload_n 92 dX7_read_91 rfl rfl ?_
                    refine z_icmp_eq_t 99 dX7_read_92 rfl (by rw [hLw]) ?_
                    refine z_iload_n 100 dX7_read_99 rfl rfl ?_
                    refine z_i2l 101 dX7_read_100 rfl ?_
                    refine z_iload 103 dX7_read_101 rfl rfl ?_
                    refine z_i2l 104 dX7_read_103 rfl ?_
                    refine z_ladd 105 dX7_read_104 rfl ?_
                    refine z_lconst 106 dX7_read_105 vl0 rfl ?_
                    refine z_aload_n 107 dX7_read_106 rfl rfl ?_
                    refine y_getr 110 _ sh158 rfl fl_X7_47 dX7_read_107 rfl ?_
                    refine z_iload_n 111 dX7_read_110 rfl rfl ?_
                    refine y_ld 112 _ j sh171 rfl hj (by omega) dX7_read_111 rfl ?_
                    rw [hle, hz]
                    refine z_iconst 113 dX7_read_112 vi1 rfl ?_
                    refine z_isub 114 dX7_read_113 rfl ?_
                    refine z_i2l 115 dX7_read_114 rfl ?_
                    refine y_cSs 118 (c_in) cs_X7_55 ⟨by decide, by decide, rfl, rfl⟩ (Nat.le_of_ble_eq_true rfl) dX7_read_115 rfl rfl ?_
                    rw [c1]
                    refine z_if_ne_t 125 dX7_read_118 rfl (by rw [bi_t hin]; decide) ?_
                    refine z_iconst 126 dX7_read_125 vi0 rfl ?_
                    refine z_istore 128 [_, _, _, _, _, _, _, _, _] dX7_read_126 (by decide) rfl rfl rfl ?_
                    refine z_iload 130 dX7_read_128 rfl rfl ?_
                    refine z_if_ne_f 133 202 dX7_read_130 rfl (rfl) rfl ?_
                    refine z_iload 135 dX7_read_133 rfl rfl ?_
                    refine z_iconst 136 dX7_read_135 vi3 rfl ?_
                    refine z_iremN 137 rfl (show (3 : Int32) = nI 3 from rfl) (by omega) (by omega) dX7_read_136 rfl ?_
                    refine z_iconst 138 dX7_read_137 vi2 rfl ?_
                    refine z_icmp_ne_f 141 202 dX7_read_138 rfl (by rw [show (3 * i + 2) % 3 = 2 by omega]; rfl) rfl ?_
                    refine z_bipush 143 dX7_read_141 vb40 rfl ?_
                    refine z_iload_n 144 dX7_read_143 rfl rfl ?_
                    refine z_imulN 145 (show (40 : Int32) = nI 40 from rfl) rfl dX7_read_144 rfl ?_
                    refine z_iload_n 146 dX7_read_145 rfl rfl ?_
                    refine z_iadd 147 dX7_read_146 rfl ?_
                    refine z_iload 149 dX7_read_147 rfl rfl ?_
                    refine z_iadd 150 dX7_read_149 rfl ?_
                    rw [eix]
                    refine z_istore 152 [_, _, _, _, _, _, _, _, _] dX7_read_150 (by decide) rfl rfl rfl ?_
                    refine z_aload_n 153 dX7_read_152 rfl rfl ?_
                    refine z_iconst 154 dX7_read_153 vi0 rfl ?_
                    refine z_aload_n 155 dX7_read_154 rfl rfl ?_
                    refine y_getr 158 _ sh158 rfl fl_X7_50 dX7_read_155 rfl ?_
                    refine z_iload 160 dX7_read_158 rfl rfl ?_
                    refine z_iconst 161 dX7_read_160 vi2 rfl ?_
                    refine z_isubN 162 rfl (show (2 : Int32) = nI 2 from rfl) (by omega) dX7_read_161 rfl ?_
                    refine y_ld 163 _ _ sh172 rfl (by omega) (by omega) dX7_read_162 rfl ?_
                    refine z_aload_n 164 dX7_read_163 rfl rfl ?_
                    refine y_getr 167 _ sh158 rfl fl_X7_50 dX7_read_164 rfl ?_
                    refine z_iload 169 dX7_read_167 rfl rfl ?_
                    refine z_iconst 170 dX7_read_169 vi1 rfl ?_
                    refine z_isubN 171 rfl (show (1 : Int32) = nI 1 from rfl) (by omega) dX7_read_170 rfl ?_
                    refine y_ld 172 _ _ sh172 rfl (by omega) (by omega) dX7_read_171 rfl ?_
                    refine z_aload_n 173 dX7_read_172 rfl rfl ?_
                    refine y_getr 176 _ sh158 rfl fl_X7_50 dX7_read_173 rfl ?_
                    refine z_iload 178 dX7_read_176 rfl rfl ?_
                    refine y_ld 179 _ _ sh172 rfl (by omega) (by omega) dX7_read_178 rfl ?_
                    rw [ex _ 2 (by decide) (by omega), ex _ 1 (by decide) (by omega), ex _ 0 (by decide) (by omega)]
                    refine y_cVs 182 _ (c_lendsOn (o := 0) (hdr_rsp' (by decide)) (by decide) okQ') sh158 cv_X7_199 ⟨by decide, by decide, rfl, rfl⟩ (Nat.le_of_ble_eq_true rfl) dX7_read_179 rfl rfl ?_
                    rw [rsp_rsp]
                    refine z_if_ge_f 185 199 dX7_read_182 rfl (hv) rfl ?_
                    refine z_aload_n 186 dX7_read_185 rfl rfl ?_
                    refine z_sipush 189 dX7_read_186 vs165 rfl ?_
                    refine z_iconst 190 dX7_read_189 vi0 rfl ?_
                    refine y_cVv 193 _ (c_copies (f := 165) (t := 0) (by decide) (by decide) (by decide)) sh158 cv_X7_212 ⟨by decide, by decide, rfl, rfl⟩ (Nat.le_of_ble_eq_true rfl) dX7_read_190 rfl rfl ?_
                    rw [cp2]
                    refine z_bipush 195 dX7_read_193 vbm20 rfl ?_
                    refine z_iload 197 dX7_read_195 rfl rfl ?_
                    refine z_isub 198 dX7_read_197 rfl ?_
                    refine z_iret hq rfl dX7_read_198 rfl rfl ?_
                    exact ⟨_, ⟨by rw [g1], by rw [g2]; exact hdk_rsp eX, by rw [g3, upd_self]; exact fun b hb hx => (offR_rsp (hdk_c56 hcτ eX).1 (hdk_c56 hcτ eX).2 b hb hx).trans (hsm b hb)⟩, rfl⟩
                · have hpre' : ∀ d', d' < d + 1 → 0 ≤ a.toInt + 3 * (i : Int) + d' ∧ a.toInt + 3 * (i : Int) + d' < s := fun d' hd' => by
                    by_cases q : d' < d
                    · exact hpre d' q
                    · have : d' = d := by omega
                      subst this; omega
                  have key := ih Q x8 okQ' hx
                  rw [show (3 * i + d + 1) / 3 = i by omega, show (3 * i + d + 1) % 3 = d + 1 by omega] at key
                  have key := key e hpre'
                  refine z_iload 58 dX7_read_56 rfl rfl ?_
                  refine z_iconst 59 dX7_read_58 vi3 rfl ?_
                  refine z_iload 61 dX7_read_59 rfl rfl ?_
                  refine z_imulN 62 (show (3 : Int32) = nI 3 from rfl) rfl dX7_read_61 rfl ?_
                  refine z_icmp_ge_f 65 208 dX7_read_62 rfl (nI_ge (by omega) (by omega)) rfl ?_
                  refine z_iload 67 dX7_read_65 rfl rfl ?_
                  refine z_if_ne_f 70 208 dX7_read_67 rfl (rfl) rfl ?_
                  refine z_aload_n 71 dX7_read_70 rfl rfl ?_
                  refine y_getr 74 _ sh158 rfl fl_X7_44 dX7_read_71 rfl ?_
                  refine z_iload_n 75 dX7_read_74 rfl rfl ?_
                  refine y_ld 76 _ j sh170 rfl hj (by omega) dX7_read_75 rfl ?_
                  rw [hla, hL]
                  refine z_bipush 78 dX7_read_76 vbm4 rfl ?_
                  refine z_icmp_ne_t 85 dX7_read_78 rfl (n4) ?_
                  refine z_aload_n 86 dX7_read_85 rfl rfl ?_
                  refine y_getr 89 _ sh158 rfl fl_X7_44 dX7_read_86 rfl ?_
                  refine z_iload_n 90 dX7_read_89 rfl rfl ?_
                  refine y_ld 91 _ j sh170 rfl hj (by omega) dX7_read_90 rfl ?_
                  rw [hla, hL]
                  refine z_iload_n 92 dX7_read_91 rfl rfl ?_
                  refine z_icmp_eq_t 99 dX7_read_92 rfl (by rw [hLw]) ?_
                  refine z_iload_n 100 dX7_read_99 rfl rfl ?_
                  refine z_i2l 101 dX7_read_100 rfl ?_
                  refine z_iload 103 dX7_read_101 rfl rfl ?_
                  refine z_i2l 104 dX7_read_103 rfl ?_
                  refine z_ladd 105 dX7_read_104 rfl ?_
                  refine z_lconst 106 dX7_read_105 vl0 rfl ?_
                  refine z_aload_n 107 dX7_read_106 rfl rfl ?_
                  refine y_getr 110 _ sh158 rfl fl_X7_47 dX7_read_107 rfl ?_
                  refine z_iload_n 111 dX7_read_110 rfl rfl ?_
                  refine y_ld 112 _ j sh171 rfl hj (by omega) dX7_read_111 rfl ?_
                  rw [hle, hz]
                  refine z_iconst 113 dX7_read_112 vi1 rfl ?_
                  refine z_isub 114 dX7_read_113 rfl ?_
                  refine z_i2l 115 dX7_read_114 rfl ?_
                  refine y_cSs 118 (c_in) cs_X7_55 ⟨by decide, by decide, rfl, rfl⟩ (Nat.le_of_ble_eq_true rfl) dX7_read_115 rfl rfl ?_
                  rw [c1]
                  refine z_if_ne_t 125 dX7_read_118 rfl (by rw [bi_t hin]; decide) ?_
                  refine z_iconst 126 dX7_read_125 vi0 rfl ?_
                  refine z_istore 128 [_, _, _, _, _, _, _, _, _] dX7_read_126 (by decide) rfl rfl rfl ?_
                  refine z_iload 130 dX7_read_128 rfl rfl ?_
                  refine z_if_ne_f 133 202 dX7_read_130 rfl (rfl) rfl ?_
                  refine z_iload 135 dX7_read_133 rfl rfl ?_
                  refine z_iconst 136 dX7_read_135 vi3 rfl ?_
                  refine z_iremN 137 rfl (show (3 : Int32) = nI 3 from rfl) (by omega) (by omega) dX7_read_136 rfl ?_
                  refine z_iconst 138 dX7_read_137 vi2 rfl ?_
                  refine z_icmp_ne_t 202 dX7_read_138 rfl (fun q => absurd (nI_eqL (b := 2) (by omega) (by decide) q) (by omega)) ?_
                  refine z_iinc 205 [_, _, _, _, _, _, _, _, _] dX7_read_202 rfl (show _ + _ = nI (_ + 1) from nI_1 _) (by decide) rfl rfl rfl ?_
                  refine z_goto 56 dX7_read_205 rfl ?_
                  exact key
              · rw [show n' - i = (n' - (i + 1)) + 1 by omega, rdGo, if_neg (fun q => hin (by omega))] at e
                refine z_iload 58 dX7_read_56 rfl rfl ?_
                refine z_iconst 59 dX7_read_58 vi3 rfl ?_
                refine z_iload 61 dX7_read_59 rfl rfl ?_
                refine z_imulN 62 (show (3 : Int32) = nI 3 from rfl) rfl dX7_read_61 rfl ?_
                refine z_icmp_ge_f 65 208 dX7_read_62 rfl (nI_ge (by omega) (by omega)) rfl ?_
                refine z_iload 67 dX7_read_65 rfl rfl ?_
                refine z_if_ne_f 70 208 dX7_read_67 rfl (rfl) rfl ?_
                refine z_aload_n 71 dX7_read_70 rfl rfl ?_
                refine y_getr 74 _ sh158 rfl fl_X7_44 dX7_read_71 rfl ?_
                refine z_iload_n 75 dX7_read_74 rfl rfl ?_
                refine y_ld 76 _ j sh170 rfl hj (by omega) dX7_read_75 rfl ?_
                rw [hla, hL]
                refine z_bipush 78 dX7_read_76 vbm4 rfl ?_
                refine z_icmp_ne_t 85 dX7_read_78 rfl (n4) ?_
                refine z_aload_n 86 dX7_read_85 rfl rfl ?_
                refine y_getr 89 _ sh158 rfl fl_X7_44 dX7_read_86 rfl ?_
                refine z_iload_n 90 dX7_read_89 rfl rfl ?_
                refine y_ld 91 _ j sh170 rfl hj (by omega) dX7_read_90 rfl ?_
                rw [hla, hL]
                refine z_iload_n 92 dX7_read_91 rfl rfl ?_
                refine z_icmp_eq_t 99 dX7_read_92 rfl (by rw [hLw]) ?_
                refine z_iload_n 100 dX7_read_99 rfl rfl ?_
                refine z_i2l 101 dX7_read_100 rfl ?_
                refine z_iload 103 dX7_read_101 rfl rfl ?_
                refine z_i2l 104 dX7_read_103 rfl ?_
                refine z_ladd 105 dX7_read_104 rfl ?_
                refine z_lconst 106 dX7_read_105 vl0 rfl ?_
                refine z_aload_n 107 dX7_read_106 rfl rfl ?_
                refine y_getr 110 _ sh158 rfl fl_X7_47 dX7_read_107 rfl ?_
                refine z_iload_n 111 dX7_read_110 rfl rfl ?_
                refine y_ld 112 _ j sh171 rfl hj (by omega) dX7_read_111 rfl ?_
                rw [hle, hz]
                refine z_iconst 113 dX7_read_112 vi1 rfl ?_
                refine z_isub 114 dX7_read_113 rfl ?_
                refine z_i2l 115 dX7_read_114 rfl ?_
                refine y_cSs 118 (c_in) cs_X7_55 ⟨by decide, by decide, rfl, rfl⟩ (Nat.le_of_ble_eq_true rfl) dX7_read_115 rfl rfl ?_
                rw [c1]
                refine z_if_ne_f 121 125 dX7_read_118 rfl (bi_f hin) rfl ?_
                refine z_iconst 122 dX7_read_121 vi2 rfl ?_
                refine z_goto 126 dX7_read_122 rfl ?_
                refine z_istore 128 [_, _, _, _, _, _, _, _, _] dX7_read_126 (by decide) rfl rfl rfl ?_
                refine z_iload 130 dX7_read_128 rfl rfl ?_
                refine z_if_ne_t 202 dX7_read_130 rfl (by decide) ?_
                skip
                refine z_iinc 205 [_, _, _, _, _, _, _, _, _] dX7_read_202 rfl (show _ + _ = nI (_ + 1) from nI_1 _) (by decide) rfl rfl rfl ?_
                refine z_goto 56 dX7_read_205 rfl ?_
                refine z_iload 58 dX7_read_56 rfl rfl ?_
                refine z_iconst 59 dX7_read_58 vi3 rfl ?_
                refine z_iload 61 dX7_read_59 rfl rfl ?_
                refine z_imulN 62 (show (3 : Int32) = nI 3 from rfl) rfl dX7_read_61 rfl ?_
                refine z_icmp_ge 208 65 dX7_read_62 rfl rfl (fun h62 => ?_) (fun h62 => ?_)
                · skip
                  exact fin 2 i _ _ _ hx e.symm
                · skip
                  refine z_iload 67 dX7_read_65 rfl rfl ?_
                  refine z_if_ne_t 208 dX7_read_67 rfl (by decide) ?_
                  exact fin 2 i _ _ _ hx e.symm
          · have hR1 : R = (some 3, 0, Q0) := by rw [← hR]; simp only [rdAll, hs, if_neg hn0, if_neg hLw]
            have nLw : ¬ nI L = nI w' := fun q => hLw (nI_eqL (by omega) (by omega) q)
            refine z_iload 58 dX7_read_56 rfl rfl ?_
            refine z_iconst 59 dX7_read_58 vi3 rfl ?_
            refine z_iload 61 dX7_read_59 rfl rfl ?_
            refine z_imulN 62 (show (3 : Int32) = nI 3 from rfl) rfl dX7_read_61 rfl ?_
            refine z_icmp_ge_f 65 208 dX7_read_62 rfl (n0n) rfl ?_
            refine z_iload 67 dX7_read_65 rfl rfl ?_
            refine z_if_ne_f 70 208 dX7_read_67 rfl (rfl) rfl ?_
            refine z_aload_n 71 dX7_read_70 rfl rfl ?_
            refine y_getr 74 _ sh158 rfl fl_X7_44 dX7_read_71 rfl ?_
            refine z_iload_n 75 dX7_read_74 rfl rfl ?_
            refine y_ld 76 _ j sh170 rfl hj (by omega) dX7_read_75 rfl ?_
            rw [hla, hL]
            refine z_bipush 78 dX7_read_76 vbm4 rfl ?_
            refine z_icmp_ne_t 85 dX7_read_78 rfl (n4) ?_
            refine z_aload_n 86 dX7_read_85 rfl rfl ?_
            refine y_getr 89 _ sh158 rfl fl_X7_44 dX7_read_86 rfl ?_
            refine z_iload_n 90 dX7_read_89 rfl rfl ?_
            refine y_ld 91 _ j sh170 rfl hj (by omega) dX7_read_90 rfl ?_
            rw [hla, hL]
            refine z_iload_n 92 dX7_read_91 rfl rfl ?_
            refine z_icmp_eq_f 95 99 dX7_read_92 rfl (nLw) rfl ?_
            refine z_iconst 96 dX7_read_95 vi3 rfl ?_
            refine z_goto 126 dX7_read_96 rfl ?_
            refine z_istore 128 [_, _, _, _, _, _, _, _, _] dX7_read_126 (by decide) rfl rfl rfl ?_
            refine z_iload 130 dX7_read_128 rfl rfl ?_
            refine z_if_ne_t 202 dX7_read_130 rfl (by decide) ?_
            skip
            refine z_iinc 205 [_, _, _, _, _, _, _, _, _] dX7_read_202 rfl (show _ + _ = nI (_ + 1) from nI_1 _) (by decide) rfl rfl rfl ?_
            refine z_goto 56 dX7_read_205 rfl ?_
            refine z_iload 58 dX7_read_56 rfl rfl ?_
            refine z_iconst 59 dX7_read_58 vi3 rfl ?_
            refine z_iload 61 dX7_read_59 rfl rfl ?_
            refine z_imulN 62 (show (3 : Int32) = nI 3 from rfl) rfl dX7_read_61 rfl ?_
            refine z_icmp_ge 208 65 dX7_read_62 rfl rfl (fun h62 => ?_) (fun h62 => ?_)
            · skip
              exact fin 3 0 _ _ _ hq0 hR1
            · skip
              refine z_iload 67 dX7_read_65 rfl rfl ?_
              refine z_if_ne_t 208 dX7_read_67 rfl (by decide) ?_
              exact fin 3 0 _ _ _ hq0 hR1
      · have no := no (fun q => h3 q.2.2)
        refine z_iload_n 1 dX7_read_0 rfl rfl ?_
        refine z_i2l 2 dX7_read_1 rfl ?_
        refine z_lconst 3 dX7_read_2 vl0 rfl ?_
        refine z_ldc2 6 kc_X7_220 dX7_read_3 rfl ?_
        refine y_cSs 9 (c_in) cs_X7_55 ⟨by decide, by decide, rfl, rfl⟩ (Nat.le_of_ble_eq_true rfl) dX7_read_6 rfl rfl ?_
        rw [b1]
        refine z_if_eq_f 12 37 dX7_read_9 rfl (by rw [bi_t h1]; decide) rfl ?_
        refine z_iload_n 13 dX7_read_12 rfl rfl ?_
        refine z_i2l 14 dX7_read_13 rfl ?_
        refine z_lconst 15 dX7_read_14 vl0 rfl ?_
        refine z_ldc2 18 kc_X7_225 dX7_read_15 rfl ?_
        refine y_cSs 21 (c_in) cs_X7_55 ⟨by decide, by decide, rfl, rfl⟩ (Nat.le_of_ble_eq_true rfl) dX7_read_18 rfl rfl ?_
        rw [b2]
        refine z_if_eq_f 24 37 dX7_read_21 rfl (by rw [bi_t h2]; decide) rfl ?_
        refine z_iload 26 dX7_read_24 rfl rfl ?_
        refine z_i2l 27 dX7_read_26 rfl ?_
        refine z_lconst 28 dX7_read_27 vl0 rfl ?_
        refine z_ldc2 31 kc_X7_262 dX7_read_28 rfl ?_
        refine y_cSs 34 (c_in) cs_X7_55 ⟨by decide, by decide, rfl, rfl⟩ (Nat.le_of_ble_eq_true rfl) dX7_read_31 rfl rfl ?_
        rw [b3]
        refine z_if_ne_f 37 39 dX7_read_34 rfl (bi_f h3) rfl ?_
        refine z_iconst 38 dX7_read_37 vim1 rfl ?_
        refine z_iret hq rfl dX7_read_38 rfl rfl ?_
        exact no
    · have no := no (fun q => h2 q.2.1)
      refine z_iload_n 1 dX7_read_0 rfl rfl ?_
      refine z_i2l 2 dX7_read_1 rfl ?_
      refine z_lconst 3 dX7_read_2 vl0 rfl ?_
      refine z_ldc2 6 kc_X7_220 dX7_read_3 rfl ?_
      refine y_cSs 9 (c_in) cs_X7_55 ⟨by decide, by decide, rfl, rfl⟩ (Nat.le_of_ble_eq_true rfl) dX7_read_6 rfl rfl ?_
      rw [b1]
      refine z_if_eq_f 12 37 dX7_read_9 rfl (by rw [bi_t h1]; decide) rfl ?_
      refine z_iload_n 13 dX7_read_12 rfl rfl ?_
      refine z_i2l 14 dX7_read_13 rfl ?_
      refine z_lconst 15 dX7_read_14 vl0 rfl ?_
      refine z_ldc2 18 kc_X7_225 dX7_read_15 rfl ?_
      refine y_cSs 21 (c_in) cs_X7_55 ⟨by decide, by decide, rfl, rfl⟩ (Nat.le_of_ble_eq_true rfl) dX7_read_18 rfl rfl ?_
      rw [b2]
      refine z_if_eq_t 37 dX7_read_21 rfl (bi_f h2) ?_
      refine z_iconst 38 dX7_read_37 vim1 rfl ?_
      refine z_iret hq rfl dX7_read_38 rfl rfl ?_
      exact no
  · have no := no (fun q => h1 q.1)
    refine z_iload_n 1 dX7_read_0 rfl rfl ?_
    refine z_i2l 2 dX7_read_1 rfl ?_
    refine z_lconst 3 dX7_read_2 vl0 rfl ?_
    refine z_ldc2 6 kc_X7_220 dX7_read_3 rfl ?_
    refine y_cSs 9 (c_in) cs_X7_55 ⟨by decide, by decide, rfl, rfl⟩ (Nat.le_of_ble_eq_true rfl) dX7_read_6 rfl rfl ?_
    rw [b1]
    refine z_if_eq_t 37 dX7_read_9 rfl (bi_f h1) ?_
    refine z_iconst 38 dX7_read_37 vim1 rfl ?_
    refine z_iret hq rfl dX7_read_38 rfl rfl ?_
    exact no

