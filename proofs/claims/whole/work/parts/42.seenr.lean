/-! ===== the reference's isAsSeen ===== -/
/-- nothing but a row of hues and the page of trial days has changed -/
def offH (lo n : Nat) (τ σ : Nat → Int32) : Prop := ∀ a, (a < 67200 + lo ∨ 67200 + lo + n ≤ a) → (a < 63820 ∨ 63875 ≤ a) → a ≠ 63220 → (a < 65600 ∨ 65604 ≤ a) → τ a = σ a
theorem offH_rsp {σ τ : Nat → Int32} {lo n : Nat} {R N : Pg} (h : offH lo n τ σ) (hc : hdk σ 0 N) (h6 : R 56 = N 56) (h7 : R 57 = N 57) : offH lo n (rsp τ 220 R) σ := fun a h1 h2 h3 h4 => by
  by_cases e1 : a = 63201
  · subst e1; exact (ov_at (pR_at (o := 220) (i := 56) (by decide) (by decide))).trans (by rw [h6]; exact (hc 56 (by decide)).symm)
  by_cases e2 : a = 63202
  · subst e2; exact (ov_at (pR_at (o := 220) (i := 57) (by decide) (by decide))).trans (by rw [h7]; exact (hc 57 (by decide)).symm)
  exact (ov_off (pR_off (by omega) (by omega) (by omega))).trans (h a h1 h2 h3 h4)
def hHB (τ : Nat → Int32) (row : Nat) (E : Pg) (m k : Nat) : Prop := ∀ k', k' < k → ∀ p, p < m → τ (400 * 168 + 0 + (84 * row + 4 * k' + p)) = nI (hueQ (daysA E k') p)
theorem pR220_hb {i : Nat} : pR 220 (400 * 168 + 0 + i) = none := pR_off (by omega) (by omega) (by omega)
theorem bi_and {a b : Bool} : bi ((a && b) = true) = if a = true then bi (b = true) else 0 := by
  cases a <;> cases b <;> rfl
set_option maxRecDepth 100000 in
set_option maxHeartbeats 2000000 in
theorem c_isAsSeen {l : Launch} {G : zG} {σ : Nat → Int32} {sn row : Nat} {s : Nat → Nat} {N : Pg} (hS : hSR σ sn s) (os : okS sn s) (hc : hdk σ 0 N) (ok : okQ N) (hr : row < 4) : zMet l yX7_isAsSeen mX7_isAsSeen [.ref (zGa G 158), .int (nI row)] G (zW G σ) (zP G (fun v σ' => v = some (.int (bi (fitA sn s N 21 = true))) ∧ hHB σ' row N (N 57) 21 ∧ offH (84 * row) 84 σ' σ)) := by
  have h6 := os.1
  have b5 := ok.nc
  have b4 := ok.np
  have eX : eqc (exq σ 220 N) N := exq_c
  have cpe := cp_rsp hc (t := 220) (by decide) (by decide) (by decide)
  generalize exq σ 220 N = E at eX cpe
  have okE := ok.eqc eX
  have cnt : ∀ k, daysA E k 56 = N 56 ∧ daysA E k 57 = N 57 := fun k => ⟨(daysA_56 okE k).1.trans (eX 56 (by decide)), (daysA_56 okE k).2.1.trans (eX 57 (by decide))⟩
  have hdr_rsp : ∀ {τ : Nat → Int32} {R : Pg}, hdr (rsp τ 220 R) 220 R := hdr_rsp' (by decide)
  have off0 : ∀ τ R a, a ≠ 63201 → a ≠ 63202 → (a < 63820 ∨ 63875 ≤ a) → a ≠ 63220 → (a < 65600 ∨ 65604 ≤ a) → rsp τ 220 R a = τ a := fun τ R a e1 e2 e3 e4 e5 => ov_off (pR_off (by omega) (by omega) (by omega))
  have hS' : ∀ τ R, offH (84 * row) 84 τ σ → hSR (rsp τ 220 R) sn s := fun τ R h => ⟨(off0 τ R _ (by omega) (by omega) (by omega) (by omega) (by omega)).trans ((h _ (by omega) (by omega) (by omega) (by omega)).trans hS.1), fun i hi => (off0 τ R _ (by omega) (by omega) (by omega) (by omega) (by omega)).trans ((h _ (by omega) (by omega) (by omega) (by omega)).trans (hS.2 i hi))⟩
  refine zMet.of (by decide) rfl (Nat.le_of_ble_eq_true rfl) (Or.inr rfl) fun X hX hq => ?_
  subst hX
  show Y G X mX7_isAsSeen σ 0 [some (.ref (zGa G 158)), some (.int (nI row)), none, none, none] []
  refine z_aload_n 1 dX7_isAsSeen_0 rfl rfl ?_
  refine z_iconst 2 dX7_isAsSeen_1 vi0 rfl ?_
  refine z_sipush 5 dX7_isAsSeen_2 vs220 rfl ?_
  refine y_cVv 8 _ (c_copies (f := 0) (t := 220) (by decide) (by decide) (by decide)) sh158 cv_X7_212 ⟨by decide, by decide, rfl, rfl⟩ (Nat.le_of_ble_eq_true rfl) dX7_isAsSeen_5 rfl rfl ?_
  refine z_iconst 9 dX7_isAsSeen_8 vi1 rfl ?_
  refine z_istore_n 10 [_, _, _, _, _] dX7_isAsSeen_9 (by decide) rfl rfl rfl ?_
  refine z_iconst 11 dX7_isAsSeen_10 vi0 rfl ?_
  refine z_istore_n 12 [_, _, _, _, _] dX7_isAsSeen_11 (by decide) rfl rfl rfl ?_
  rw [cpe]
  refine zup (P := fun k => ∀ τ u, offH (84 * row) 84 τ σ → hHB τ row E (N 57) k → Y G X mX7_isAsSeen (rsp τ 220 (daysA E k)) 12 [some (.ref (zGa G 158)), some (.int (nI row)), some (.int (bi (fitA sn s E k = true))), some (.int (nI k)), u] []) 21 ?_ (fun k hk ih => ?_) 0 (Nat.zero_le _) _ _ (fun _ _ _ _ _ => rfl) (fun k' hk' => by omega)
  · intro τ u hτ hb
    have e : fitA sn s E 21 = fitA sn s N 21 := fitA_c eX ok os 21
    refine z_iload_n 13 dX7_isAsSeen_12 rfl rfl ?_
    refine z_bipush 15 dX7_isAsSeen_13 vb20 rfl ?_
    refine z_icmp_gt_t 148 dX7_isAsSeen_15 rfl (by decide) ?_
    refine z_iload_n 149 dX7_isAsSeen_148 rfl rfl ?_
    refine z_zret hq rfl bi_nar dX7_isAsSeen_149 rfl rfl ?_
    exact ⟨_, ⟨by rw [e], fun k' hk' p hp => (ov_off pR220_hb).trans ((hb k' hk' p hp).trans (by rw [hueQ_c (daysA_c eX ok k') (okQ_daysA ok k').nc (show p < 4 by omega)])), offH_rsp hτ hc (cnt 21).1 (cnt 21).2⟩, rfl⟩
  · intro τ u hτ hb
    have okd := okQ_daysA okE k
    have h57 := (cnt k).2
    refine z_iload_n 13 dX7_isAsSeen_12 rfl rfl ?_
    refine z_bipush 15 dX7_isAsSeen_13 vb20 rfl ?_
    refine z_icmp_gt_f 18 148 dX7_isAsSeen_15 rfl (nI_nlt (a := 20) (b := k) (by omega) (by omega)) rfl ?_
    refine z_iconst 19 dX7_isAsSeen_18 vi0 rfl ?_
    refine z_istore 21 [_, _, _, _, _] dX7_isAsSeen_19 (by decide) rfl rfl rfl ?_
    refine zup (P := fun p => ∀ τ, offH (84 * row) 84 τ σ → hHB τ row E (N 57) k → (∀ p', p' < p → τ (400 * 168 + 0 + (84 * row + 4 * k + p')) = nI (hueQ (daysA E k) p')) → Y G X mX7_isAsSeen (rsp τ 220 (daysA E k)) 21 [some (.ref (zGa G 158)), some (.int (nI row)), some (.int (bi (fitA sn s E k = true))), some (.int (nI k)), some (.int (nI p))] []) (N 57) ?_ (fun p hp ih2 => ?_) 0 (Nat.zero_le _) τ hτ hb (fun p' hp' => by omega)
    · intro τ hτ hb hp
      have hSr := hS' τ (daysA E k) hτ
      have hb' : hHB τ row E (N 57) (k + 1) := fun k' hk' p hp' => by
        by_cases q : k' = k
        · subst q; exact hp p hp'
        · exact hb k' (by omega) p hp'
      refine z_iload 23 dX7_isAsSeen_21 rfl rfl ?_
      refine z_aload_n 24 dX7_isAsSeen_23 rfl rfl ?_
      refine m_get 27 hdr_rsp rfl (by decide) fl_X7_145 dX7_isAsSeen_24 rfl ?_
      rw [h57]
      refine z_icmp_ge_t 61 dX7_isAsSeen_27 rfl (Int32.le_refl _) ?_
      refine z_iconst 62 dX7_isAsSeen_61 vi0 rfl ?_
      refine z_istore 64 [_, _, _, _, _] dX7_isAsSeen_62 (by decide) rfl rfl rfl ?_
      have e0 : (fitA sn s E k = true) = ((fitA sn s E k && fitD s (daysA E k) k 0) = true) := by rw [fitD, Bool.and_true]
      rw [show bi (fitA sn s E k = true) = bi ((fitA sn s E k && fitD s (daysA E k) k 0) = true) from bi_cg (by rw [e0])]
      refine zup (P := fun e => Y G X mX7_isAsSeen (rsp τ 220 (daysA E k)) 64 [some (.ref (zGa G 158)), some (.int (nI row)), some (.int (bi ((fitA sn s E k && fitD s (daysA E k) k e) = true))), some (.int (nI k)), some (.int (nI e))] []) sn ?_ (fun e he ih3 => ?_) 0 (Nat.zero_le _)
      · have ih' := ih τ (some (.int (nI sn))) hτ hb'
        refine z_iload 66 dX7_isAsSeen_64 rfl rfl ?_
        refine z_aload_n 67 dX7_isAsSeen_66 rfl rfl ?_
        refine y_get 70 _ sh158 rfl fl_X7_148 dX7_isAsSeen_67 rfl ?_
        rw [hSr.1]
        refine z_icmp_ge_t 134 dX7_isAsSeen_70 rfl (Int32.le_refl _) ?_
        refine z_aload_n 135 dX7_isAsSeen_134 rfl rfl ?_
        refine z_sipush 138 dX7_isAsSeen_135 vs220 rfl ?_
        refine z_iconst 139 dX7_isAsSeen_138 vi1 rfl ?_
        refine y_cVv 142 _ (c_dayOn (o := 220) (t := 1) hdr_rsp (by decide) okd (by decide)) sh158 cv_X7_208 ⟨by decide, by decide, rfl, rfl⟩ (Nat.le_of_ble_eq_true rfl) dX7_isAsSeen_139 rfl rfl ?_
        rw [rsp_rsp]
        refine z_iinc 145 [_, _, _, _, _] dX7_isAsSeen_142 rfl (show _ + _ = nI (_ + 1) from nI_1 _) (by decide) rfl rfl rfl ?_
        refine z_goto 12 dX7_isAsSeen_145 rfl ?_
        exact ih'
      · have b := os.2 e he
        have hq9 := hueQ_lt okd b.2.1
        have nx : fitD s (daysA E k) k (e + 1) = (fitD s (daysA E k) k e && fitE s (daysA E k) k e) := rfl
        rw [nx, ← Bool.and_assoc] at ih3
        generalize (fitA sn s E k && fitD s (daysA E k) k e) = was at ih3 ⊢
        refine z_iload 66 dX7_isAsSeen_64 rfl rfl ?_
        refine z_aload_n 67 dX7_isAsSeen_66 rfl rfl ?_
        refine y_get 70 _ sh158 rfl fl_X7_148 dX7_isAsSeen_67 rfl ?_
        rw [hSr.1]
        refine z_icmp_ge_f 73 134 dX7_isAsSeen_70 rfl (nI_ge he (by omega)) rfl ?_
        refine z_iload_n 74 dX7_isAsSeen_73 rfl rfl ?_
        refine z_if_eq 126 77 dX7_isAsSeen_74 rfl rfl (fun h74 => ?_) (fun h74 => ?_)
        · skip
          have z : bi ((was && fitE s (daysA E k) k e) = true) = 0 := by rw [bi_and, if_neg (bi0.mp h74)]
          refine z_iconst 127 dX7_isAsSeen_126 vi0 rfl ?_
          refine z_istore_n 128 [_, _, _, _, _] dX7_isAsSeen_127 (by decide) rfl rfl rfl ?_
          refine z_iinc 131 [_, _, _, _, _] dX7_isAsSeen_128 rfl (show _ + _ = nI (_ + 1) from nI_1 _) (by decide) rfl rfl rfl ?_
          refine z_goto 64 dX7_isAsSeen_131 rfl ?_
          rw [z] at ih3
          exact ih3
        · skip
          refine z_aload_n 78 dX7_isAsSeen_77 rfl rfl ?_
          refine y_getr 81 _ sh158 rfl fl_X7_34 dX7_isAsSeen_78 rfl ?_
          refine z_iconst 82 dX7_isAsSeen_81 vi3 rfl ?_
          refine z_iload 84 dX7_isAsSeen_82 rfl rfl ?_
          refine z_imulN 85 (show (3 : Int32) = nI 3 from rfl) rfl dX7_isAsSeen_84 rfl ?_
          refine y_ld 86 _ (3 * e) sh167 rfl (by omega) (by omega) dX7_isAsSeen_85 rfl ?_
          rw [hSr.2 _ (by omega)]
          refine z_iload_n 87 dX7_isAsSeen_86 rfl rfl ?_
          refine z_icmp_ne 122 90 dX7_isAsSeen_87 rfl rfl (fun h87 => ?_) (fun h87 => ?_)
          · skip
            have z : bi ((was && fitE s (daysA E k) k e) = true) = 1 := by rw [bi_and, if_pos (bin0.mp h74), fitE, decide_eq_true (show s (3 * e) ≠ k from fun q => h87 (by rw [q])), Bool.true_or]; rfl
            refine z_iconst 123 dX7_isAsSeen_122 vi1 rfl ?_
            refine z_goto 127 dX7_isAsSeen_123 rfl ?_
            refine z_istore_n 128 [_, _, _, _, _] dX7_isAsSeen_127 (by decide) rfl rfl rfl ?_
            refine z_iinc 131 [_, _, _, _, _] dX7_isAsSeen_128 rfl (show _ + _ = nI (_ + 1) from nI_1 _) (by decide) rfl rfl rfl ?_
            refine z_goto 64 dX7_isAsSeen_131 rfl ?_
            rw [z] at ih3
            exact ih3
          · skip
            have eq : s (3 * e) = k := nI_eqL (by omega) (by omega) h87
            refine z_aload_n 91 dX7_isAsSeen_90 rfl rfl ?_
            refine z_sipush 94 dX7_isAsSeen_91 vs220 rfl ?_
            refine z_aload_n 95 dX7_isAsSeen_94 rfl rfl ?_
            refine y_getr 98 _ sh158 rfl fl_X7_34 dX7_isAsSeen_95 rfl ?_
            refine z_iconst 99 dX7_isAsSeen_98 vi3 rfl ?_
            refine z_iload 101 dX7_isAsSeen_99 rfl rfl ?_
            refine z_imulN 102 (show (3 : Int32) = nI 3 from rfl) rfl dX7_isAsSeen_101 rfl ?_
            refine z_iconst 103 dX7_isAsSeen_102 vi1 rfl ?_
            refine z_iaddN 104 rfl (show (1 : Int32) = nI 1 from rfl) dX7_isAsSeen_103 rfl ?_
            refine y_ld 105 _ (3 * e + 1) sh167 rfl (by omega) (by omega) dX7_isAsSeen_104 rfl ?_
            rw [hSr.2 _ (by omega)]
            refine y_cVs 108 _ (c_hueOn (o := 220) hdr_rsp (by decide) okd b.2.1) sh158 cv_X7_185 ⟨by decide, by decide, rfl, rfl⟩ (Nat.le_of_ble_eq_true rfl) dX7_isAsSeen_105 rfl rfl ?_
            refine z_aload_n 109 dX7_isAsSeen_108 rfl rfl ?_
            refine y_getr 112 _ sh158 rfl fl_X7_34 dX7_isAsSeen_109 rfl ?_
            refine z_iconst 113 dX7_isAsSeen_112 vi3 rfl ?_
            refine z_iload 115 dX7_isAsSeen_113 rfl rfl ?_
            refine z_imulN 116 (show (3 : Int32) = nI 3 from rfl) rfl dX7_isAsSeen_115 rfl ?_
            refine z_iconst 117 dX7_isAsSeen_116 vi2 rfl ?_
            refine z_iaddN 118 rfl (show (2 : Int32) = nI 2 from rfl) dX7_isAsSeen_117 rfl ?_
            refine y_ld 119 _ (3 * e + 2) sh167 rfl (by omega) (by omega) dX7_isAsSeen_118 rfl ?_
            rw [hSr.2 _ (by omega)]
            refine z_icmp_ne 126 122 dX7_isAsSeen_119 rfl rfl (fun h119 => ?_) (fun h119 => ?_)
            · skip
              have z : bi ((was && fitE s (daysA E k) k e) = true) = 0 := by rw [bi_and, if_pos (bin0.mp h74), fitE, decide_eq_false (fun q => q eq), decide_eq_false (fun q => h119 (by rw [q])), Bool.or_false]; rfl
              refine z_iconst 127 dX7_isAsSeen_126 vi0 rfl ?_
              refine z_istore_n 128 [_, _, _, _, _] dX7_isAsSeen_127 (by decide) rfl rfl rfl ?_
              refine z_iinc 131 [_, _, _, _, _] dX7_isAsSeen_128 rfl (show _ + _ = nI (_ + 1) from nI_1 _) (by decide) rfl rfl rfl ?_
              refine z_goto 64 dX7_isAsSeen_131 rfl ?_
              rw [z] at ih3
              exact ih3
            · skip
              have z : bi ((was && fitE s (daysA E k) k e) = true) = 1 := by rw [bi_and, if_pos (bin0.mp h74), fitE, decide_eq_true (nI_eqL (by omega) (by omega) h119), Bool.or_true]; rfl
              refine z_iconst 123 dX7_isAsSeen_122 vi1 rfl ?_
              refine z_goto 127 dX7_isAsSeen_123 rfl ?_
              refine z_istore_n 128 [_, _, _, _, _] dX7_isAsSeen_127 (by decide) rfl rfl rfl ?_
              refine z_iinc 131 [_, _, _, _, _] dX7_isAsSeen_128 rfl (show _ + _ = nI (_ + 1) from nI_1 _) (by decide) rfl rfl rfl ?_
              refine z_goto 64 dX7_isAsSeen_131 rfl ?_
              rw [z] at ih3
              exact ih3
    · intro τ hτ hb hp'
      refine z_iload 23 dX7_isAsSeen_21 rfl rfl ?_
      refine z_aload_n 24 dX7_isAsSeen_23 rfl rfl ?_
      refine m_get 27 hdr_rsp rfl (by decide) fl_X7_145 dX7_isAsSeen_24 rfl ?_
      rw [h57]
      refine z_icmp_ge_f 30 61 dX7_isAsSeen_27 rfl (nI_ge hp (by omega)) rfl ?_
      refine z_aload_n 31 dX7_isAsSeen_30 rfl rfl ?_
      refine y_getr 34 _ sh158 rfl fl_X7_37 dX7_isAsSeen_31 rfl ?_
      refine z_bipush 36 dX7_isAsSeen_34 vb84 rfl ?_
      refine z_iload_n 37 dX7_isAsSeen_36 rfl rfl ?_
      refine z_imulN 38 (show (84 : Int32) = nI 84 from rfl) rfl dX7_isAsSeen_37 rfl ?_
      refine z_iconst 39 dX7_isAsSeen_38 vi4 rfl ?_
      refine z_iload_n 40 dX7_isAsSeen_39 rfl rfl ?_
      refine z_imulN 41 (show (4 : Int32) = nI 4 from rfl) rfl dX7_isAsSeen_40 rfl ?_
      refine z_iaddN 42 rfl rfl dX7_isAsSeen_41 rfl ?_
      refine z_iload 44 dX7_isAsSeen_42 rfl rfl ?_
      refine z_iaddN 45 rfl rfl dX7_isAsSeen_44 rfl ?_
      refine z_aload_n 46 dX7_isAsSeen_45 rfl rfl ?_
      refine z_sipush 49 dX7_isAsSeen_46 vs220 rfl ?_
      refine z_iload 51 dX7_isAsSeen_49 rfl rfl ?_
      refine y_cVs 54 _ (c_hueOn (o := 220) hdr_rsp (by decide) okd (by omega)) sh158 cv_X7_185 ⟨by decide, by decide, rfl, rfl⟩ (Nat.le_of_ble_eq_true rfl) dX7_isAsSeen_51 rfl rfl ?_
      refine y_st 55 _ (84 * row + 4 * k + p) sh168 rfl (by omega) (by omega) dX7_isAsSeen_54 rfl ?_
      refine z_iinc 58 [_, _, _, _, _] dX7_isAsSeen_55 rfl (show _ + _ = nI (_ + 1) from nI_1 _) (by decide) rfl rfl rfl ?_
      refine z_goto 21 dX7_isAsSeen_58 rfl ?_
      rw [rsp_upd_off pR220_hb]
      exact ih2 _ (fun a h1 h2 h3 h4 => (pk_un (by omega)).trans (hτ a h1 h2 h3 h4)) (fun k' hk' q hq => (pk_un (by omega)).trans (hb k' hk' q hq)) (fun q hq => by
          by_cases z : q = p
          · subst z; exact pk_us
          · exact (pk_un (by omega)).trans (hp' q (by omega)))
/-- so too, but for one number of the page that stands -/
def offK (i : Nat) (τ σ : Nat → Int32) : Prop := ∀ a, a ≠ 63600 + i → (a < 67200 ∨ 67536 ≤ a) → (a < 63820 ∨ 63875 ≤ a) → a ≠ 63220 → (a < 65600 ∨ 65604 ≤ a) → τ a = σ a
theorem offK_same {σ τ : Nat → Int32} {i : Nat} (h : offK i τ σ) : same (upd τ (63600 + i) (σ (63600 + i))) σ := fun a ha => by
  by_cases e : a = 63600 + i
  · rw [e, pk_us]
  · rw [pk_un e]
    have hs : ¬ ((63765 ≤ a ∧ a < 64400) ∨ (65600 ≤ a ∧ a < 66800) ∨ (67200 ≤ a ∧ a < 67600) ∨ a = 63220) := by
      intro q
      have : scr a = true := by simp only [scr, Bool.or_eq_true, Bool.and_eq_true, decide_eq_true_eq, beq_iff_eq]; omega
      rw [this] at ha; cases ha
    exact h a e (by omega) (by omega) (by omega) (by omega)
theorem hSR_K {σ τ : Nat → Int32} {sn i : Nat} {s : Nat → Nat} (h : hSR σ sn s) (h6 : sn ≤ 6) (hi : i < 55) (hk : offK i τ σ) : hSR τ sn s := ⟨(hk _ (by omega) (by omega) (by omega) (by omega) (by omega)).trans h.1, fun j hj => (hk _ (by omega) (by omega) (by omega) (by omega) (by omega)).trans (h.2 j hj)⟩
theorem hdk_K {σ τ : Nat → Int32} {i v : Nat} {N : Pg} (h : hdk σ 0 N) (hi : i < 55) (hk : offK i τ σ) : hdk (upd τ (63600 + i) (nI v)) 0 (un N i v) := fun j hj => by
  by_cases e : j = i
  · subst e; rw [un_s]; simp only [aR, if_pos hi]; exact pk_us
  · rw [un_n e, ← h j hj]
    have hj' : aR 0 j ≠ 63600 + i := by simp only [aR]; repeat' split
                                        all_goals omega
    rw [pk_un hj']
    have h1 : aR 0 j < 63655 := by simp only [aR]; repeat' split
                                   all_goals omega
    have h2 : aR 0 j ≠ 63220 := by simp only [aR]; repeat' split
                                   all_goals omega
    exact hk _ hj' (by omega) (by omega) h2 (by omega)
def hHK (τ : Nat → Int32) (N : Pg) (c k : Nat) : Prop := ∀ j, j < k → ∀ k', k' < 21 → ∀ p, p < N 57 → τ (400 * 168 + 0 + (84 * j + 4 * k' + p)) = nI (hueQ (daysA (kindQ N c j) k') p)
set_option maxRecDepth 100000 in
set_option maxHeartbeats 2000000 in
theorem c_kindsOf {l : Launch} {G : zG} {σ : Nat → Int32} {N : Pg} {sn c : Nat} {s : Nat → Nat} (hc : hdk σ 0 N) (ok : okQ N) (hS : hSR σ sn s) (os : okS sn s) (h5 : c < 5) : zMet l yX7_kindsOf mX7_kindsOf [.ref (zGa G 158), .int (nI c)] G (zW G σ) (zP G (fun v σ' => v = some (.int (kB (fitK sn s N c) 4)) ∧ same σ' σ ∧ hHK σ' N c 4)) := by
  have b4 := ok.np
  refine zMet.of (by decide) rfl (Nat.le_of_ble_eq_true rfl) (Or.inr rfl) fun X hX hq => ?_
  subst hX
  show Y G X mX7_kindsOf σ 0 [some (.ref (zGa G 158)), some (.int (nI c)), none, none, none] []
  refine z_aload_n 1 dX7_kindsOf_0 rfl rfl ?_
  refine y_getr 4 _ sh158 rfl fl_X7_7 dX7_kindsOf_1 rfl ?_
  refine z_iload_n 5 dX7_kindsOf_4 rfl rfl ?_
  refine y_ld 6 _ c sh159 rfl (by omega) (by omega) dX7_kindsOf_5 rfl ?_
  refine z_istore_n 7 [_, _, _, _, _] dX7_kindsOf_6 (by decide) rfl rfl rfl ?_
  refine z_iconst 8 dX7_kindsOf_7 vi0 rfl ?_
  refine z_istore_n 9 [_, _, _, _, _] dX7_kindsOf_8 (by decide) rfl rfl rfl ?_
  refine z_iconst 10 dX7_kindsOf_9 vi0 rfl ?_
  refine z_istore 12 [_, _, _, _, _] dX7_kindsOf_10 (by decide) rfl rfl rfl ?_
  refine zup (P := fun k => ∀ τ, offK c τ σ → hHK τ N c k → Y G X mX7_kindsOf τ 12 [some (.ref (zGa G 158)), some (.int (nI c)), some (.int (σ (400 * 159 + 0 + c))), some (.int (kB (fitK sn s N c) k)), some (.int (nI k))] []) 4 ?_ (fun k hk ih => ?_) 0 (Nat.zero_le _) _ (fun _ _ _ _ _ _ => rfl) (fun j hj => by omega)
  · intro τ hτ hh
    refine z_iload 14 dX7_kindsOf_12 rfl rfl ?_
    refine z_iconst 15 dX7_kindsOf_14 vi4 rfl ?_
    refine z_icmp_ge_t 52 dX7_kindsOf_15 rfl (Int32.le_refl _) ?_
    refine z_aload_n 53 dX7_kindsOf_52 rfl rfl ?_
    refine y_getr 56 _ sh158 rfl fl_X7_7 dX7_kindsOf_53 rfl ?_
    refine z_iload_n 57 dX7_kindsOf_56 rfl rfl ?_
    refine z_iload_n 58 dX7_kindsOf_57 rfl rfl ?_
    refine y_st 59 _ c sh159 rfl (by omega) (by omega) dX7_kindsOf_58 rfl ?_
    refine z_iload_n 60 dX7_kindsOf_59 rfl rfl ?_
    refine z_iret hq rfl dX7_kindsOf_60 rfl rfl ?_
    exact ⟨_, ⟨rfl, offK_same hτ, fun j hj k' hk' p hp => (pk_un (by omega)).trans (hh j hj k' hk' p hp)⟩, rfl⟩
  · intro τ hτ hh
    have hN := hdk_K (v := k) hc (show c < 55 by omega) hτ
    have okk := okQ_kind (k := k) ok h5 hk
    have e4 : eqc (un N c k) (kindQ N c k) := un_c (eqc.symm eqc_nrm)
    have oku := okk.eqc e4
    have n57 : un N c k 57 = N 57 := un_n (by omega)
    have hS1 := hSR_K hS os.1 (show c < 55 by omega) hτ
    have hS2 : hSR (upd τ (400 * 159 + 0 + c) (nI k)) sn s := ⟨(pk_un (by omega)).trans hS1.1, fun j hj => by have h6 := os.1; exact (pk_un (by omega)).trans (hS1.2 j hj)⟩
    have eF : fitA sn s (un N c k) 21 = fitK sn s N c k := fitA_c e4 okk os 21
    have fin : ∀ σ', hHB σ' k (un N c k) (un N c k 57) 21 → offH (84 * k) 84 σ' (upd τ (400 * 159 + 0 + c) (nI k)) → offK c σ' σ ∧ hHK σ' N c (k + 1) := fun σ' g1 g2 => by
      refine ⟨fun a a1 a2 a3 a4 a5 => (g2 a (by omega) a3 a4 a5).trans ((pk_un a1).trans (hτ a a1 a2 a3 a4 a5)), fun j hj k' hk' p hp => ?_⟩
      by_cases q : j = k
      · subst q
        rw [g1 k' hk' p (by rw [n57]; exact hp), hueQ_c (daysA_c e4 okk k') (okQ_daysA okk k').nc (show p < 4 by omega)]
      · exact (g2 _ (by omega) (by omega) (by omega) (by omega)).trans ((pk_un (by omega)).trans (hh j (by omega) k' hk' p hp))
    refine z_iload 14 dX7_kindsOf_12 rfl rfl ?_
    refine z_iconst 15 dX7_kindsOf_14 vi4 rfl ?_
    refine z_icmp_ge_f 18 52 dX7_kindsOf_15 rfl (nI_ge (b := 4) hk (by decide)) rfl ?_
    refine z_aload_n 19 dX7_kindsOf_18 rfl rfl ?_
    refine y_getr 22 _ sh158 rfl fl_X7_7 dX7_kindsOf_19 rfl ?_
    refine z_iload_n 23 dX7_kindsOf_22 rfl rfl ?_
    refine z_iload 25 dX7_kindsOf_23 rfl rfl ?_
    refine y_st 26 _ c sh159 rfl (by omega) (by omega) dX7_kindsOf_25 rfl ?_
    refine z_iload_n 27 dX7_kindsOf_26 rfl rfl ?_
    refine z_aload_n 28 dX7_kindsOf_27 rfl rfl ?_
    refine z_iload 30 dX7_kindsOf_28 rfl rfl ?_
    refine y_cVP 33 _ (c_isAsSeen hS2 os hN oku hk) sh158 cv_X7_255 ⟨by decide, by decide, rfl, rfl⟩ (Nat.le_of_ble_eq_true rfl) dX7_kindsOf_30 rfl rfl (fun v30 σ30 hp30 => ?_)
    obtain ⟨rfl, g1, g2⟩ := hp30
    obtain ⟨f1, f2⟩ := fin _ g1 g2
    show Y G X mX7_kindsOf _ 33 _ [.int (bi (fitA sn s (un N c k) 21 = true)), .int _]
    rw [eF]
    refine z_if_eq 43 36 dX7_kindsOf_33 rfl rfl (fun h33 => ?_) (fun h33 => ?_)
    · skip
      have e : kB (fitK sn s N c) (k + 1) = kB (fitK sn s N c) k ||| 0 := (if_neg (bi0.mp h33)).trans Int32.or_zero.symm
      refine z_iconst 44 dX7_kindsOf_43 vi0 rfl ?_
      refine z_ior 45 dX7_kindsOf_44 rfl ?_
      refine z_istore_n 46 [_, _, _, _, _] dX7_kindsOf_45 (by decide) rfl rfl rfl ?_
      refine z_iinc 49 [_, _, _, _, _] dX7_kindsOf_46 rfl (show _ + _ = nI (_ + 1) from nI_1 _) (by decide) rfl rfl rfl ?_
      refine z_goto 12 dX7_kindsOf_49 rfl ?_
      rw [e] at ih
      exact ih _ f1 f2
    · skip
      have e : kB (fitK sn s N c) (k + 1) = kB (fitK sn s N c) k ||| ((1 : Int32) <<< (nI k &&& 31)) := if_pos (bin0.mp h33)
      refine z_iconst 37 dX7_kindsOf_36 vi1 rfl ?_
      refine z_iload 39 dX7_kindsOf_37 rfl rfl ?_
      refine z_ishl 40 dX7_kindsOf_39 rfl ?_
      refine z_goto 44 dX7_kindsOf_40 rfl ?_
      refine z_ior 45 dX7_kindsOf_44 rfl ?_
      refine z_istore_n 46 [_, _, _, _, _] dX7_kindsOf_45 (by decide) rfl rfl rfl ?_
      refine z_iinc 49 [_, _, _, _, _] dX7_kindsOf_46 rfl (show _ + _ = nI (_ + 1) from nI_1 _) (by decide) rfl rfl rfl ?_
      refine z_goto 12 dX7_kindsOf_49 rfl ?_
      rw [e] at ih
      exact ih _ f1 f2
set_option maxRecDepth 100000 in
theorem r_kinds {l : Launch} {G : zG} {σ : Nat → Int32} {N : Pg} {sn : Nat} {s : Nat → Nat} {c : Int32} (hc : hdk σ 0 N) (ok : okQ N) (hS : hSR σ sn s) (os : okS sn s) : zMet l yX7_kinds mX7_kinds [.ref (zGa G 158), .int c] G (zW G σ) (zP G (pQ σ (vKinds N sn s c))) := by
  have b5 := ok.nc
  refine zMet.of (by decide) rfl (Nat.le_of_ble_eq_true rfl) (Or.inr rfl) fun X hX hq => ?_
  subst hX
  show Y G X mX7_kinds σ 0 [some (.ref (zGa G 158)), some (.int c)] []
  by_cases hi : inR c (N 56)
  · obtain ⟨c', hc', rfl⟩ := inR_of hi (by omega)
    have val : vKinds N sn s (nI c') = kB (fitK sn s N c') 4 := by rw [vKinds, if_pos hi, nN_nI (by omega)]
    refine z_aload_n 1 dX7_kinds_0 rfl rfl ?_
    refine z_iload_n 2 dX7_kinds_1 rfl rfl ?_
    refine y_cVs 5 _ (q_isColour (o := 0) hc ok) sh158 cv_X7_176 ⟨by decide, by decide, rfl, rfl⟩ (Nat.le_of_ble_eq_true rfl) dX7_kinds_2 rfl rfl ?_
    refine z_if_eq_f 8 16 dX7_kinds_5 rfl (by rw [bi_t hi]; decide) rfl ?_
    refine z_aload_n 9 dX7_kinds_8 rfl rfl ?_
    refine z_iload_n 10 dX7_kinds_9 rfl rfl ?_
    refine y_cVP 13 _ (c_kindsOf hc ok hS os (by omega)) sh158 cv_X7_258 ⟨by decide, by decide, rfl, rfl⟩ (Nat.le_of_ble_eq_true rfl) dX7_kinds_10 rfl rfl (fun v10 σ10 hp10 => ?_)
    obtain ⟨rfl, hs, -⟩ := hp10
    show Y G X mX7_kinds _ 13 _ [.int _]
    refine z_goto 17 dX7_kinds_13 rfl ?_
    refine z_iret hq rfl dX7_kinds_17 rfl rfl ?_
    exact ⟨_, ⟨by rw [val], hs⟩, rfl⟩
  · skip
    refine z_aload_n 1 dX7_kinds_0 rfl rfl ?_
    refine z_iload_n 2 dX7_kinds_1 rfl rfl ?_
    refine y_cVs 5 _ (q_isColour (o := 0) hc ok) sh158 cv_X7_176 ⟨by decide, by decide, rfl, rfl⟩ (Nat.le_of_ble_eq_true rfl) dX7_kinds_2 rfl rfl ?_
    refine z_if_eq_t 16 dX7_kinds_5 rfl (bi_f hi) ?_
    refine z_iconst 17 dX7_kinds_16 vim1 rfl ?_
    refine z_iret hq rfl dX7_kinds_17 rfl rfl ?_
    exact ⟨_, ⟨by rw [vKinds, if_neg hi], same.rf⟩, rfl⟩
set_option maxRecDepth 100000 in
set_option maxHeartbeats 2000000 in
theorem r_drops {l : Launch} {G : zG} {σ : Nat → Int32} {N : Pg} {sn : Nat} {s : Nat → Nat} {p c : Int32} (hc : hdk σ 0 N) (ok : okQ N) (hS : hSR σ sn s) (os : okS sn s) : zMet l yX7_drops mX7_drops [.ref (zGa G 158), .int p, .int c] G (zW G σ) (zP G (pQ σ (vDrops N sn s p c))) := by
  have b5 := ok.nc
  have b4 := ok.np
  have no : ¬ (inR p (N 57) ∧ inR c (N 56)) → pQ σ (vDrops N sn s p c) (some (.int (-1))) σ := fun h => ⟨by rw [vDrops, if_neg h], same.rf⟩
  refine zMet.of (by decide) rfl (Nat.le_of_ble_eq_true rfl) (Or.inr rfl) fun X hX hq => ?_
  subst hX
  show Y G X mX7_drops σ 0 [some (.ref (zGa G 158)), some (.int p), some (.int c), none, none, none, none] []
  by_cases hp : inR p (N 57)
  · by_cases hi : inR c (N 56)
    · obtain ⟨p', hp', rfl⟩ := inR_of hp (by omega)
      obtain ⟨c', hc', rfl⟩ := inR_of hi (by omega)
      have c5 : c' < 5 := by omega
      have p4 : p' < 4 := by omega
      have val : vDrops N sn s (nI p') (nI c') = kB (fitP sn s N p' c') 31 := by rw [vDrops, if_pos ⟨hp, hi⟩, nN_nI (by omega), nN_nI (by omega)]
      refine z_aload_n 1 dX7_drops_0 rfl rfl ?_
      refine z_iload_n 2 dX7_drops_1 rfl rfl ?_
      refine y_cVs 5 _ (q_isOne (o := 0) hc ok) sh158 cv_X7_182 ⟨by decide, by decide, rfl, rfl⟩ (Nat.le_of_ble_eq_true rfl) dX7_drops_2 rfl rfl ?_
      refine z_if_eq_f 8 16 dX7_drops_5 rfl (by rw [bi_t hp]; decide) rfl ?_
      refine z_aload_n 9 dX7_drops_8 rfl rfl ?_
      refine z_iload_n 10 dX7_drops_9 rfl rfl ?_
      refine y_cVs 13 _ (q_isColour (o := 0) hc ok) sh158 cv_X7_176 ⟨by decide, by decide, rfl, rfl⟩ (Nat.le_of_ble_eq_true rfl) dX7_drops_10 rfl rfl ?_
      refine z_if_ne_t 18 dX7_drops_13 rfl (by rw [bi_t hi]; decide) ?_
      refine z_bipush 20 dX7_drops_18 vb33 rfl ?_
      refine z_iconst 21 dX7_drops_20 vi5 rfl ?_
      refine z_iload_n 22 dX7_drops_21 rfl rfl ?_
      refine z_imulN 23 (show (5 : Int32) = nI 5 from rfl) rfl dX7_drops_22 rfl ?_
      refine z_iaddN 24 (show (33 : Int32) = nI 33 from rfl) rfl dX7_drops_23 rfl ?_
      refine z_iload_n 25 dX7_drops_24 rfl rfl ?_
      refine z_iaddN 26 rfl rfl dX7_drops_25 rfl ?_
      refine z_istore_n 27 [_, _, _, _, _, _, _] dX7_drops_26 (by decide) rfl rfl rfl ?_
      refine z_aload_n 28 dX7_drops_27 rfl rfl ?_
      refine y_getr 31 _ sh158 rfl fl_X7_7 dX7_drops_28 rfl ?_
      refine z_iload_n 32 dX7_drops_31 rfl rfl ?_
      refine y_ld 33 _ (33 + 5 * p' + c') sh159 rfl (by omega) (by omega) dX7_drops_32 rfl ?_
      refine z_istore 35 [_, _, _, _, _, _, _] dX7_drops_33 (by decide) rfl rfl rfl ?_
      refine z_iconst 36 dX7_drops_35 vi0 rfl ?_
      refine z_istore 38 [_, _, _, _, _, _, _] dX7_drops_36 (by decide) rfl rfl rfl ?_
      refine z_iconst 39 dX7_drops_38 vi0 rfl ?_
      refine z_istore 41 [_, _, _, _, _, _, _] dX7_drops_39 (by decide) rfl rfl rfl ?_
      refine zup (P := fun k => ∀ τ, offK (33 + 5 * p' + c') τ σ → Y G X mX7_drops τ 41 [some (.ref (zGa G 158)), some (.int (nI p')), some (.int (nI c')), some (.int (nI (33 + 5 * p' + c'))), some (.int (σ (400 * 159 + 0 + (33 + 5 * p' + c')))), some (.int (kB (fitP sn s N p' c') k)), some (.int (nI k))] []) 31 ?_ (fun k hk ih => ?_) 0 (Nat.zero_le _) _ (fun _ _ _ _ _ _ => rfl)
      · intro τ hτ
        refine z_iload 43 dX7_drops_41 rfl rfl ?_
        refine z_bipush 45 dX7_drops_43 vb30 rfl ?_
        refine z_icmp_gt_t 83 dX7_drops_45 rfl (by decide) ?_
        refine z_aload_n 84 dX7_drops_83 rfl rfl ?_
        refine y_getr 87 _ sh158 rfl fl_X7_7 dX7_drops_84 rfl ?_
        refine z_iload_n 88 dX7_drops_87 rfl rfl ?_
        refine z_iload 90 dX7_drops_88 rfl rfl ?_
        refine y_st 91 _ (33 + 5 * p' + c') sh159 rfl (by omega) (by omega) dX7_drops_90 rfl ?_
        refine z_iload 93 dX7_drops_91 rfl rfl ?_
        refine z_iret hq rfl dX7_drops_93 rfl rfl ?_
        exact ⟨_, ⟨by rw [val], offK_same hτ⟩, rfl⟩
      · intro τ hτ
        have hN := hdk_K (v := k) hc (show 33 + 5 * p' + c' < 55 by omega) hτ
        have okk := okQ_drop (v := k) ok p4 c5 (by omega)
        have e4 : eqc (un N (33 + 5 * p' + c') k) (dropQ N p' c' k) := un_c (eqc.symm eqc_nrm)
        have oku := okk.eqc e4
        have hS1 := hSR_K hS os.1 (show 33 + 5 * p' + c' < 55 by omega) hτ
        have hS2 : hSR (upd τ (400 * 159 + 0 + (33 + 5 * p' + c')) (nI k)) sn s := ⟨(pk_un (by omega)).trans hS1.1, fun j hj => by have h6 := os.1; exact (pk_un (by omega)).trans (hS1.2 j hj)⟩
        have eF : fitA sn s (un N (33 + 5 * p' + c') k) 21 = fitP sn s N p' c' k := fitA_c e4 okk os 21
        have fin : ∀ σ', offH (84 * 0) 84 σ' (upd τ (400 * 159 + 0 + (33 + 5 * p' + c')) (nI k)) → offK (33 + 5 * p' + c') σ' σ := fun σ' g2 => fun a a1 a2 a3 a4 a5 => (g2 a (by omega) a3 a4 a5).trans ((pk_un a1).trans (hτ a a1 a2 a3 a4 a5))
        refine z_iload 43 dX7_drops_41 rfl rfl ?_
        refine z_bipush 45 dX7_drops_43 vb30 rfl ?_
        refine z_icmp_gt_f 48 83 dX7_drops_45 rfl (nI_nlt (a := 30) (b := k) (by omega) (by omega)) rfl ?_
        refine z_aload_n 49 dX7_drops_48 rfl rfl ?_
        refine y_getr 52 _ sh158 rfl fl_X7_7 dX7_drops_49 rfl ?_
        refine z_iload_n 53 dX7_drops_52 rfl rfl ?_
        refine z_iload 55 dX7_drops_53 rfl rfl ?_
        refine y_st 56 _ (33 + 5 * p' + c') sh159 rfl (by omega) (by omega) dX7_drops_55 rfl ?_
        refine z_iload 58 dX7_drops_56 rfl rfl ?_
        refine z_aload_n 59 dX7_drops_58 rfl rfl ?_
        refine z_iconst 60 dX7_drops_59 vi0 rfl ?_
        refine y_cVP 63 _ (c_isAsSeen (row := 0) hS2 os hN oku (by decide)) sh158 cv_X7_255 ⟨by decide, by decide, rfl, rfl⟩ (Nat.le_of_ble_eq_true rfl) dX7_drops_60 rfl rfl (fun v60 σ60 hp60 => ?_)
        obtain ⟨rfl, g1, g2⟩ := hp60
        have f1 := fin _ g2
        show Y G X mX7_drops _ 63 _ [.int (bi (fitA sn s (un N (33 + 5 * p' + c') k) 21 = true)), .int _]
        rw [eF]
        refine z_if_eq 73 66 dX7_drops_63 rfl rfl (fun h63 => ?_) (fun h63 => ?_)
        · skip
          have e : kB (fitP sn s N p' c') (k + 1) = kB (fitP sn s N p' c') k ||| 0 := (if_neg (bi0.mp h63)).trans Int32.or_zero.symm
          refine z_iconst 74 dX7_drops_73 vi0 rfl ?_
          refine z_ior 75 dX7_drops_74 rfl ?_
          refine z_istore 77 [_, _, _, _, _, _, _] dX7_drops_75 (by decide) rfl rfl rfl ?_
          refine z_iinc 80 [_, _, _, _, _, _, _] dX7_drops_77 rfl (show _ + _ = nI (_ + 1) from nI_1 _) (by decide) rfl rfl rfl ?_
          refine z_goto 41 dX7_drops_80 rfl ?_
          rw [e] at ih
          exact ih _ f1
        · skip
          have e : kB (fitP sn s N p' c') (k + 1) = kB (fitP sn s N p' c') k ||| ((1 : Int32) <<< (nI k &&& 31)) := if_pos (bin0.mp h63)
          refine z_iconst 67 dX7_drops_66 vi1 rfl ?_
          refine z_iload 69 dX7_drops_67 rfl rfl ?_
          refine z_ishl 70 dX7_drops_69 rfl ?_
          refine z_goto 74 dX7_drops_70 rfl ?_
          refine z_ior 75 dX7_drops_74 rfl ?_
          refine z_istore 77 [_, _, _, _, _, _, _] dX7_drops_75 (by decide) rfl rfl rfl ?_
          refine z_iinc 80 [_, _, _, _, _, _, _] dX7_drops_77 rfl (show _ + _ = nI (_ + 1) from nI_1 _) (by decide) rfl rfl rfl ?_
          refine z_goto 41 dX7_drops_80 rfl ?_
          rw [e] at ih
          exact ih _ f1
    · have no := no (fun h => hi h.2)
      refine z_aload_n 1 dX7_drops_0 rfl rfl ?_
      refine z_iload_n 2 dX7_drops_1 rfl rfl ?_
      refine y_cVs 5 _ (q_isOne (o := 0) hc ok) sh158 cv_X7_182 ⟨by decide, by decide, rfl, rfl⟩ (Nat.le_of_ble_eq_true rfl) dX7_drops_2 rfl rfl ?_
      refine z_if_eq_f 8 16 dX7_drops_5 rfl (by rw [bi_t hp]; decide) rfl ?_
      refine z_aload_n 9 dX7_drops_8 rfl rfl ?_
      refine z_iload_n 10 dX7_drops_9 rfl rfl ?_
      refine y_cVs 13 _ (q_isColour (o := 0) hc ok) sh158 cv_X7_176 ⟨by decide, by decide, rfl, rfl⟩ (Nat.le_of_ble_eq_true rfl) dX7_drops_10 rfl rfl ?_
      refine z_if_ne_f 16 18 dX7_drops_13 rfl (bi_f hi) rfl ?_
      refine z_iconst 17 dX7_drops_16 vim1 rfl ?_
      refine z_iret hq rfl dX7_drops_17 rfl rfl ?_
      exact ⟨_, no, rfl⟩
  · have no := no (fun h => hp h.1)
    refine z_aload_n 1 dX7_drops_0 rfl rfl ?_
    refine z_iload_n 2 dX7_drops_1 rfl rfl ?_
    refine y_cVs 5 _ (q_isOne (o := 0) hc ok) sh158 cv_X7_182 ⟨by decide, by decide, rfl, rfl⟩ (Nat.le_of_ble_eq_true rfl) dX7_drops_2 rfl rfl ?_
    refine z_if_eq_t 16 dX7_drops_5 rfl (bi_f hp) ?_
    refine z_iconst 17 dX7_drops_16 vim1 rfl ?_
    refine z_iret hq rfl dX7_drops_17 rfl rfl ?_
    exact ⟨_, no, rfl⟩

