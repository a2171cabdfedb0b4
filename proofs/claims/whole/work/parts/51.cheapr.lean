set_option maxRecDepth 100000 in
set_option maxHeartbeats 4000000 in
theorem r_cheap {l : Launch} {G : zG} {σ : Nat → Int32} {N : Pg} {h q n : Int32} (hc : hdk σ 0 N) (ok : okQ N) : zMet l yX7_cheap mX7_cheap [.ref (zGa G 158), .int h, .int q, .int n] G (zW G σ) (zP G (pQ σ (vCheap N h q n))) := by
  have b5 := ok.nc
  have bh : bi ((0 : Int64) ≤ h.toInt64 ∧ h.toInt64 ≤ 999) = bi (inR h 1000) := bi_in7 (n := 999) (by decide)
  have bq : bi ((0 : Int64) ≤ q.toInt64 ∧ q.toInt64 ≤ 27) = bi (inR q 28) := bi_in7 (n := 27) (by decide)
  have bn : bi ((1 : Int64) ≤ n.toInt64 ∧ n.toInt64 ≤ 6) = bi ((1 : Int32) ≤ n ∧ n ≤ 6) := bi_cg (by
    rw [Int64.le_iff_toInt_le, Int64.le_iff_toInt_le, Int32.toInt_toInt64, Int32.le_iff_toInt_le, Int32.le_iff_toInt_le]
    exact Iff.rfl)
  have no : ¬ okCheap h q n → pQ σ (vCheap N h q n) (some (.int (-1))) σ := fun h => ⟨by rw [vCheap, if_neg h], same.rf⟩
  refine zMet.of (by decide) rfl (Nat.le_of_ble_eq_true rfl) (Or.inr rfl) fun X hX hq => ?_
  subst hX
  show Y G X mX7_cheap σ 0 [some (.ref (zGa G 158)), some (.int h), some (.int q), some (.int n), none, none, none, none] []
  by_cases h1 : inR h 1000
  · by_cases h2 : inR q 28
    · by_cases h3 : (1 : Int32) ≤ n ∧ n ≤ 6
      · obtain ⟨h', hh', rfl⟩ := inR_of h1 (by decide)
        obtain ⟨n', hn1, hn2, rfl⟩ := le_nI6 h3
        obtain ⟨q', hq', rfl⟩ := inR_of h2 (by decide)
        have val : vCheap N (nI h') (nI q') (nI n') = if (mxR N h' n' q').2.2 = 1000 then -4 else nI (mxR N h' n' q').2.2 := by rw [vCheap, if_pos ⟨h1, h2, h3⟩, nN_nI (by omega), nN_nI (by omega), nN_nI (by omega)]
        rw [← mx_codes hn2] at val
        have p7 := pow7_le b5
        have inv0 : ∀ k, (itr (mxG N h' n' q') k mx0).2.2 ≤ 1000 := by
          intro k
          induction k with
          | zero => exact Nat.le_refl _
          | succ k ih =>
            rw [itr, mxG]; split
            · (simp only [mxF]; split <;> omega)
            · exact ih
        refine z_iload_n 1 dX7_cheap_0 rfl rfl ?_
        refine z_i2l 2 dX7_cheap_1 rfl ?_
        refine z_lconst 3 dX7_cheap_2 vl0 rfl ?_
        refine z_ldc2 6 kc_X7_188 dX7_cheap_3 rfl ?_
        refine y_cSs 9 (c_in) cs_X7_55 ⟨by decide, by decide, rfl, rfl⟩ (Nat.le_of_ble_eq_true rfl) dX7_cheap_6 rfl rfl ?_
        rw [bh]
        refine z_if_eq_f 12 36 dX7_cheap_9 rfl (by rw [bi_t h1]; decide) rfl ?_
        refine z_iload_n 13 dX7_cheap_12 rfl rfl ?_
        refine z_i2l 14 dX7_cheap_13 rfl ?_
        refine z_lconst 15 dX7_cheap_14 vl0 rfl ?_
        refine z_ldc2 18 kc_X7_237 dX7_cheap_15 rfl ?_
        refine y_cSs 21 (c_in) cs_X7_55 ⟨by decide, by decide, rfl, rfl⟩ (Nat.le_of_ble_eq_true rfl) dX7_cheap_18 rfl rfl ?_
        rw [bq]
        refine z_if_eq_f 24 36 dX7_cheap_21 rfl (by rw [bi_t h2]; decide) rfl ?_
        refine z_iload_n 25 dX7_cheap_24 rfl rfl ?_
        refine z_i2l 26 dX7_cheap_25 rfl ?_
        refine z_lconst 27 dX7_cheap_26 vl1 rfl ?_
        refine z_ldc2 30 kc_X7_180 dX7_cheap_27 rfl ?_
        refine y_cSs 33 (c_in) cs_X7_55 ⟨by decide, by decide, rfl, rfl⟩ (Nat.le_of_ble_eq_true rfl) dX7_cheap_30 rfl rfl ?_
        rw [bn]
        refine z_if_ne_t 38 dX7_cheap_33 rfl (by rw [bi_t h3]; decide) ?_
        refine z_sipush 41 dX7_cheap_38 vs1000 rfl ?_
        refine z_istore 43 [_, _, _, _, _, _, _, _] dX7_cheap_41 (by decide) rfl rfl rfl ?_
        refine z_iconst 44 dX7_cheap_43 vi0 rfl ?_
        refine z_istore 46 [_, _, _, _, _, _, _, _] dX7_cheap_44 (by decide) rfl rfl rfl ?_
        refine zup (P := fun k => ∀ τ u v, same τ σ → Y G X mX7_cheap τ 46 [some (.ref (zGa G 158)), some (.int (nI h')), some (.int (nI q')), some (.int (nI n')), some (.int (nI (itr (mxG N h' n' q') k mx0).2.2)), some (.int (nI k)), u, v] []) (7 ^ N 56) ?_ (fun k hk ih => ?_) 0 (Nat.zero_le _) _ _ _ same.rf
        · intro τ u v hτ
          have i28 := inv0 (7 ^ N 56)
          have hcτ := hdk0 hc hτ
          generalize itr (mxG N h' n' q') (7 ^ N 56) mx0 = r at val i28 ⊢
          refine z_iload 48 dX7_cheap_46 rfl rfl ?_
          refine z_bipush 50 dX7_cheap_48 vb7 rfl ?_
          refine z_aload_n 51 dX7_cheap_50 rfl rfl ?_
          refine q_get 54 hcτ rfl (by decide) fl_X7_142 dX7_cheap_51 rfl ?_
          refine y_cSs 57 (c_powerOf (by omega)) cs_X7_227 ⟨by decide, by decide, rfl, rfl⟩ (Nat.le_of_ble_eq_true rfl) dX7_cheap_54 rfl rfl ?_
          refine z_icmp_ge_t 146 dX7_cheap_57 rfl (Int32.le_refl _) ?_
          refine z_iload 148 dX7_cheap_146 rfl rfl ?_
          refine z_sipush 151 dX7_cheap_148 vs1000 rfl ?_
          refine z_icmp_ne 159 154 dX7_cheap_151 rfl rfl (fun h151 => ?_) (fun h151 => ?_)
          · skip
            have n28 : r.2.2 ≠ 1000 := fun q => h151 (by rw [q]; rfl)
            refine z_iload 161 dX7_cheap_159 rfl rfl ?_
            refine z_iret hq rfl dX7_cheap_161 rfl rfl ?_
            exact ⟨_, ⟨by rw [val, if_neg n28], hτ⟩, rfl⟩
          · skip
            have e28 : r.2.2 = 1000 := nI_eqL (b := 1000) (by omega) (by decide) h151
            refine z_bipush 156 dX7_cheap_154 vbm4 rfl ?_
            refine z_goto 161 dX7_cheap_156 rfl ?_
            refine z_iret hq rfl dX7_cheap_161 rfl rfl ?_
            exact ⟨_, ⟨by rw [val, if_pos e28], hτ⟩, rfl⟩
        · intro τ u v hτ
          have i28 := inv0 k
          have hcτ := hdk0 hc hτ
          have hd7 := dgt_lt (N 56) k
          have ep := dgt_pre (N 56) k hk
          have eI : itr (mxG N h' n' q') (k + 1) mx0 = mxG N h' n' q' k (itr (mxG N h' n' q') k mx0) := rfl
          rw [eI] at ih
          generalize itr (mxG N h' n' q') k mx0 = r at i28 ih ⊢
          have hg1 : okD (fun c => N (20 + c)) (dgt (N 56) k) n' (N 56) → mxG N h' n' q' k r = mxF N h' q' (dgt (N 56) k) r := fun q => if_pos q
          have hg0 : ¬ okD (fun c => N (20 + c)) (dgt (N 56) k) n' (N 56) → mxG N h' n' q' k r = r := fun q => if_neg q
          generalize dgt (N 56) k = d at hd7 ep hg1 hg0
          have ol : offD N h' d ≤ 27 := offD_le ok hh'
          have hul := hueD_lt (d := d) ok
          have off : offN (hueD N d) h' = offD N h' d := rfl
          have ca := c_areDrops (l := zXl X) (G := G) (n := n') hcτ ok hd7 hn2
          rw [ep] at ca
          refine z_iload 48 dX7_cheap_46 rfl rfl ?_
          refine z_bipush 50 dX7_cheap_48 vb7 rfl ?_
          refine z_aload_n 51 dX7_cheap_50 rfl rfl ?_
          refine q_get 54 hcτ rfl (by decide) fl_X7_142 dX7_cheap_51 rfl ?_
          refine y_cSs 57 (c_powerOf (by omega)) cs_X7_227 ⟨by decide, by decide, rfl, rfl⟩ (Nat.le_of_ble_eq_true rfl) dX7_cheap_54 rfl rfl ?_
          refine z_icmp_ge_f 60 146 dX7_cheap_57 rfl (nI_ge hk (by omega)) rfl ?_
          refine z_aload_n 61 dX7_cheap_60 rfl rfl ?_
          refine z_iload 63 dX7_cheap_61 rfl rfl ?_
          refine z_iload_n 64 dX7_cheap_63 rfl rfl ?_
          refine y_cVP 67 _ (ca) sh158 cv_X7_230 ⟨by decide, by decide, rfl, rfl⟩ (Nat.le_of_ble_eq_true rfl) dX7_cheap_64 rfl rfl (fun v64 σ64 hp64 => ?_)
          obtain ⟨rfl, a1, a2⟩ := hp64
          have s1 := same_dr hτ a2
          have hc1 := hdk0 hc s1
          show Y G X mX7_cheap _ 67 _ [.int _]
          refine z_if_eq 140 70 dX7_cheap_67 rfl rfl (fun h67 => ?_) (fun h67 => ?_)
          · skip
            have e := hg0 (bi0.mp h67)
            refine z_iinc 143 [_, _, _, _, _, _, _, _] dX7_cheap_140 rfl (show _ + _ = nI (_ + 1) from nI_1 _) (by decide) rfl rfl rfl ?_
            refine z_goto 46 dX7_cheap_143 rfl ?_
            rw [e] at ih
            exact ih _ _ _ s1
          · skip
            have okd := bin0.mp h67
            have e := hg1 okd
            skip
            have ch := c_hueOfDrops7 (l := zXl X) (G := G) hc1 ok a1 okd.2 hn1 hn2 hd7
            have rl : rentD N d ≤ 5 * 36 := sumN_ltb b5 (fun i hi => by
              have h1 : d i ≤ 6 := by have := hd7 i hi; omega
              exact Nat.mul_le_mul h1 (rentK_le (N i)))
            refine z_aload_n 71 dX7_cheap_70 rfl rfl ?_
            refine z_iload_n 72 dX7_cheap_71 rfl rfl ?_
            refine y_cVs 75 _ (ch) sh158 cv_X7_234 ⟨by decide, by decide, rfl, rfl⟩ (Nat.le_of_ble_eq_true rfl) dX7_cheap_72 rfl rfl ?_
            refine z_iload_n 76 dX7_cheap_75 rfl rfl ?_
            refine y_cSs 79 (c_offOf (by omega) (by omega)) cs_X7_190 ⟨by decide, by decide, rfl, rfl⟩ (Nat.le_of_ble_eq_true rfl) dX7_cheap_76 rfl rfl ?_
            rw [off]
            refine z_iload_n 80 dX7_cheap_79 rfl rfl ?_
            refine z_icmp_gt 140 83 dX7_cheap_80 rfl rfl (fun h80 => ?_) (fun h80 => ?_)
            · skip
              have nl : ¬ offD N h' d ≤ q' := fun q => absurd (nI_le q (by omega)) (Int32.not_le.mpr h80)
              refine z_iinc 143 [_, _, _, _, _, _, _, _] dX7_cheap_140 rfl (show _ + _ = nI (_ + 1) from nI_1 _) (by decide) rfl rfl rfl ?_
              refine z_goto 46 dX7_cheap_143 rfl ?_
              have e1 : (mxF N h' q' d r).2.2 = r.2.2 := if_neg nl
              rw [e, e1] at ih
              exact ih _ _ _ s1
            · skip
              have yl : offD N h' d ≤ q' := by
                  rcases Nat.lt_or_ge q' (offD N h' d) with q | q
                  · exact absurd (nI_lt q (by omega)) h80
                  · exact q
              refine z_iconst 84 dX7_cheap_83 vi0 rfl ?_
              refine z_istore 86 [_, _, _, _, _, _, _, _] dX7_cheap_84 (by decide) rfl rfl rfl ?_
              refine z_iconst 87 dX7_cheap_86 vi0 rfl ?_
              refine z_istore 89 [_, _, _, _, _, _, _, _] dX7_cheap_87 (by decide) rfl rfl rfl ?_
              have e1 : (mxF N h' q' d r).2.2 = min r.2.2 (rentD N d) := if_pos yl
              rw [e, e1] at ih
              refine zup (P := fun c => Y G X mX7_cheap σ64 89 [some (.ref (zGa G 158)), some (.int (nI h')), some (.int (nI q')), some (.int (nI n')), some (.int (nI r.2.2)), some (.int (nI k)), some (.int (nI (sumN (fun c => d c * rentK (N c)) c))), some (.int (nI c))] []) (N 56) ?_ (fun c hcc ih2 => ?_) 0 (Nat.zero_le _)
              · show Y G X mX7_cheap σ64 89 [some (.ref (zGa G 158)), some (.int (nI h')), some (.int (nI q')), some (.int (nI n')), some (.int (nI r.2.2)), some (.int (nI k)), some (.int (nI (rentD N d))), some (.int (nI (N 56)))] []
                refine z_iload 91 dX7_cheap_89 rfl rfl ?_
                refine z_aload_n 92 dX7_cheap_91 rfl rfl ?_
                refine q_get 95 hc1 rfl (by decide) fl_X7_142 dX7_cheap_92 rfl ?_
                refine z_icmp_ge_t 124 dX7_cheap_95 rfl (Int32.le_refl _) ?_
                refine z_iload 126 dX7_cheap_124 rfl rfl ?_
                refine z_iload 128 dX7_cheap_126 rfl rfl ?_
                refine z_icmp_ge 136 131 dX7_cheap_128 rfl rfl (fun h128 => ?_) (fun h128 => ?_)
                · skip
                  have z : min r.2.2 (rentD N d) = r.2.2 := by
                      rcases Nat.lt_or_ge (rentD N d) r.2.2 with q | q
                      · exact absurd (nI_lt q (by omega)) (Int32.not_lt.mpr h128)
                      · exact Nat.min_eq_left q
                  refine z_iload 138 dX7_cheap_136 rfl rfl ?_
                  refine z_istore 140 [_, _, _, _, _, _, _, _] dX7_cheap_138 (by decide) rfl rfl rfl ?_
                  refine z_iinc 143 [_, _, _, _, _, _, _, _] dX7_cheap_140 rfl (show _ + _ = nI (_ + 1) from nI_1 _) (by decide) rfl rfl rfl ?_
                  refine z_goto 46 dX7_cheap_143 rfl ?_
                  rw [z] at ih
                  exact ih _ _ _ s1
                · skip
                  have z : min r.2.2 (rentD N d) = rentD N d := by
                      rcases Nat.lt_or_ge (rentD N d) r.2.2 with q | q
                      · exact Nat.min_eq_right (by omega)
                      · exact absurd (nI_le q (by omega)) h128
                  refine z_iload 133 dX7_cheap_131 rfl rfl ?_
                  refine z_goto 138 dX7_cheap_133 rfl ?_
                  refine z_istore 140 [_, _, _, _, _, _, _, _] dX7_cheap_138 (by decide) rfl rfl rfl ?_
                  refine z_iinc 143 [_, _, _, _, _, _, _, _] dX7_cheap_140 rfl (show _ + _ = nI (_ + 1) from nI_1 _) (by decide) rfl rfl rfl ?_
                  refine z_goto 46 dX7_cheap_143 rfl ?_
                  rw [z] at ih
                  exact ih _ _ _ s1
              · skip
                refine z_iload 91 dX7_cheap_89 rfl rfl ?_
                refine z_aload_n 92 dX7_cheap_91 rfl rfl ?_
                refine q_get 95 hc1 rfl (by decide) fl_X7_142 dX7_cheap_92 rfl ?_
                refine z_icmp_ge_f 98 124 dX7_cheap_95 rfl (nI_ge hcc (by omega)) rfl ?_
                refine z_iload 100 dX7_cheap_98 rfl rfl ?_
                refine z_aload_n 101 dX7_cheap_100 rfl rfl ?_
                refine y_getr 104 _ sh158 rfl fl_X7_28 dX7_cheap_101 rfl ?_
                refine z_iload 106 dX7_cheap_104 rfl rfl ?_
                refine y_ld 107 _ c sh165 rfl (by omega) (by omega) dX7_cheap_106 rfl ?_
                rw [a1 c hcc]
                refine z_aload_n 108 dX7_cheap_107 rfl rfl ?_
                refine z_iconst 109 dX7_cheap_108 vi0 rfl ?_
                refine z_iload 111 dX7_cheap_109 rfl rfl ?_
                refine y_cVs 114 _ (q_rentOn (o := 0) hc1 (by decide) ok (by omega)) sh158 cv_X7_157 ⟨by decide, by decide, rfl, rfl⟩ (Nat.le_of_ble_eq_true rfl) dX7_cheap_111 rfl rfl ?_
                refine z_imulN 115 rfl rfl dX7_cheap_114 rfl ?_
                refine z_iaddN 116 rfl rfl dX7_cheap_115 rfl ?_
                refine z_istore 118 [_, _, _, _, _, _, _, _] dX7_cheap_116 (by decide) rfl rfl rfl ?_
                refine z_iinc 121 [_, _, _, _, _, _, _, _] dX7_cheap_118 rfl (show _ + _ = nI (_ + 1) from nI_1 _) (by decide) rfl rfl rfl ?_
                refine z_goto 89 dX7_cheap_121 rfl ?_
                exact ih2
      · have no := no (fun q => h3 q.2.2)
        refine z_iload_n 1 dX7_cheap_0 rfl rfl ?_
        refine z_i2l 2 dX7_cheap_1 rfl ?_
        refine z_lconst 3 dX7_cheap_2 vl0 rfl ?_
        refine z_ldc2 6 kc_X7_188 dX7_cheap_3 rfl ?_
        refine y_cSs 9 (c_in) cs_X7_55 ⟨by decide, by decide, rfl, rfl⟩ (Nat.le_of_ble_eq_true rfl) dX7_cheap_6 rfl rfl ?_
        rw [bh]
        refine z_if_eq_f 12 36 dX7_cheap_9 rfl (by rw [bi_t h1]; decide) rfl ?_
        refine z_iload_n 13 dX7_cheap_12 rfl rfl ?_
        refine z_i2l 14 dX7_cheap_13 rfl ?_
        refine z_lconst 15 dX7_cheap_14 vl0 rfl ?_
        refine z_ldc2 18 kc_X7_237 dX7_cheap_15 rfl ?_
        refine y_cSs 21 (c_in) cs_X7_55 ⟨by decide, by decide, rfl, rfl⟩ (Nat.le_of_ble_eq_true rfl) dX7_cheap_18 rfl rfl ?_
        rw [bq]
        refine z_if_eq_f 24 36 dX7_cheap_21 rfl (by rw [bi_t h2]; decide) rfl ?_
        refine z_iload_n 25 dX7_cheap_24 rfl rfl ?_
        refine z_i2l 26 dX7_cheap_25 rfl ?_
        refine z_lconst 27 dX7_cheap_26 vl1 rfl ?_
        refine z_ldc2 30 kc_X7_180 dX7_cheap_27 rfl ?_
        refine y_cSs 33 (c_in) cs_X7_55 ⟨by decide, by decide, rfl, rfl⟩ (Nat.le_of_ble_eq_true rfl) dX7_cheap_30 rfl rfl ?_
        rw [bn]
        refine z_if_ne_f 36 38 dX7_cheap_33 rfl (bi_f h3) rfl ?_
        refine z_iconst 37 dX7_cheap_36 vim1 rfl ?_
        refine z_iret hq rfl dX7_cheap_37 rfl rfl ?_
        exact ⟨_, no, rfl⟩
    · have no := no (fun q => h2 q.2.1)
      refine z_iload_n 1 dX7_cheap_0 rfl rfl ?_
      refine z_i2l 2 dX7_cheap_1 rfl ?_
      refine z_lconst 3 dX7_cheap_2 vl0 rfl ?_
      refine z_ldc2 6 kc_X7_188 dX7_cheap_3 rfl ?_
      refine y_cSs 9 (c_in) cs_X7_55 ⟨by decide, by decide, rfl, rfl⟩ (Nat.le_of_ble_eq_true rfl) dX7_cheap_6 rfl rfl ?_
      rw [bh]
      refine z_if_eq_f 12 36 dX7_cheap_9 rfl (by rw [bi_t h1]; decide) rfl ?_
      refine z_iload_n 13 dX7_cheap_12 rfl rfl ?_
      refine z_i2l 14 dX7_cheap_13 rfl ?_
      refine z_lconst 15 dX7_cheap_14 vl0 rfl ?_
      refine z_ldc2 18 kc_X7_237 dX7_cheap_15 rfl ?_
      refine y_cSs 21 (c_in) cs_X7_55 ⟨by decide, by decide, rfl, rfl⟩ (Nat.le_of_ble_eq_true rfl) dX7_cheap_18 rfl rfl ?_
      rw [bq]
      refine z_if_eq_t 36 dX7_cheap_21 rfl (bi_f h2) ?_
      refine z_iconst 37 dX7_cheap_36 vim1 rfl ?_
      refine z_iret hq rfl dX7_cheap_37 rfl rfl ?_
      exact ⟨_, no, rfl⟩
  · have no := no (fun q => h1 q.1)
    refine z_iload_n 1 dX7_cheap_0 rfl rfl ?_
    refine z_i2l 2 dX7_cheap_1 rfl ?_
    refine z_lconst 3 dX7_cheap_2 vl0 rfl ?_
    refine z_ldc2 6 kc_X7_188 dX7_cheap_3 rfl ?_
    refine y_cSs 9 (c_in) cs_X7_55 ⟨by decide, by decide, rfl, rfl⟩ (Nat.le_of_ble_eq_true rfl) dX7_cheap_6 rfl rfl ?_
    rw [bh]
    refine z_if_eq_t 36 dX7_cheap_9 rfl (bi_f h1) ?_
    refine z_iconst 37 dX7_cheap_36 vim1 rfl ?_
    refine z_iret hq rfl dX7_cheap_37 rfl rfl ?_
    exact ⟨_, no, rfl⟩

