/-! ===== shed, kind ===== -/
def am (f : Nat → Nat) (w0 m0 : Int32) : Nat → Int32 × Int32
  | 0 => (w0, m0)
  | k + 1 => if (am f w0 m0 k).2 < nI (f k) then (nI k, nI (f k)) else am f w0 m0 k
theorem am_t {f : Nat → Nat} {w0 m0 : Int32} {k : Nat} (h : (am f w0 m0 k).2 < nI (f k)) : am f w0 m0 (k + 1) = (nI k, nI (f k)) := if_pos h
theorem am_f {f : Nat → Nat} {w0 m0 : Int32} {k : Nat} (h : nI (f k) ≤ (am f w0 m0 k).2) : am f w0 m0 (k + 1) = am f w0 m0 k := if_neg (Int32.not_lt.mpr h)
def shedQ (N : Pg) (p c : Nat) : Pg := brQ (nrm N) p c (N (33 + 5 * p + c))
def shF (N : Pg) (p c : Nat) : Nat := heldQ (daysO (shedQ N p c) p 20) p
def shR (N : Pg) (p n : Nat) : Int32 × Int32 := am (shF N p) (-4) (nI (heldQ (daysO (nrm N) p 20) p)) n
def vShed (N : Pg) (p w : Int32) : Int32 := if inR p (N 57) ∧ inR w 2 then (if (shR N (nN p) (N 56)).1 = -4 ∨ w = 0 then (shR N (nN p) (N 56)).1 else (shR N (nN p) (N 56)).2) else -1
theorem okQ_br {N : Pg} {p c n : Nat} (ok : okQ N) (hp : p < 4) (hc : c < 5) : okQ (brQ N p c n) := okQ_un (okQ_un ok (fun _ => by rw [bnd_h' hp hc]; have := ok.he hp hc; omega)) (fun _ => by rw [bnd_v hc]; exact Nat.min_le_left _ _)
set_option maxRecDepth 100000 in
set_option maxHeartbeats 2000000 in
theorem x_shed {l : Launch} {G : zG} {σ : Nat → Int32} {N : Pg} {p w : Int32} (hc : hdc σ 1 N) (ok : okQ N) : zMet l yX6_shed mX6_shed [.ref (zGa G 0), .int p, .int w] G (zW G σ) (zP G (pQ σ (vShed N p w))) := by
  have b4 := ok.np
  have b5 := ok.nc
  have bw : bi ((0 : Int32) ≤ w ∧ w ≤ 1) = bi (inR w 2) := bi_cg (le_inR (n := 1) (by decide))
  have no : ¬ (inR p (N 57) ∧ inR w 2) → pQ σ (vShed N p w) (some (.int (-1))) σ := fun h => ⟨by rw [vShed, if_neg h], same.rf⟩
  have okn := okQ_nrm ok
  have hc8 : ∀ {R : Pg}, hdc (sp σ 8 R) 1 N := hdc_off hc (by decide)
  refine zMet.of (by decide) rfl (Nat.le_of_ble_eq_true rfl) (Or.inr rfl) fun X hX hq => ?_
  subst hX
  show Y G X mX6_shed σ 0 [some (.ref (zGa G 0)), some (.int p), some (.int w), none, none, none] []
  by_cases hp : inR p (N 57)
  · by_cases hw : inR w 2
    · obtain ⟨p', hp', rfl⟩ := inR_of hp (by omega)
      obtain ⟨w', hw', rfl⟩ := inR_of hw (by decide)
      have p4 : p' < 4 := by omega
      have val : vShed N (nI p') (nI w') = if (shR N p' (N 56)).1 = -4 ∨ nI w' = 0 then (shR N p' (N 56)).1 else (shR N p' (N 56)).2 := by rw [vShed, if_pos ⟨hp, hw⟩, nN_nI (by omega)]
      refine z_aload_n 1 dX6_shed_0 rfl rfl ?_
      refine y_getr 4 _ sh0 rfl fl_X6_10 dX6_shed_1 rfl ?_
      refine z_iload_n 5 dX6_shed_4 rfl rfl ?_
      refine y_cVs 8 _ (n_hasOne bkm1 hc ok) (bk0 bkm1) cv_X6_141 ⟨by decide, by decide, rfl, rfl⟩ (Nat.le_of_ble_eq_true rfl) dX6_shed_5 rfl rfl ?_
      refine z_if_eq_f 11 20 dX6_shed_8 rfl (by rw [bi_t hp]; decide) rfl ?_
      refine z_iload_n 12 dX6_shed_11 rfl rfl ?_
      refine z_iconst 13 dX6_shed_12 vi0 rfl ?_
      refine z_iconst 14 dX6_shed_13 vi1 rfl ?_
      refine y_cSs 17 (c_within) cs_X6_73 ⟨by decide, by decide, rfl, rfl⟩ (Nat.le_of_ble_eq_true rfl) dX6_shed_14 rfl rfl ?_
      rw [bw]
      refine z_if_ne_t 22 dX6_shed_17 rfl (by rw [bi_t hw]; decide) ?_
      refine z_aload_n 23 dX6_shed_22 rfl rfl ?_
      refine y_getr 26 _ sh0 rfl fl_X6_16 dX6_shed_23 rfl ?_
      refine z_aload_n 27 dX6_shed_26 rfl rfl ?_
      refine y_getr 30 _ sh0 rfl fl_X6_10 dX6_shed_27 rfl ?_
      refine y_cVv 33 _ (n_takeFrom bkm8 bkm1 (by decide) hc) (bk0 bkm8) cv_X6_96 ⟨by decide, by decide, rfl, rfl⟩ (Nat.le_of_ble_eq_true rfl) dX6_shed_30 rfl rfl ?_
      refine z_aload_n 34 dX6_shed_33 rfl rfl ?_
      refine y_getr 37 _ sh0 rfl fl_X6_16 dX6_shed_34 rfl ?_
      refine z_iload_n 38 dX6_shed_37 rfl rfl ?_
      refine z_bipush 40 dX6_shed_38 vb20 rfl ?_
      refine y_cVv 43 _ (c_passDaysOfOne (n := 20) bkm8 hds_sp okn p4 (by decide)) (bk0 bkm8) cv_X6_197 ⟨by decide, by decide, rfl, rfl⟩ (Nat.le_of_ble_eq_true rfl) dX6_shed_40 rfl rfl ?_
      rw [sp_sp]
      refine z_aload_n 44 dX6_shed_43 rfl rfl ?_
      refine y_getr 47 _ sh0 rfl fl_X6_16 dX6_shed_44 rfl ?_
      refine z_iload_n 48 dX6_shed_47 rfl rfl ?_
      refine y_cVs 51 _ (c_heldBy bkm8 hds_sp (okQ_daysO okn p4 20).nc p4) (bk0 bkm8) cv_X6_153 ⟨by decide, by decide, rfl, rfl⟩ (Nat.le_of_ble_eq_true rfl) dX6_shed_48 rfl rfl ?_
      refine z_istore_n 52 [_, _, _, _, _, _] dX6_shed_51 (by decide) rfl rfl rfl ?_
      refine z_bipush 54 dX6_shed_52 vbm4 rfl ?_
      refine z_istore 56 [_, _, _, _, _, _] dX6_shed_54 (by decide) rfl rfl rfl ?_
      refine z_iconst 57 dX6_shed_56 vi0 rfl ?_
      refine z_istore 59 [_, _, _, _, _, _] dX6_shed_57 (by decide) rfl rfl rfl ?_
      refine zup (P := fun k => ∀ R, Y G X mX6_shed (sp σ 8 R) 59 [some (.ref (zGa G 0)), some (.int (nI p')), some (.int (nI w')), some (.int (shR N p' k).2), some (.int (shR N p' k).1), some (.int (nI k))] []) (N 56) ?_ (fun k hk ih => ?_) 0 (Nat.zero_le _) _
      · intro R
        have fin : ∀ V, V = vShed N (nI p') (nI w') → zP G (pQ σ (vShed N (nI p') (nI w'))) (some (.int V)) (zW G (sp σ 8 R)) := fun V hV => ⟨_, ⟨by rw [hV], same_sp8 same.rf⟩, rfl⟩
        refine z_iload 61 dX6_shed_59 rfl rfl ?_
        refine z_aload_n 62 dX6_shed_61 rfl rfl ?_
        refine y_getr 65 _ sh0 rfl fl_X6_10 dX6_shed_62 rfl ?_
        refine k_get 68 bkm1 hc8 rfl (by decide) fl_X6_103 dX6_shed_65 rfl ?_
        refine z_icmp_ge_t 147 dX6_shed_68 rfl (Int32.le_refl _) ?_
        refine z_iload 149 dX6_shed_147 rfl rfl ?_
        refine z_bipush 151 dX6_shed_149 vbm4 rfl ?_
        refine z_icmp_eq 158 154 dX6_shed_151 rfl rfl (fun h151 => ?_) (fun h151 => ?_)
        · skip
          refine z_iload 160 dX6_shed_158 rfl rfl ?_
          refine z_goto 164 dX6_shed_160 rfl ?_
          refine z_iret hq rfl dX6_shed_164 rfl rfl ?_
          exact fin _ (by rw [val, if_pos (Or.inl h151)])
        · skip
          refine z_iload_n 155 dX6_shed_154 rfl rfl ?_
          refine z_if_ne 163 158 dX6_shed_155 rfl rfl (fun h155 => ?_) (fun h155 => ?_)
          · skip
            refine z_iload_n 164 dX6_shed_163 rfl rfl ?_
            refine z_iret hq rfl dX6_shed_164 rfl rfl ?_
            exact fin _ (by rw [val, if_neg (fun q => q.elim h151 h155)])
          · skip
            refine z_iload 160 dX6_shed_158 rfl rfl ?_
            refine z_goto 164 dX6_shed_160 rfl ?_
            refine z_iret hq rfl dX6_shed_164 rfl rfl ?_
            exact fin _ (by rw [val, if_pos (Or.inr h155)])
      · intro R
        have c5 : k < 5 := by omega
        have e0 : 33 + (p' * 5 + k) = 33 + 5 * p' + k := by omega
        have b9 := ok.he p4 c5
        have bv := ok.vt c5
        have n9 : nrm N (33 + 5 * p' + k) = N (33 + 5 * p' + k) := nrm_c (by omega)
        have nv : nrm N (20 + k) = N (20 + k) := nrm_c (by omega)
        have okb : okQ (shedQ N p' k) := okQ_br okn p4 c5
        have okd := okQ_daysO okb p4 20
        refine z_iload 61 dX6_shed_59 rfl rfl ?_
        refine z_aload_n 62 dX6_shed_61 rfl rfl ?_
        refine y_getr 65 _ sh0 rfl fl_X6_10 dX6_shed_62 rfl ?_
        refine k_get 68 bkm1 hc8 rfl (by decide) fl_X6_103 dX6_shed_65 rfl ?_
        refine z_icmp_ge_f 71 147 dX6_shed_68 rfl (nI_ge hk (by omega)) rfl ?_
        refine z_aload_n 72 dX6_shed_71 rfl rfl ?_
        refine y_getr 75 _ sh0 rfl fl_X6_16 dX6_shed_72 rfl ?_
        refine z_aload_n 76 dX6_shed_75 rfl rfl ?_
        refine y_getr 79 _ sh0 rfl fl_X6_10 dX6_shed_76 rfl ?_
        refine y_cVv 82 _ (n_takeFrom bkm8 bkm1 (by decide) hc8) (bk0 bkm8) cv_X6_96 ⟨by decide, by decide, rfl, rfl⟩ (Nat.le_of_ble_eq_true rfl) dX6_shed_79 rfl rfl ?_
        rw [sp_sp]
        refine z_aload_n 83 dX6_shed_82 rfl rfl ?_
        refine y_getr 86 _ sh0 rfl fl_X6_16 dX6_shed_83 rfl ?_
        refine z_iload_n 87 dX6_shed_86 rfl rfl ?_
        refine z_iload 89 dX6_shed_87 rfl rfl ?_
        refine z_aload_n 90 dX6_shed_89 rfl rfl ?_
        refine y_getr 93 _ sh0 rfl fl_X6_10 dX6_shed_90 rfl ?_
        refine y_getr 96 _ (bk0 bkm1) rfl fl_X6_156 dX6_shed_93 rfl ?_
        refine z_iload_n 97 dX6_shed_96 rfl rfl ?_
        refine z_iconst 98 dX6_shed_97 vi5 rfl ?_
        refine z_imulN 99 rfl (show (5 : Int32) = nI 5 from rfl) dX6_shed_98 rfl ?_
        refine z_iload 101 dX6_shed_99 rfl rfl ?_
        refine z_iaddN 102 rfl rfl dX6_shed_101 rfl ?_
        refine k_ld 103 _ hc8 (bk6 bkm1) rfl (by omega) (by decide) dX6_shed_102 rfl ?_
        rw [e0]
        refine y_cVv 106 _ (c_takeBack bkm8 hds_sp p4 c5 (by rw [n9]; omega) (by rw [nv]; omega)) (bk0 bkm8) cv_X6_183 ⟨by decide, by decide, rfl, rfl⟩ (Nat.le_of_ble_eq_true rfl) dX6_shed_103 rfl rfl ?_
        rw [sp_sp]
        show Y G X mX6_shed (sp σ 8 (shedQ N p' k)) 106 _ _
        refine z_aload_n 107 dX6_shed_106 rfl rfl ?_
        refine y_getr 110 _ sh0 rfl fl_X6_16 dX6_shed_107 rfl ?_
        refine z_iload_n 111 dX6_shed_110 rfl rfl ?_
        refine z_bipush 113 dX6_shed_111 vb20 rfl ?_
        refine y_cVv 116 _ (c_passDaysOfOne (n := 20) bkm8 hds_sp okb p4 (by decide)) (bk0 bkm8) cv_X6_197 ⟨by decide, by decide, rfl, rfl⟩ (Nat.le_of_ble_eq_true rfl) dX6_shed_113 rfl rfl ?_
        rw [sp_sp]
        refine z_aload_n 117 dX6_shed_116 rfl rfl ?_
        refine y_getr 120 _ sh0 rfl fl_X6_16 dX6_shed_117 rfl ?_
        refine z_iload_n 121 dX6_shed_120 rfl rfl ?_
        refine y_cVs 124 _ (c_heldBy bkm8 hds_sp okd.nc p4) (bk0 bkm8) cv_X6_153 ⟨by decide, by decide, rfl, rfl⟩ (Nat.le_of_ble_eq_true rfl) dX6_shed_121 rfl rfl ?_
        refine z_iload_n 125 dX6_shed_124 rfl rfl ?_
        refine z_icmp_le 141 128 dX6_shed_125 rfl rfl (fun h125 => ?_) (fun h125 => ?_)
        · skip
          have e : shR N p' (k + 1) = shR N p' k := am_f h125
          refine z_iinc 144 [_, _, _, _, _, _] dX6_shed_141 rfl (show _ + _ = nI (_ + 1) from nI_1 _) (by decide) rfl rfl rfl ?_
          refine z_goto 59 dX6_shed_144 rfl ?_
          rw [e] at ih
          exact ih _
        · skip
          have e : shR N p' (k + 1) = (nI k, nI (shF N p' k)) := am_t (Int32.not_le.mp h125)
          refine z_aload_n 129 dX6_shed_128 rfl rfl ?_
          refine y_getr 132 _ sh0 rfl fl_X6_16 dX6_shed_129 rfl ?_
          refine z_iload_n 133 dX6_shed_132 rfl rfl ?_
          refine y_cVs 136 _ (c_heldBy bkm8 hds_sp okd.nc p4) (bk0 bkm8) cv_X6_153 ⟨by decide, by decide, rfl, rfl⟩ (Nat.le_of_ble_eq_true rfl) dX6_shed_133 rfl rfl ?_
          refine z_istore_n 137 [_, _, _, _, _, _] dX6_shed_136 (by decide) rfl rfl rfl ?_
          refine z_iload 139 dX6_shed_137 rfl rfl ?_
          refine z_istore 141 [_, _, _, _, _, _] dX6_shed_139 (by decide) rfl rfl rfl ?_
          refine z_iinc 144 [_, _, _, _, _, _] dX6_shed_141 rfl (show _ + _ = nI (_ + 1) from nI_1 _) (by decide) rfl rfl rfl ?_
          refine z_goto 59 dX6_shed_144 rfl ?_
          rw [e] at ih
          exact ih _
    · have no := no (fun h => hw h.2)
      refine z_aload_n 1 dX6_shed_0 rfl rfl ?_
      refine y_getr 4 _ sh0 rfl fl_X6_10 dX6_shed_1 rfl ?_
      refine z_iload_n 5 dX6_shed_4 rfl rfl ?_
      refine y_cVs 8 _ (n_hasOne bkm1 hc ok) (bk0 bkm1) cv_X6_141 ⟨by decide, by decide, rfl, rfl⟩ (Nat.le_of_ble_eq_true rfl) dX6_shed_5 rfl rfl ?_
      refine z_if_eq_f 11 20 dX6_shed_8 rfl (by rw [bi_t hp]; decide) rfl ?_
      refine z_iload_n 12 dX6_shed_11 rfl rfl ?_
      refine z_iconst 13 dX6_shed_12 vi0 rfl ?_
      refine z_iconst 14 dX6_shed_13 vi1 rfl ?_
      refine y_cSs 17 (c_within) cs_X6_73 ⟨by decide, by decide, rfl, rfl⟩ (Nat.le_of_ble_eq_true rfl) dX6_shed_14 rfl rfl ?_
      rw [bw]
      refine z_if_ne_f 20 22 dX6_shed_17 rfl (bi_f hw) rfl ?_
      refine z_iconst 21 dX6_shed_20 vim1 rfl ?_
      refine z_iret hq rfl dX6_shed_21 rfl rfl ?_
      exact ⟨_, no, rfl⟩
  · have no := no (fun h => hp h.1)
    refine z_aload_n 1 dX6_shed_0 rfl rfl ?_
    refine y_getr 4 _ sh0 rfl fl_X6_10 dX6_shed_1 rfl ?_
    refine z_iload_n 5 dX6_shed_4 rfl rfl ?_
    refine y_cVs 8 _ (n_hasOne bkm1 hc ok) (bk0 bkm1) cv_X6_141 ⟨by decide, by decide, rfl, rfl⟩ (Nat.le_of_ble_eq_true rfl) dX6_shed_5 rfl rfl ?_
    refine z_if_eq_t 20 dX6_shed_8 rfl (bi_f hp) ?_
    refine z_iconst 21 dX6_shed_20 vim1 rfl ?_
    refine z_iret hq rfl dX6_shed_21 rfl rfl ?_
    exact ⟨_, no, rfl⟩
set_option maxRecDepth 100000 in
set_option maxHeartbeats 2000000 in
theorem r_shed {l : Launch} {G : zG} {σ : Nat → Int32} {N : Pg} {p w : Int32} (hc : hdk σ 0 N) (ok : okQ N) (hs : N 54 ≤ 1000000) : zMet l yX7_shed mX7_shed [.ref (zGa G 158), .int p, .int w] G (zW G σ) (zP G (pQ σ (vShed N p w))) := by
  have b4 := ok.np
  have b5 := ok.nc
  have bw : bi ((0 : Int64) ≤ w.toInt64 ∧ w.toInt64 ≤ 1) = bi (inR w 2) := bi_in7 (n := 1) (by decide)
  have no : ¬ (inR p (N 57) ∧ inR w 2) → pQ σ (vShed N p w) (some (.int (-1))) σ := fun h => ⟨by rw [vShed, if_neg h], same.rf⟩
  have okn := okQ_nrm ok
  have hdr_rsp : ∀ {τ : Nat → Int32} {R : Pg}, hdr (rsp τ 275 R) 275 R := hdr_rsp' (by decide)
  have hdr_220 : ∀ {τ : Nat → Int32} {R : Pg}, hdr (rsp τ 220 R) 220 R := hdr_rsp' (by decide)
  refine zMet.of (by decide) rfl (Nat.le_of_ble_eq_true rfl) (Or.inr rfl) fun X hX hq => ?_
  subst hX
  show Y G X mX7_shed σ 0 [some (.ref (zGa G 158)), some (.int p), some (.int w), none, none, none, none] []
  by_cases hp : inR p (N 57)
  · by_cases hw : inR w 2
    · obtain ⟨p', hp', rfl⟩ := inR_of hp (by omega)
      obtain ⟨w', hw', rfl⟩ := inR_of hw (by decide)
      have p4 : p' < 4 := by omega
      have val : vShed N (nI p') (nI w') = if (shR N p' (N 56)).1 = -4 ∨ nI w' = 0 then (shR N p' (N 56)).1 else (shR N p' (N 56)).2 := by rw [vShed, if_pos ⟨hp, hw⟩, nN_nI (by omega)]
      have np : p' < nrm N 57 := by rw [nrm_c (by decide)]; exact hp'
      have okd0 := okQ_daysA okn 20
      have base : heldQ (daysA (nrm N) 20) p' = heldQ (daysO (nrm N) p' 20) p' := heldQ_S (daysA_S okn np 20) (okQ_daysO okn p4 20).nc
      have cnt : daysA (nrm N) 20 56 = N 56 ∧ daysA (nrm N) 20 57 = N 57 := ⟨(daysA_56 okn 20).1.trans (nrm_c (by decide)), (daysA_56 okn 20).2.1.trans (nrm_c (by decide))⟩
      refine z_aload_n 1 dX7_shed_0 rfl rfl ?_
      refine z_iload_n 2 dX7_shed_1 rfl rfl ?_
      refine y_cVs 5 _ (q_isOne (o := 0) hc ok) sh158 cv_X7_182 ⟨by decide, by decide, rfl, rfl⟩ (Nat.le_of_ble_eq_true rfl) dX7_shed_2 rfl rfl ?_
      refine z_if_eq_f 8 18 dX7_shed_5 rfl (by rw [bi_t hp]; decide) rfl ?_
      refine z_iload_n 9 dX7_shed_8 rfl rfl ?_
      refine z_i2l 10 dX7_shed_9 rfl ?_
      refine z_lconst 11 dX7_shed_10 vl0 rfl ?_
      refine z_lconst 12 dX7_shed_11 vl1 rfl ?_
      refine y_cSs 15 (c_in) cs_X7_55 ⟨by decide, by decide, rfl, rfl⟩ (Nat.le_of_ble_eq_true rfl) dX7_shed_12 rfl rfl ?_
      rw [bw]
      refine z_if_ne_t 20 dX7_shed_15 rfl (by rw [bi_t hw]; decide) ?_
      refine z_aload_n 21 dX7_shed_20 rfl rfl ?_
      refine z_iconst 22 dX7_shed_21 vi0 rfl ?_
      refine z_bipush 24 dX7_shed_22 vb20 rfl ?_
      refine y_cVs 27 _ (c_daysGo (o := 0) (n := 20) hc (by decide) ok (by decide) hs) sh158 cv_X7_222 ⟨by decide, by decide, rfl, rfl⟩ (Nat.le_of_ble_eq_true rfl) dX7_shed_24 rfl rfl ?_
      refine z_pop 28 dX7_shed_27 rfl rfl ?_
      refine z_aload_n 29 dX7_shed_28 rfl rfl ?_
      refine z_sipush 32 dX7_shed_29 vs220 rfl ?_
      refine z_iload_n 33 dX7_shed_32 rfl rfl ?_
      refine y_cVs 36 _ (c_heldOn (o := 220) hdr_220 (by decide) okd0.nc p4) sh158 cv_X7_151 ⟨by decide, by decide, rfl, rfl⟩ (Nat.le_of_ble_eq_true rfl) dX7_shed_33 rfl rfl ?_
      rw [base]
      refine z_istore_n 37 [_, _, _, _, _, _, _] dX7_shed_36 (by decide) rfl rfl rfl ?_
      refine z_bipush 39 dX7_shed_37 vbm4 rfl ?_
      refine z_istore 41 [_, _, _, _, _, _, _] dX7_shed_39 (by decide) rfl rfl rfl ?_
      refine z_iconst 42 dX7_shed_41 vi0 rfl ?_
      refine z_istore 44 [_, _, _, _, _, _, _] dX7_shed_42 (by decide) rfl rfl rfl ?_
      refine zup (P := fun k => ∀ τ, same τ σ → ∀ u, Y G X mX7_shed τ 44 [some (.ref (zGa G 158)), some (.int (nI p')), some (.int (nI w')), some (.int (shR N p' k).2), some (.int (shR N p' k).1), some (.int (nI k)), u] []) (N 56) ?_ (fun k hk ih => ?_) 0 (Nat.zero_le _) _ (same_dg hc cnt.1 cnt.2) _
      · intro τ hτ u
        have hcτ := hdk0 hc hτ
        have fin : ∀ V, V = vShed N (nI p') (nI w') → zP G (pQ σ (vShed N (nI p') (nI w'))) (some (.int V)) (zW G τ) := fun V hV => ⟨_, ⟨by rw [hV], hτ⟩, rfl⟩
        refine z_iload 46 dX7_shed_44 rfl rfl ?_
        refine z_aload_n 47 dX7_shed_46 rfl rfl ?_
        refine q_get 50 hcτ rfl (by decide) fl_X7_142 dX7_shed_47 rfl ?_
        refine z_icmp_ge_t 139 dX7_shed_50 rfl (Int32.le_refl _) ?_
        refine z_iload 141 dX7_shed_139 rfl rfl ?_
        refine z_bipush 143 dX7_shed_141 vbm4 rfl ?_
        refine z_icmp_eq 150 146 dX7_shed_143 rfl rfl (fun h143 => ?_) (fun h143 => ?_)
        · skip
          refine z_iload 152 dX7_shed_150 rfl rfl ?_
          refine z_goto 156 dX7_shed_152 rfl ?_
          refine z_iret hq rfl dX7_shed_156 rfl rfl ?_
          exact fin _ (by rw [val, if_pos (Or.inl h143)])
        · skip
          refine z_iload_n 147 dX7_shed_146 rfl rfl ?_
          refine z_if_ne 155 150 dX7_shed_147 rfl rfl (fun h147 => ?_) (fun h147 => ?_)
          · skip
            refine z_iload_n 156 dX7_shed_155 rfl rfl ?_
            refine z_iret hq rfl dX7_shed_156 rfl rfl ?_
            exact fin _ (by rw [val, if_neg (fun q => q.elim h143 h147)])
          · skip
            refine z_iload 152 dX7_shed_150 rfl rfl ?_
            refine z_goto 156 dX7_shed_152 rfl ?_
            refine z_iret hq rfl dX7_shed_156 rfl rfl ?_
            exact fin _ (by rw [val, if_pos (Or.inr h147)])
      · intro τ hτ u
        have hcτ := hdk0 hc hτ
        have c5 : k < 5 := by omega
        have b9 := ok.he p4 c5
        have bv := ok.vt c5
        have eE : eqc (exq τ 275 N) N := exq_c
        have cpe := cp_rsp hcτ (t := 275) (by decide) (by decide) (by decide)
        generalize exq τ 275 N = E at eE cpe
        have okE := ok.eqc eE
        have q8 : E (20 + k) = N (20 + k) := eE _ (by omega)
        have q9 : E (33 + 5 * p' + k) = N (33 + 5 * p' + k) := eE _ (by omega)
        have hc2 : hdk (rsp τ 275 E) 0 N := hdk_rsp_off hcτ (by decide) (by decide) (eE 56 (by decide)) (eE 57 (by decide))
        have e4 : eqc (brQ E p' k (N (33 + 5 * p' + k))) (shedQ N p' k) := brQ_c (eE.trans eqc_nrm.symm) p4 c5
        have okb : okQ (shedQ N p' k) := okQ_br okn p4 c5
        have okl := okb.eqc e4
        have okd := okQ_daysA (okQ_nrm okl) 20
        have l54 : brQ E p' k (N (33 + 5 * p' + k)) 54 = N 54 := by rw [brQ, un_n (by omega), un_n (by omega)]; exact eE 54 (by decide)
        have l56 : brQ E p' k (N (33 + 5 * p' + k)) 56 = N 56 := by rw [brQ, un_n (by omega), un_n (by omega)]; exact eE 56 (by decide)
        have l57 : brQ E p' k (N (33 + 5 * p' + k)) 57 = N 57 := by rw [brQ, un_n (by omega), un_n (by omega)]; exact eE 57 (by decide)
        have hv : heldQ (daysA (nrm (brQ E p' k (N (33 + 5 * p' + k)))) 20) p' = shF N p' k := by
          have h1 := daysA_S (okQ_nrm okl) (show p' < nrm (brQ E p' k (N (33 + 5 * p' + k))) 57 by rw [nrm_c (by decide), l57]; exact hp') 20
          rw [heldQ_S h1 (okQ_daysO (okQ_nrm okl) p4 20).nc, nrm_eq e4]
          exact heldQ_S (sz_S (fun i hi => by unfold pS at hi; exact nrm_c (by omega)) (okQ_nrm okb) okb p4 20).1 (okQ_daysO okb p4 20).nc
        have s1 : same (rsp τ 275 (brQ E p' k (N (33 + 5 * p' + k)))) σ := same_rsp hτ (by decide) (by rw [l56]; exact hcτ 56 (by decide)) (by rw [l57]; exact hcτ 57 (by decide))
        have s2 : ∀ x, same (rsp (upd (rsp τ 275 (brQ E p' k (N (33 + 5 * p' + k)))) (400 * 158 + 22) x) 220 (daysA (nrm (brQ E p' k (N (33 + 5 * p' + k)))) 20)) σ := fun x => same_d220 s1 (by rw [(rsp_56 (by decide)).1, (daysA_56 (okQ_nrm okl) 20).1, nrm_c (by decide)]) (by rw [(rsp_56 (by decide)).2, (daysA_56 (okQ_nrm okl) 20).2.1, nrm_c (by decide)])
        refine z_iload 46 dX7_shed_44 rfl rfl ?_
        refine z_aload_n 47 dX7_shed_46 rfl rfl ?_
        refine q_get 50 (by first | exact hcτ | exact hc2) rfl (by decide) fl_X7_142 dX7_shed_47 rfl ?_
        refine z_icmp_ge_f 53 139 dX7_shed_50 rfl (nI_ge hk (by omega)) rfl ?_
        refine z_aload_n 54 dX7_shed_53 rfl rfl ?_
        refine z_iconst 55 dX7_shed_54 vi0 rfl ?_
        refine z_sipush 58 dX7_shed_55 vs275 rfl ?_
        refine y_cVv 61 _ (c_copies (f := 0) (t := 275) (by decide) (by decide) (by decide)) sh158 cv_X7_212 ⟨by decide, by decide, rfl, rfl⟩ (Nat.le_of_ble_eq_true rfl) dX7_shed_58 rfl rfl ?_
        rw [cpe]
        refine z_aload_n 62 dX7_shed_61 rfl rfl ?_
        refine z_sipush 65 dX7_shed_62 vs275 rfl ?_
        refine z_iload_n 66 dX7_shed_65 rfl rfl ?_
        refine z_iload 68 dX7_shed_66 rfl rfl ?_
        refine z_aload_n 69 dX7_shed_68 rfl rfl ?_
        refine y_getr 72 _ sh158 rfl fl_X7_7 dX7_shed_69 rfl ?_
        refine z_bipush 74 dX7_shed_72 vb33 rfl ?_
        refine z_iconst 75 dX7_shed_74 vi5 rfl ?_
        refine z_iload_n 76 dX7_shed_75 rfl rfl ?_
        refine z_imulN 77 (show (5 : Int32) = nI 5 from rfl) rfl dX7_shed_76 rfl ?_
        refine z_iaddN 78 (show (33 : Int32) = nI 33 from rfl) rfl dX7_shed_77 rfl ?_
        refine z_iload 80 dX7_shed_78 rfl rfl ?_
        refine z_iaddN 81 rfl rfl dX7_shed_80 rfl ?_
        refine q_ld 82 (33 + 5 * p' + k) (by first | exact hcτ | exact hc2) rfl (by omega) (by omega) (by omega) dX7_shed_81 rfl ?_
        refine y_cVv 85 _ (c_bringsOn (o := 275) hdr_rsp (by decide) p4 c5 (by omega) (by omega)) sh158 cv_X7_203 ⟨by decide, by decide, rfl, rfl⟩ (Nat.le_of_ble_eq_true rfl) dX7_shed_82 rfl rfl ?_
        rw [rsp_rsp]
        show Y G X mX7_shed (rsp τ 275 (brQ E p' k (N (33 + 5 * p' + k)))) 85 _ _
        refine z_aload_n 86 dX7_shed_85 rfl rfl ?_
        refine z_sipush 89 dX7_shed_86 vs275 rfl ?_
        refine z_bipush 91 dX7_shed_89 vb20 rfl ?_
        refine y_cVs 94 _ (c_daysGo (o := 275) (n := 20) hdr_rsp.k (by decide) okl (by decide) (by omega)) sh158 cv_X7_222 ⟨by decide, by decide, rfl, rfl⟩ (Nat.le_of_ble_eq_true rfl) dX7_shed_91 rfl rfl ?_
        refine z_pop 95 dX7_shed_94 rfl rfl ?_
        refine z_aload_n 96 dX7_shed_95 rfl rfl ?_
        refine z_sipush 99 dX7_shed_96 vs220 rfl ?_
        refine z_iload_n 100 dX7_shed_99 rfl rfl ?_
        refine y_cVs 103 _ (c_heldOn (o := 220) hdr_220 (by decide) okd.nc p4) sh158 cv_X7_151 ⟨by decide, by decide, rfl, rfl⟩ (Nat.le_of_ble_eq_true rfl) dX7_shed_100 rfl rfl ?_
        rw [hv]
        refine z_istore 105 [_, _, _, _, _, _, _] dX7_shed_103 (by decide) rfl rfl rfl ?_
        refine z_iload 107 dX7_shed_105 rfl rfl ?_
        refine z_iload_n 108 dX7_shed_107 rfl rfl ?_
        refine z_icmp_le 116 111 dX7_shed_108 rfl rfl (fun h108 => ?_) (fun h108 => ?_)
        · skip
          have e : shR N p' (k + 1) = shR N p' k := am_f h108
          refine z_iload 118 dX7_shed_116 rfl rfl ?_
          refine z_istore 120 [_, _, _, _, _, _, _] dX7_shed_118 (by decide) rfl rfl rfl ?_
          refine z_iload 122 dX7_shed_120 rfl rfl ?_
          refine z_iload_n 123 dX7_shed_122 rfl rfl ?_
          refine z_icmp_le_t 131 dX7_shed_123 rfl (h108) ?_
          refine z_iload_n 132 dX7_shed_131 rfl rfl ?_
          refine z_istore_n 133 [_, _, _, _, _, _, _] dX7_shed_132 (by decide) rfl rfl rfl ?_
          refine z_iinc 136 [_, _, _, _, _, _, _] dX7_shed_133 rfl (show _ + _ = nI (_ + 1) from nI_1 _) (by decide) rfl rfl rfl ?_
          refine z_goto 44 dX7_shed_136 rfl ?_
          rw [e] at ih
          exact ih _ (s2 _) _
        · skip
          have e : shR N p' (k + 1) = (nI k, nI (shF N p' k)) := am_t (Int32.not_le.mp h108)
          refine z_iload 113 dX7_shed_111 rfl rfl ?_
          refine z_goto 118 dX7_shed_113 rfl ?_
          refine z_istore 120 [_, _, _, _, _, _, _] dX7_shed_118 (by decide) rfl rfl rfl ?_
          refine z_iload 122 dX7_shed_120 rfl rfl ?_
          refine z_iload_n 123 dX7_shed_122 rfl rfl ?_
          refine z_icmp_le_f 126 131 dX7_shed_123 rfl (h108) rfl ?_
          refine z_iload 128 dX7_shed_126 rfl rfl ?_
          refine z_goto 132 dX7_shed_128 rfl ?_
          refine z_istore_n 133 [_, _, _, _, _, _, _] dX7_shed_132 (by decide) rfl rfl rfl ?_
          refine z_iinc 136 [_, _, _, _, _, _, _] dX7_shed_133 rfl (show _ + _ = nI (_ + 1) from nI_1 _) (by decide) rfl rfl rfl ?_
          refine z_goto 44 dX7_shed_136 rfl ?_
          rw [e] at ih
          exact ih _ (s2 _) _
    · have no := no (fun h => hw h.2)
      refine z_aload_n 1 dX7_shed_0 rfl rfl ?_
      refine z_iload_n 2 dX7_shed_1 rfl rfl ?_
      refine y_cVs 5 _ (q_isOne (o := 0) hc ok) sh158 cv_X7_182 ⟨by decide, by decide, rfl, rfl⟩ (Nat.le_of_ble_eq_true rfl) dX7_shed_2 rfl rfl ?_
      refine z_if_eq_f 8 18 dX7_shed_5 rfl (by rw [bi_t hp]; decide) rfl ?_
      refine z_iload_n 9 dX7_shed_8 rfl rfl ?_
      refine z_i2l 10 dX7_shed_9 rfl ?_
      refine z_lconst 11 dX7_shed_10 vl0 rfl ?_
      refine z_lconst 12 dX7_shed_11 vl1 rfl ?_
      refine y_cSs 15 (c_in) cs_X7_55 ⟨by decide, by decide, rfl, rfl⟩ (Nat.le_of_ble_eq_true rfl) dX7_shed_12 rfl rfl ?_
      rw [bw]
      refine z_if_ne_f 18 20 dX7_shed_15 rfl (bi_f hw) rfl ?_
      refine z_iconst 19 dX7_shed_18 vim1 rfl ?_
      refine z_iret hq rfl dX7_shed_19 rfl rfl ?_
      exact ⟨_, no, rfl⟩
  · have no := no (fun h => hp h.1)
    refine z_aload_n 1 dX7_shed_0 rfl rfl ?_
    refine z_iload_n 2 dX7_shed_1 rfl rfl ?_
    refine y_cVs 5 _ (q_isOne (o := 0) hc ok) sh158 cv_X7_182 ⟨by decide, by decide, rfl, rfl⟩ (Nat.le_of_ble_eq_true rfl) dX7_shed_2 rfl rfl ?_
    refine z_if_eq_t 18 dX7_shed_5 rfl (bi_f hp) ?_
    refine z_iconst 19 dX7_shed_18 vim1 rfl ?_
    refine z_iret hq rfl dX7_shed_19 rfl rfl ?_
    exact ⟨_, no, rfl⟩

