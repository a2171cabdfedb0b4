/-! ===== drift ===== -/
def gotN (x : Int32) : Nat := x.toBitVec.toNat / 65536 % 32768
theorem got_u (x : Int32) : (x.toUInt32 >>> ((16 : Int32).toUInt32 &&& Int32.toUInt32 31)).toInt32 &&& 32767 = nI (gotN x) := by
  rw [pk_and _ 15 (by decide), pk_ushr x 16 16 (by decide)]; rfl
theorem got_s (x : Int32) : (x >>> ((16 : Int32) &&& 31)) &&& 32767 = nI (gotN x) := by
  rw [pk_and _ 15 (by decide)]
  have h := pk_shr x ((16 : Int32) &&& 31) 16 (by decide)
  generalize x >>> ((16 : Int32) &&& 31) = y at h
  have ex : x.toInt = x.toBitVec.toInt := rfl
  have ey : y.toInt = y.toBitVec.toInt := rfl
  rw [ex, ey, Int.shiftRight_eq_div_pow, BitVec.toInt_eq_toNat_cond, BitVec.toInt_eq_toNat_cond] at h
  have lx := x.toBitVec.isLt
  have ly := y.toBitVec.isLt
  congr 1
  rw [gotN]
  generalize x.toBitVec.toNat = a at *
  generalize y.toBitVec.toNat = b at *
  split at h <;> split at h <;> omega
theorem got_lt (x : Int32) : gotN x < 32768 := Nat.mod_lt _ (by decide)
def drN (seed : Int32) : Nat → Int32
  | 0 => seed
  | i + 1 => drN seed i * 1103515245 + 12345
def drS (N : Pg) (g : Nat) (Q : Pg) : Pg := dayA (lendQ Q (nI (g % N 57)) (nI (g / 8 % N 56)) (nI (1 + g / 64 % 9))) 1
def drQ (N : Pg) (seed : Int32) (E : Pg) : Nat → Pg
  | 0 => E
  | i + 1 => drS N (gotN (drN seed (i + 1))) (drQ N seed E i)
theorem okQ_dayA1 {Q : Pg} (ok : okQ Q) : okQ (dayA Q 1) := okQ_daysA ok 1
theorem okQ_drQ {N E : Pg} {seed : Int32} (ok : okQ E) : ∀ i, okQ (drQ N seed E i)
  | 0 => ok
  | i + 1 => okQ_dayA1 (okQ_lendQ (okQ_drQ ok i))
theorem drQ_c {N E F : Pg} {seed : Int32} (e : eqc E F) (ok : okQ F) : ∀ i, eqc (drQ N seed E i) (drQ N seed F i)
  | 0 => e
  | i + 1 => dayA_c (lendQ_c (drQ_c e ok i) (okQ_drQ ok i)) (okQ_lendQ (okQ_drQ ok i))
theorem drQ_56 {N E : Pg} {seed : Int32} (ok : okQ E) : ∀ i, drQ N seed E i 56 = E 56 ∧ drQ N seed E i 57 = E 57
  | 0 => ⟨rfl, rfl⟩
  | i + 1 => by
    have h1 := dayA_56 (t := 1) (okQ_lendQ (p := nI (gotN (drN seed (i + 1)) % N 57)) (c := nI (gotN (drN seed (i + 1)) / 8 % N 56)) (n := nI (1 + gotN (drN seed (i + 1)) / 64 % 9)) (okQ_drQ (N := N) (seed := seed) ok i))
    have h2 := lendQ_56 (p := nI (gotN (drN seed (i + 1)) % N 57)) (c := nI (gotN (drN seed (i + 1)) / 8 % N 56)) (n := nI (1 + gotN (drN seed (i + 1)) / 64 % 9)) (okQ_drQ (N := N) (seed := seed) ok i)
    have h3 := drQ_56 (N := N) (seed := seed) ok i
    exact ⟨h1.1.trans (h2.1.trans h3.1), h1.2.1.trans (h2.2.trans h3.2)⟩
theorem okZ_lendQ {Q : Pg} {p c n : Int32} (oz : okZ Q) (ok : okQ Q) : okZ (lendQ Q p c n) := by
  by_cases h : lendOk Q p c n ∧ ¬ lendNo Q p c n
  · rw [lendQ, if_pos h]
    have b1 := ok.nc
    have b2 := ok.np
    obtain ⟨⟨h1, h2, -⟩, -⟩ := h
    obtain ⟨p', hp, rfl⟩ := inR_of h1 (by omega)
    obtain ⟨c', hc, rfl⟩ := inR_of h2 (by omega)
    rw [nN_nI (by omega), nN_nI (by omega)]
    intro q d hq hd hx
    rw [un_n (by omega), un_n (by omega), un_n (by omega), un_n (by omega)] at hx
    rw [un_n (by omega), un_n (by omega)]
    exact oz q d hq hd hx
  · rw [lendQ, if_neg h]; exact oz
theorem okZ_drQ {N E : Pg} {seed : Int32} (oz : okZ E) (ok : okQ E) : ∀ i, okZ (drQ N seed E i)
  | 0 => oz
  | i + 1 => okZ_dayA (okZ_lendQ (okZ_drQ oz ok i) (okQ_drQ ok i)) (okQ_lendQ (okQ_drQ ok i))
abbrev okDr (n w : Int32) : Prop := ((1 : Int32) ≤ n ∧ n ≤ 60) ∧ inR w 2
def vDrift (N : Pg) (seed n w : Int32) : Int32 := if okDr n w then (if N 56 = 0 ∨ N 57 = 0 then -2 else if w = 0 then nI (heldA (drQ N seed (nrm N) (nN n))) else nI (drQ N seed (nrm N) (nN n) 54) - nI (N 54)) else -1
theorem le_nI60 {n : Int32} (h : (1 : Int32) ≤ n ∧ n ≤ 60) : ∃ j, 1 ≤ j ∧ j ≤ 60 ∧ n = nI j := by
  obtain ⟨h1, h2⟩ := h
  rw [Int32.le_iff_toInt_le] at h1 h2
  have e1 : (1 : Int32).toInt = 1 := by decide
  have e2 : (60 : Int32).toInt = 60 := by decide
  obtain ⟨j, hj, e⟩ := inR_of (x := n) (n := 61) ⟨by omega, by omega⟩ (by decide)
  refine ⟨j, ?_, by omega, e⟩
  rw [e, nI_toInt (by omega)] at h1
  omega
set_option maxRecDepth 100000 in
set_option maxHeartbeats 2000000 in
theorem x_drift {l : Launch} {G : zG} {σ : Nat → Int32} {N : Pg} {seed n w : Int32} (hc : hdc σ 1 N) (ok : okQ N) (oz : okZ N) : zMet l yX6_drift mX6_drift [.ref (zGa G 0), .int seed, .int n, .int w] G (zW G σ) (zP G (pQ σ (vDrift N seed n w))) := by
  have b5 := ok.nc
  have b4 := ok.np
  have bw : bi ((0 : Int32) ≤ w ∧ w ≤ 1) = bi (inR w 2) := bi_cg (le_inR (n := 1) (by decide))
  have no : ¬ okDr n w → pQ σ (vDrift N seed n w) (some (.int (-1))) σ := fun h => ⟨by rw [vDrift, if_neg h], same.rf⟩
  refine zMet.of (by decide) rfl (Nat.le_of_ble_eq_true rfl) (Or.inr rfl) fun X hX hq => ?_
  subst hX
  show Y G X mX6_drift σ 0 [some (.ref (zGa G 0)), some (.int seed), some (.int n), some (.int w), none, none, none] []
  by_cases hn : (1 : Int32) ≤ n ∧ n ≤ 60
  · by_cases hw : inR w 2
    · by_cases h0 : N 56 = 0
      · skip
        refine z_iload_n 1 dX6_drift_0 rfl rfl ?_
        refine z_iconst 2 dX6_drift_1 vi1 rfl ?_
        refine z_bipush 4 dX6_drift_2 vb60 rfl ?_
        refine y_cSs 7 (c_within) cs_X6_73 ⟨by decide, by decide, rfl, rfl⟩ (Nat.le_of_ble_eq_true rfl) dX6_drift_4 rfl rfl ?_
        refine z_if_eq_f 10 19 dX6_drift_7 rfl (by rw [bi_t hn]; decide) rfl ?_
        refine z_iload_n 11 dX6_drift_10 rfl rfl ?_
        refine z_iconst 12 dX6_drift_11 vi0 rfl ?_
        refine z_iconst 13 dX6_drift_12 vi1 rfl ?_
        refine y_cSs 16 (c_within) cs_X6_73 ⟨by decide, by decide, rfl, rfl⟩ (Nat.le_of_ble_eq_true rfl) dX6_drift_13 rfl rfl ?_
        rw [bw]
        refine z_if_ne_t 21 dX6_drift_16 rfl (by rw [bi_t hw]; decide) ?_
        refine z_aload_n 22 dX6_drift_21 rfl rfl ?_
        refine y_getr 25 _ sh0 rfl fl_X6_10 dX6_drift_22 rfl ?_
        refine k_get 28 bkm1 hc rfl (by decide) fl_X6_103 dX6_drift_25 rfl ?_
        refine z_if_eq_t 41 dX6_drift_28 rfl (by rw [h0]; rfl) ?_
        refine z_bipush 43 dX6_drift_41 vbm2 rfl ?_
        refine z_iret hq rfl dX6_drift_43 rfl rfl ?_
        exact ⟨_, ⟨by rw [vDrift, if_pos ⟨hn, hw⟩, if_pos (Or.inl h0)], same.rf⟩, rfl⟩
      by_cases h1 : N 57 = 0
      · skip
        refine z_iload_n 1 dX6_drift_0 rfl rfl ?_
        refine z_iconst 2 dX6_drift_1 vi1 rfl ?_
        refine z_bipush 4 dX6_drift_2 vb60 rfl ?_
        refine y_cSs 7 (c_within) cs_X6_73 ⟨by decide, by decide, rfl, rfl⟩ (Nat.le_of_ble_eq_true rfl) dX6_drift_4 rfl rfl ?_
        refine z_if_eq_f 10 19 dX6_drift_7 rfl (by rw [bi_t hn]; decide) rfl ?_
        refine z_iload_n 11 dX6_drift_10 rfl rfl ?_
        refine z_iconst 12 dX6_drift_11 vi0 rfl ?_
        refine z_iconst 13 dX6_drift_12 vi1 rfl ?_
        refine y_cSs 16 (c_within) cs_X6_73 ⟨by decide, by decide, rfl, rfl⟩ (Nat.le_of_ble_eq_true rfl) dX6_drift_13 rfl rfl ?_
        rw [bw]
        refine z_if_ne_t 21 dX6_drift_16 rfl (by rw [bi_t hw]; decide) ?_
        refine z_aload_n 22 dX6_drift_21 rfl rfl ?_
        refine y_getr 25 _ sh0 rfl fl_X6_10 dX6_drift_22 rfl ?_
        refine k_get 28 bkm1 hc rfl (by decide) fl_X6_103 dX6_drift_25 rfl ?_
        refine z_if_eq_f 31 41 dX6_drift_28 rfl (nI_ne0 (by omega) (by omega)) rfl ?_
        refine z_aload_n 32 dX6_drift_31 rfl rfl ?_
        refine y_getr 35 _ sh0 rfl fl_X6_10 dX6_drift_32 rfl ?_
        refine k_get 38 bkm1 hc rfl (by decide) fl_X6_106 dX6_drift_35 rfl ?_
        refine z_if_ne_f 41 44 dX6_drift_38 rfl (by rw [h1]; rfl) rfl ?_
        refine z_bipush 43 dX6_drift_41 vbm2 rfl ?_
        refine z_iret hq rfl dX6_drift_43 rfl rfl ?_
        exact ⟨_, ⟨by rw [vDrift, if_pos ⟨hn, hw⟩, if_pos (Or.inr h1)], same.rf⟩, rfl⟩
      obtain ⟨n', hn1, hn2, rfl⟩ := le_nI60 hn
      have val : vDrift N seed (nI n') w = if w = 0 then nI (heldA (drQ N seed (nrm N) n')) else nI (drQ N seed (nrm N) n' 54) - nI (N 54) := by rw [vDrift, if_pos ⟨hn, hw⟩, if_neg (fun q => q.elim h0 h1), nN_nI (by omega)]
      have okn := okQ_nrm ok
      have ozn := okZ_nrm oz
      refine z_iload_n 1 dX6_drift_0 rfl rfl ?_
      refine z_iconst 2 dX6_drift_1 vi1 rfl ?_
      refine z_bipush 4 dX6_drift_2 vb60 rfl ?_
      refine y_cSs 7 (c_within) cs_X6_73 ⟨by decide, by decide, rfl, rfl⟩ (Nat.le_of_ble_eq_true rfl) dX6_drift_4 rfl rfl ?_
      refine z_if_eq_f 10 19 dX6_drift_7 rfl (by rw [bi_t hn]; decide) rfl ?_
      refine z_iload_n 11 dX6_drift_10 rfl rfl ?_
      refine z_iconst 12 dX6_drift_11 vi0 rfl ?_
      refine z_iconst 13 dX6_drift_12 vi1 rfl ?_
      refine y_cSs 16 (c_within) cs_X6_73 ⟨by decide, by decide, rfl, rfl⟩ (Nat.le_of_ble_eq_true rfl) dX6_drift_13 rfl rfl ?_
      rw [bw]
      refine z_if_ne_t 21 dX6_drift_16 rfl (by rw [bi_t hw]; decide) ?_
      refine z_aload_n 22 dX6_drift_21 rfl rfl ?_
      refine y_getr 25 _ sh0 rfl fl_X6_10 dX6_drift_22 rfl ?_
      refine k_get 28 bkm1 hc rfl (by decide) fl_X6_103 dX6_drift_25 rfl ?_
      refine z_if_eq_f 31 41 dX6_drift_28 rfl (nI_ne0 (by omega) (by omega)) rfl ?_
      refine z_aload_n 32 dX6_drift_31 rfl rfl ?_
      refine y_getr 35 _ sh0 rfl fl_X6_10 dX6_drift_32 rfl ?_
      refine k_get 38 bkm1 hc rfl (by decide) fl_X6_106 dX6_drift_35 rfl ?_
      refine z_if_ne_t 44 dX6_drift_38 rfl (nI_ne0 (by omega) (by omega)) ?_
      refine z_aload_n 45 dX6_drift_44 rfl rfl ?_
      refine y_getr 48 _ sh0 rfl fl_X6_16 dX6_drift_45 rfl ?_
      refine z_aload_n 49 dX6_drift_48 rfl rfl ?_
      refine y_getr 52 _ sh0 rfl fl_X6_10 dX6_drift_49 rfl ?_
      refine y_cVv 55 _ (n_takeFrom bkm8 bkm1 (by decide) hc) (bk0 bkm8) cv_X6_96 ⟨by decide, by decide, rfl, rfl⟩ (Nat.le_of_ble_eq_true rfl) dX6_drift_52 rfl rfl ?_
      refine z_iload_n 56 dX6_drift_55 rfl rfl ?_
      refine z_istore 58 [_, _, _, _, _, _, _] dX6_drift_56 (by decide) rfl rfl rfl ?_
      refine z_iconst 59 dX6_drift_58 vi0 rfl ?_
      refine z_istore 61 [_, _, _, _, _, _, _] dX6_drift_59 (by decide) rfl rfl rfl ?_
      refine zup (P := fun i => ∀ u, Y G X mX6_drift (sp σ 8 (drQ N seed (nrm N) i)) 61 [some (.ref (zGa G 0)), some (.int seed), some (.int (nI n')), some (.int w), some (.int (drN seed i)), some (.int (nI i)), u] []) n' ?_ (fun i hi ih => ?_) 0 (Nat.zero_le _) _
      · intro u
        have okd := okQ_drQ (N := N) (seed := seed) okn n'
        have hc8 := hdc_off (r := 8) (Q := drQ N seed (nrm N) n') hc (by decide)
        refine z_iload 63 dX6_drift_61 rfl rfl ?_
        refine z_iload_n 64 dX6_drift_63 rfl rfl ?_
        refine z_icmp_ge_t 145 dX6_drift_64 rfl (Int32.le_refl _) ?_
        refine z_iload_n 146 dX6_drift_145 rfl rfl ?_
        refine z_if_ne 159 149 dX6_drift_146 rfl rfl (fun h146 => ?_) (fun h146 => ?_)
        · skip
          refine z_aload_n 160 dX6_drift_159 rfl rfl ?_
          refine y_getr 163 _ sh0 rfl fl_X6_16 dX6_drift_160 rfl ?_
          refine p_get 166 bkm8 rfl fl_X6_112 dX6_drift_163 rfl ?_
          refine z_aload_n 167 dX6_drift_166 rfl rfl ?_
          refine y_getr 170 _ sh0 rfl fl_X6_10 dX6_drift_167 rfl ?_
          refine k_get 173 bkm1 hc8 rfl (by decide) fl_X6_112 dX6_drift_170 rfl ?_
          refine z_isub 174 dX6_drift_173 rfl ?_
          refine z_iret hq rfl dX6_drift_174 rfl rfl ?_
          exact ⟨_, ⟨by rw [val, if_neg h146], same_sp8 same.rf⟩, rfl⟩
        · skip
          refine z_aload_n 150 dX6_drift_149 rfl rfl ?_
          refine y_getr 153 _ sh0 rfl fl_X6_16 dX6_drift_150 rfl ?_
          refine y_cVs 156 _ (c_heldByAll bkm8 hds_sp okd.nc okd.np (okZ_drQ ozn okn n')) (bk0 bkm8) cv_X6_118 ⟨by decide, by decide, rfl, rfl⟩ (Nat.le_of_ble_eq_true rfl) dX6_drift_153 rfl rfl ?_
          refine z_goto 174 dX6_drift_156 rfl ?_
          refine z_iret hq rfl dX6_drift_174 rfl rfl ?_
          exact ⟨_, ⟨by rw [val, if_pos h146], same_sp8 same.rf⟩, rfl⟩
      · intro u
        have okd := okQ_drQ (N := N) (seed := seed) okn i
        have hc8 := hdc_off (r := 8) (Q := drQ N seed (nrm N) i) hc (by decide)
        have gl := got_lt (drN seed (i + 1))
        have gu := got_u (drN seed (i + 1))
        have g1 : gotN (drN seed (i + 1)) % N 57 < 4 := Nat.lt_of_lt_of_le (Nat.mod_lt _ (by omega)) b4
        refine z_iload 63 dX6_drift_61 rfl rfl ?_
        refine z_iload_n 64 dX6_drift_63 rfl rfl ?_
        refine z_icmp_ge_f 67 145 dX6_drift_64 rfl (nI_ge hi (by omega)) rfl ?_
        refine z_iload 69 dX6_drift_67 rfl rfl ?_
        refine z_ldcw 72 kc_X6_265 dX6_drift_69 rfl ?_
        refine z_imul 73 dX6_drift_72 rfl ?_
        refine z_sipush 76 dX6_drift_73 vs12345 rfl ?_
        refine z_iadd 77 dX6_drift_76 rfl ?_
        refine z_istore 79 [_, _, _, _, _, _, _] dX6_drift_77 (by decide) rfl rfl rfl ?_
        show Y G X mX6_drift _ 79 [some (.ref (zGa G 0)), some (.int seed), some (.int (nI n')), some (.int w), some (.int (drN seed (i + 1))), some (.int (nI i)), u] []
        generalize hx : drN seed (i + 1) = x at gl gu g1 ih ⊢
        have eS : drS N (gotN x) (drQ N seed (nrm N) i) = drQ N seed (nrm N) (i + 1) := by rw [drQ, hx]
        refine z_iload 81 dX6_drift_79 rfl rfl ?_
        refine z_bipush 83 dX6_drift_81 vb16 rfl ?_
        refine z_iushr 84 dX6_drift_83 rfl rfl ?_
        refine z_sipush 87 dX6_drift_84 vs32767 rfl ?_
        refine z_iand 88 dX6_drift_87 rfl ?_
        rw [gu]
        refine z_istore 90 [_, _, _, _, _, _, _] dX6_drift_88 (by decide) rfl rfl rfl ?_
        refine z_aload_n 91 dX6_drift_90 rfl rfl ?_
        refine y_getr 94 _ sh0 rfl fl_X6_16 dX6_drift_91 rfl ?_
        refine z_iload 96 dX6_drift_94 rfl rfl ?_
        refine z_aload_n 97 dX6_drift_96 rfl rfl ?_
        refine y_getr 100 _ sh0 rfl fl_X6_10 dX6_drift_97 rfl ?_
        refine k_get 103 bkm1 hc8 rfl (by decide) fl_X6_106 dX6_drift_100 rfl ?_
        refine z_iremN 104 rfl rfl (by omega) (by omega) dX6_drift_103 rfl ?_
        refine z_iload 106 dX6_drift_104 rfl rfl ?_
        refine z_bipush 108 dX6_drift_106 vb8 rfl ?_
        refine z_idivN 109 rfl (show (8 : Int32) = nI 8 from rfl) (by omega) (by omega) dX6_drift_108 rfl ?_
        refine z_aload_n 110 dX6_drift_109 rfl rfl ?_
        refine y_getr 113 _ sh0 rfl fl_X6_10 dX6_drift_110 rfl ?_
        refine k_get 116 bkm1 hc8 rfl (by decide) fl_X6_103 dX6_drift_113 rfl ?_
        refine z_iremN 117 rfl rfl (by omega) (by omega) dX6_drift_116 rfl ?_
        refine z_iconst 118 dX6_drift_117 vi1 rfl ?_
        refine z_iload 120 dX6_drift_118 rfl rfl ?_
        refine z_bipush 122 dX6_drift_120 vb64 rfl ?_
        refine z_idivN 123 rfl (show (64 : Int32) = nI 64 from rfl) (by omega) (by omega) dX6_drift_122 rfl ?_
        refine z_bipush 125 dX6_drift_123 vb9 rfl ?_
        refine z_iremN 126 rfl (show (9 : Int32) = nI 9 from rfl) (by omega) (by omega) dX6_drift_125 rfl ?_
        refine z_iaddN 127 (show (1 : Int32) = nI 1 from rfl) rfl dX6_drift_126 rfl ?_
        refine y_cVs 130 _ (c_giveLoan bkm8 hds_sp okd) (bk0 bkm8) cv_X6_179 ⟨by decide, by decide, rfl, rfl⟩ (Nat.le_of_ble_eq_true rfl) dX6_drift_127 rfl rfl ?_
        rw [sp_sp]
        refine z_pop 131 dX6_drift_130 rfl rfl ?_
        refine z_aload_n 132 dX6_drift_131 rfl rfl ?_
        refine y_getr 135 _ sh0 rfl fl_X6_16 dX6_drift_132 rfl ?_
        refine z_iconst 136 dX6_drift_135 vi1 rfl ?_
        refine y_cVv 139 _ (c_passDay (t := 1) bkm8 hds_sp (okQ_lendQ okd) (by decide)) (bk0 bkm8) cv_X6_191 ⟨by decide, by decide, rfl, rfl⟩ (Nat.le_of_ble_eq_true rfl) dX6_drift_136 rfl rfl ?_
        rw [sp_sp]
        rw [show dayA (lendQ (drQ N seed (nrm N) i) _ _ _) 1 = drQ N seed (nrm N) (i + 1) from eS]
        refine z_iinc 142 [_, _, _, _, _, _, _] dX6_drift_139 rfl (show _ + _ = nI (_ + 1) from nI_1 _) (by decide) rfl rfl rfl ?_
        refine z_goto 61 dX6_drift_142 rfl ?_
        exact ih _
    · have no := no (fun h => hw h.2)
      refine z_iload_n 1 dX6_drift_0 rfl rfl ?_
      refine z_iconst 2 dX6_drift_1 vi1 rfl ?_
      refine z_bipush 4 dX6_drift_2 vb60 rfl ?_
      refine y_cSs 7 (c_within) cs_X6_73 ⟨by decide, by decide, rfl, rfl⟩ (Nat.le_of_ble_eq_true rfl) dX6_drift_4 rfl rfl ?_
      refine z_if_eq_f 10 19 dX6_drift_7 rfl (by rw [bi_t hn]; decide) rfl ?_
      refine z_iload_n 11 dX6_drift_10 rfl rfl ?_
      refine z_iconst 12 dX6_drift_11 vi0 rfl ?_
      refine z_iconst 13 dX6_drift_12 vi1 rfl ?_
      refine y_cSs 16 (c_within) cs_X6_73 ⟨by decide, by decide, rfl, rfl⟩ (Nat.le_of_ble_eq_true rfl) dX6_drift_13 rfl rfl ?_
      rw [bw]
      refine z_if_ne_f 19 21 dX6_drift_16 rfl (bi_f hw) rfl ?_
      refine z_iconst 20 dX6_drift_19 vim1 rfl ?_
      refine z_iret hq rfl dX6_drift_20 rfl rfl ?_
      exact ⟨_, no, rfl⟩
  · have no := no (fun h => hn h.1)
    refine z_iload_n 1 dX6_drift_0 rfl rfl ?_
    refine z_iconst 2 dX6_drift_1 vi1 rfl ?_
    refine z_bipush 4 dX6_drift_2 vb60 rfl ?_
    refine y_cSs 7 (c_within) cs_X6_73 ⟨by decide, by decide, rfl, rfl⟩ (Nat.le_of_ble_eq_true rfl) dX6_drift_4 rfl rfl ?_
    refine z_if_eq_t 19 dX6_drift_7 rfl (bi_f hn) ?_
    refine z_iconst 20 dX6_drift_19 vim1 rfl ?_
    refine z_iret hq rfl dX6_drift_20 rfl rfl ?_
    exact ⟨_, no, rfl⟩
set_option maxRecDepth 100000 in
set_option maxHeartbeats 2000000 in
theorem r_drift {l : Launch} {G : zG} {σ : Nat → Int32} {N : Pg} {seed n w : Int32} (hc : hdk σ 0 N) (ok : okQ N) : zMet l yX7_drift mX7_drift [.ref (zGa G 158), .int seed, .int n, .int w] G (zW G σ) (zP G (pQ σ (vDrift N seed n w))) := by
  have b5 := ok.nc
  have b4 := ok.np
  have bw : bi ((0 : Int64) ≤ w.toInt64 ∧ w.toInt64 ≤ 1) = bi (inR w 2) := bi_in7 (n := 1) (by decide)
  have bn : bi ((1 : Int64) ≤ n.toInt64 ∧ n.toInt64 ≤ 60) = bi ((1 : Int32) ≤ n ∧ n ≤ 60) := bi_cg (by
    rw [Int64.le_iff_toInt_le, Int64.le_iff_toInt_le, Int32.toInt_toInt64, Int32.le_iff_toInt_le, Int32.le_iff_toInt_le]
    exact Iff.rfl)
  have no : ¬ okDr n w → pQ σ (vDrift N seed n w) (some (.int (-1))) σ := fun h => ⟨by rw [vDrift, if_neg h], same.rf⟩
  have hdr_rsp : ∀ {τ : Nat → Int32} {R : Pg}, hdr (rsp τ 220 R) 220 R := hdr_rsp' (by decide)
  refine zMet.of (by decide) rfl (Nat.le_of_ble_eq_true rfl) (Or.inr rfl) fun X hX hq => ?_
  subst hX
  show Y G X mX7_drift σ 0 [some (.ref (zGa G 158)), some (.int seed), some (.int n), some (.int w), none, none, none] []
  by_cases hn : (1 : Int32) ≤ n ∧ n ≤ 60
  · by_cases hw : inR w 2
    · by_cases h0 : N 56 = 0
      · skip
        refine z_iload_n 1 dX7_drift_0 rfl rfl ?_
        refine z_i2l 2 dX7_drift_1 rfl ?_
        refine z_lconst 3 dX7_drift_2 vl1 rfl ?_
        refine z_ldc2 6 kc_X7_218 dX7_drift_3 rfl ?_
        refine y_cSs 9 (c_in) cs_X7_55 ⟨by decide, by decide, rfl, rfl⟩ (Nat.le_of_ble_eq_true rfl) dX7_drift_6 rfl rfl ?_
        rw [bn]
        refine z_if_eq_f 12 22 dX7_drift_9 rfl (by rw [bi_t hn]; decide) rfl ?_
        refine z_iload_n 13 dX7_drift_12 rfl rfl ?_
        refine z_i2l 14 dX7_drift_13 rfl ?_
        refine z_lconst 15 dX7_drift_14 vl0 rfl ?_
        refine z_lconst 16 dX7_drift_15 vl1 rfl ?_
        refine y_cSs 19 (c_in) cs_X7_55 ⟨by decide, by decide, rfl, rfl⟩ (Nat.le_of_ble_eq_true rfl) dX7_drift_16 rfl rfl ?_
        rw [bw]
        refine z_if_ne_t 24 dX7_drift_19 rfl (by rw [bi_t hw]; decide) ?_
        refine z_aload_n 25 dX7_drift_24 rfl rfl ?_
        refine q_get 28 hc rfl (by decide) fl_X7_142 dX7_drift_25 rfl ?_
        refine z_if_eq_t 38 dX7_drift_28 rfl (by rw [h0]; rfl) ?_
        refine z_bipush 40 dX7_drift_38 vbm2 rfl ?_
        refine z_iret hq rfl dX7_drift_40 rfl rfl ?_
        exact ⟨_, ⟨by rw [vDrift, if_pos ⟨hn, hw⟩, if_pos (Or.inl h0)], same.rf⟩, rfl⟩
      by_cases h1 : N 57 = 0
      · skip
        refine z_iload_n 1 dX7_drift_0 rfl rfl ?_
        refine z_i2l 2 dX7_drift_1 rfl ?_
        refine z_lconst 3 dX7_drift_2 vl1 rfl ?_
        refine z_ldc2 6 kc_X7_218 dX7_drift_3 rfl ?_
        refine y_cSs 9 (c_in) cs_X7_55 ⟨by decide, by decide, rfl, rfl⟩ (Nat.le_of_ble_eq_true rfl) dX7_drift_6 rfl rfl ?_
        rw [bn]
        refine z_if_eq_f 12 22 dX7_drift_9 rfl (by rw [bi_t hn]; decide) rfl ?_
        refine z_iload_n 13 dX7_drift_12 rfl rfl ?_
        refine z_i2l 14 dX7_drift_13 rfl ?_
        refine z_lconst 15 dX7_drift_14 vl0 rfl ?_
        refine z_lconst 16 dX7_drift_15 vl1 rfl ?_
        refine y_cSs 19 (c_in) cs_X7_55 ⟨by decide, by decide, rfl, rfl⟩ (Nat.le_of_ble_eq_true rfl) dX7_drift_16 rfl rfl ?_
        rw [bw]
        refine z_if_ne_t 24 dX7_drift_19 rfl (by rw [bi_t hw]; decide) ?_
        refine z_aload_n 25 dX7_drift_24 rfl rfl ?_
        refine q_get 28 hc rfl (by decide) fl_X7_142 dX7_drift_25 rfl ?_
        refine z_if_eq_f 31 38 dX7_drift_28 rfl (nI_ne0 (by omega) (by omega)) rfl ?_
        refine z_aload_n 32 dX7_drift_31 rfl rfl ?_
        refine q_get 35 hc rfl (by decide) fl_X7_145 dX7_drift_32 rfl ?_
        refine z_if_ne_f 38 41 dX7_drift_35 rfl (by rw [h1]; rfl) rfl ?_
        refine z_bipush 40 dX7_drift_38 vbm2 rfl ?_
        refine z_iret hq rfl dX7_drift_40 rfl rfl ?_
        exact ⟨_, ⟨by rw [vDrift, if_pos ⟨hn, hw⟩, if_pos (Or.inr h1)], same.rf⟩, rfl⟩
      obtain ⟨n', hn1, hn2, rfl⟩ := le_nI60 hn
      have val : vDrift N seed (nI n') w = if w = 0 then nI (heldA (drQ N seed (nrm N) n')) else nI (drQ N seed (nrm N) n' 54) - nI (N 54) := by rw [vDrift, if_pos ⟨hn, hw⟩, if_neg (fun q => q.elim h0 h1), nN_nI (by omega)]
      have okn := okQ_nrm ok
      have eX : eqc (exq σ 220 N) N := exq_c
      have cpe := cp_rsp hc (t := 220) (by decide) (by decide) (by decide)
      generalize exq σ 220 N = E at eX cpe
      have okE := ok.eqc eX
      have eN := drQ_c (N := N) (seed := seed) (eX.trans (eqc.symm eqc_nrm)) okn
      have cnt : ∀ k, drQ N seed E k 56 = N 56 ∧ drQ N seed E k 57 = N 57 := fun k => ⟨(drQ_56 okE k).1.trans (eX 56 (by decide)), (drQ_56 okE k).2.trans (eX 57 (by decide))⟩
      have sm : ∀ k, same (rsp σ 220 (drQ N seed E k)) σ := fun k => same_rsp same.rf (by decide) (by rw [(cnt k).1]; exact hc 56 (by decide)) (by rw [(cnt k).2]; exact hc 57 (by decide))
      refine z_iload_n 1 dX7_drift_0 rfl rfl ?_
      refine z_i2l 2 dX7_drift_1 rfl ?_
      refine z_lconst 3 dX7_drift_2 vl1 rfl ?_
      refine z_ldc2 6 kc_X7_218 dX7_drift_3 rfl ?_
      refine y_cSs 9 (c_in) cs_X7_55 ⟨by decide, by decide, rfl, rfl⟩ (Nat.le_of_ble_eq_true rfl) dX7_drift_6 rfl rfl ?_
      rw [bn]
      refine z_if_eq_f 12 22 dX7_drift_9 rfl (by rw [bi_t hn]; decide) rfl ?_
      refine z_iload_n 13 dX7_drift_12 rfl rfl ?_
      refine z_i2l 14 dX7_drift_13 rfl ?_
      refine z_lconst 15 dX7_drift_14 vl0 rfl ?_
      refine z_lconst 16 dX7_drift_15 vl1 rfl ?_
      refine y_cSs 19 (c_in) cs_X7_55 ⟨by decide, by decide, rfl, rfl⟩ (Nat.le_of_ble_eq_true rfl) dX7_drift_16 rfl rfl ?_
      rw [bw]
      refine z_if_ne_t 24 dX7_drift_19 rfl (by rw [bi_t hw]; decide) ?_
      refine z_aload_n 25 dX7_drift_24 rfl rfl ?_
      refine q_get 28 hc rfl (by decide) fl_X7_142 dX7_drift_25 rfl ?_
      refine z_if_eq_f 31 38 dX7_drift_28 rfl (nI_ne0 (by omega) (by omega)) rfl ?_
      refine z_aload_n 32 dX7_drift_31 rfl rfl ?_
      refine q_get 35 hc rfl (by decide) fl_X7_145 dX7_drift_32 rfl ?_
      refine z_if_ne_t 41 dX7_drift_35 rfl (nI_ne0 (by omega) (by omega)) ?_
      refine z_aload_n 42 dX7_drift_41 rfl rfl ?_
      refine z_iconst 43 dX7_drift_42 vi0 rfl ?_
      refine z_sipush 46 dX7_drift_43 vs220 rfl ?_
      refine y_cVv 49 _ (c_copies (f := 0) (t := 220) (by decide) (by decide) (by decide)) sh158 cv_X7_212 ⟨by decide, by decide, rfl, rfl⟩ (Nat.le_of_ble_eq_true rfl) dX7_drift_46 rfl rfl ?_
      refine z_iload_n 50 dX7_drift_49 rfl rfl ?_
      refine z_istore 52 [_, _, _, _, _, _, _] dX7_drift_50 (by decide) rfl rfl rfl ?_
      refine z_iconst 53 dX7_drift_52 vi0 rfl ?_
      refine z_istore 55 [_, _, _, _, _, _, _] dX7_drift_53 (by decide) rfl rfl rfl ?_
      rw [cpe]
      refine zup (P := fun i => ∀ u, Y G X mX7_drift (rsp σ 220 (drQ N seed E i)) 55 [some (.ref (zGa G 158)), some (.int seed), some (.int (nI n')), some (.int w), some (.int (drN seed i)), some (.int (nI i)), u] []) n' ?_ (fun i hi ih => ?_) 0 (Nat.zero_le _) _
      · intro u
        have okd := okQ_drQ (N := N) (seed := seed) okE n'
        have okd' := okQ_drQ (N := N) (seed := seed) okn n'
        have e1 := heldA_c (eN n') okd'.nc okd'.np
        have e2 := eN n' 54 (by decide)
        have hk0 : hdk (rsp σ 220 (drQ N seed E n')) 0 N := hdk_rsp_off hc (by decide) (by decide) (cnt n').1 (cnt n').2
        refine z_iload 57 dX7_drift_55 rfl rfl ?_
        refine z_iload_n 58 dX7_drift_57 rfl rfl ?_
        refine z_icmp_ge_t 133 dX7_drift_58 rfl (Int32.le_refl _) ?_
        refine z_iload_n 134 dX7_drift_133 rfl rfl ?_
        refine z_if_ne 147 137 dX7_drift_134 rfl rfl (fun h134 => ?_) (fun h134 => ?_)
        · skip
          refine z_aload_n 148 dX7_drift_147 rfl rfl ?_
          refine y_getr 151 _ sh158 rfl fl_X7_7 dX7_drift_148 rfl ?_
          refine z_sipush 154 dX7_drift_151 vs274 rfl ?_
          refine m_ld 155 54 hdr_rsp (show (274 : Int32) = nI 274 from rfl) (by omega) (by omega) (by omega) dX7_drift_154 rfl ?_
          refine z_aload_n 156 dX7_drift_155 rfl rfl ?_
          refine y_getr 159 _ sh158 rfl fl_X7_7 dX7_drift_156 rfl ?_
          refine z_bipush 161 dX7_drift_159 vb54 rfl ?_
          refine q_ld 162 54 hk0 (show (54 : Int32) = nI 54 from rfl) (by omega) (by omega) (by omega) dX7_drift_161 rfl ?_
          refine z_isub 163 dX7_drift_162 rfl ?_
          refine z_iret hq rfl dX7_drift_163 rfl rfl ?_
          exact ⟨_, ⟨by rw [val, if_neg h134, e2], sm n'⟩, rfl⟩
        · skip
          refine z_aload_n 138 dX7_drift_137 rfl rfl ?_
          refine z_sipush 141 dX7_drift_138 vs220 rfl ?_
          refine y_cVs 144 _ (c_heldByAll7 (o := 220) hdr_rsp (by decide) okd.nc okd.np) sh158 cv_X7_173 ⟨by decide, by decide, rfl, rfl⟩ (Nat.le_of_ble_eq_true rfl) dX7_drift_141 rfl rfl ?_
          refine z_goto 163 dX7_drift_144 rfl ?_
          refine z_iret hq rfl dX7_drift_163 rfl rfl ?_
          exact ⟨_, ⟨by rw [val, if_pos h134, e1], sm n'⟩, rfl⟩
      · intro u
        have okd := okQ_drQ (N := N) (seed := seed) okE i
        have c6 := (cnt i).1
        have c7 := (cnt i).2
        have gl := got_lt (drN seed (i + 1))
        have gu := got_s (drN seed (i + 1))
        refine z_iload 57 dX7_drift_55 rfl rfl ?_
        refine z_iload_n 58 dX7_drift_57 rfl rfl ?_
        refine z_icmp_ge_f 61 133 dX7_drift_58 rfl (nI_ge hi (by omega)) rfl ?_
        refine z_iload 63 dX7_drift_61 rfl rfl ?_
        refine z_ldcw 66 kc_X7_261 dX7_drift_63 rfl ?_
        refine z_imul 67 dX7_drift_66 rfl ?_
        refine z_sipush 70 dX7_drift_67 vs12345 rfl ?_
        refine z_iadd 71 dX7_drift_70 rfl ?_
        refine z_istore 73 [_, _, _, _, _, _, _] dX7_drift_71 (by decide) rfl rfl rfl ?_
        show Y G X mX7_drift _ 73 [some (.ref (zGa G 158)), some (.int seed), some (.int (nI n')), some (.int w), some (.int (drN seed (i + 1))), some (.int (nI i)), u] []
        generalize hx : drN seed (i + 1) = x at gl gu ih ⊢
        have eS : drS N (gotN x) (drQ N seed E i) = drQ N seed E (i + 1) := by rw [drQ, hx]
        refine z_iload 75 dX7_drift_73 rfl rfl ?_
        refine z_bipush 77 dX7_drift_75 vb16 rfl ?_
        refine z_ishr 78 dX7_drift_77 rfl ?_
        refine z_sipush 81 dX7_drift_78 vs32767 rfl ?_
        refine z_iand 82 dX7_drift_81 rfl ?_
        rw [gu]
        refine z_istore 84 [_, _, _, _, _, _, _] dX7_drift_82 (by decide) rfl rfl rfl ?_
        refine z_aload_n 85 dX7_drift_84 rfl rfl ?_
        refine z_sipush 88 dX7_drift_85 vs220 rfl ?_
        refine z_iload 90 dX7_drift_88 rfl rfl ?_
        refine z_aload_n 91 dX7_drift_90 rfl rfl ?_
        refine m_get 94 hdr_rsp rfl (by decide) fl_X7_145 dX7_drift_91 rfl ?_
        rw [c7]
        refine z_iremN 95 rfl rfl (by omega) (by omega) dX7_drift_94 rfl ?_
        refine z_iload 97 dX7_drift_95 rfl rfl ?_
        refine z_bipush 99 dX7_drift_97 vb8 rfl ?_
        refine z_idivN 100 rfl (show (8 : Int32) = nI 8 from rfl) (by omega) (by omega) dX7_drift_99 rfl ?_
        refine z_aload_n 101 dX7_drift_100 rfl rfl ?_
        refine m_get 104 hdr_rsp rfl (by decide) fl_X7_142 dX7_drift_101 rfl ?_
        rw [c6]
        refine z_iremN 105 rfl rfl (by omega) (by omega) dX7_drift_104 rfl ?_
        refine z_iconst 106 dX7_drift_105 vi1 rfl ?_
        refine z_iload 108 dX7_drift_106 rfl rfl ?_
        refine z_bipush 110 dX7_drift_108 vb64 rfl ?_
        refine z_idivN 111 rfl (show (64 : Int32) = nI 64 from rfl) (by omega) (by omega) dX7_drift_110 rfl ?_
        refine z_bipush 113 dX7_drift_111 vb9 rfl ?_
        refine z_iremN 114 rfl (show (9 : Int32) = nI 9 from rfl) (by omega) (by omega) dX7_drift_113 rfl ?_
        refine z_iaddN 115 (show (1 : Int32) = nI 1 from rfl) rfl dX7_drift_114 rfl ?_
        refine y_cVs 118 _ (c_lendsOn (o := 220) hdr_rsp (by decide) okd) sh158 cv_X7_199 ⟨by decide, by decide, rfl, rfl⟩ (Nat.le_of_ble_eq_true rfl) dX7_drift_115 rfl rfl ?_
        rw [rsp_rsp]
        refine z_pop 119 dX7_drift_118 rfl rfl ?_
        refine z_aload_n 120 dX7_drift_119 rfl rfl ?_
        refine z_sipush 123 dX7_drift_120 vs220 rfl ?_
        refine z_iconst 124 dX7_drift_123 vi1 rfl ?_
        refine y_cVv 127 _ (c_dayOn (o := 220) (t := 1) hdr_rsp (by decide) (okQ_lendQ okd) (by decide)) sh158 cv_X7_208 ⟨by decide, by decide, rfl, rfl⟩ (Nat.le_of_ble_eq_true rfl) dX7_drift_124 rfl rfl ?_
        rw [rsp_rsp]
        rw [show dayA (lendQ (drQ N seed E i) _ _ _) 1 = drQ N seed E (i + 1) from eS]
        refine z_iinc 130 [_, _, _, _, _, _, _] dX7_drift_127 rfl (show _ + _ = nI (_ + 1) from nI_1 _) (by decide) rfl rfl rfl ?_
        refine z_goto 55 dX7_drift_130 rfl ?_
        exact ih _
    · have no := no (fun h => hw h.2)
      refine z_iload_n 1 dX7_drift_0 rfl rfl ?_
      refine z_i2l 2 dX7_drift_1 rfl ?_
      refine z_lconst 3 dX7_drift_2 vl1 rfl ?_
      refine z_ldc2 6 kc_X7_218 dX7_drift_3 rfl ?_
      refine y_cSs 9 (c_in) cs_X7_55 ⟨by decide, by decide, rfl, rfl⟩ (Nat.le_of_ble_eq_true rfl) dX7_drift_6 rfl rfl ?_
      rw [bn]
      refine z_if_eq_f 12 22 dX7_drift_9 rfl (by rw [bi_t hn]; decide) rfl ?_
      refine z_iload_n 13 dX7_drift_12 rfl rfl ?_
      refine z_i2l 14 dX7_drift_13 rfl ?_
      refine z_lconst 15 dX7_drift_14 vl0 rfl ?_
      refine z_lconst 16 dX7_drift_15 vl1 rfl ?_
      refine y_cSs 19 (c_in) cs_X7_55 ⟨by decide, by decide, rfl, rfl⟩ (Nat.le_of_ble_eq_true rfl) dX7_drift_16 rfl rfl ?_
      rw [bw]
      refine z_if_ne_f 22 24 dX7_drift_19 rfl (bi_f hw) rfl ?_
      refine z_iconst 23 dX7_drift_22 vim1 rfl ?_
      refine z_iret hq rfl dX7_drift_23 rfl rfl ?_
      exact ⟨_, no, rfl⟩
  · have no := no (fun h => hn h.1)
    refine z_iload_n 1 dX7_drift_0 rfl rfl ?_
    refine z_i2l 2 dX7_drift_1 rfl ?_
    refine z_lconst 3 dX7_drift_2 vl1 rfl ?_
    refine z_ldc2 6 kc_X7_218 dX7_drift_3 rfl ?_
    refine y_cSs 9 (c_in) cs_X7_55 ⟨by decide, by decide, rfl, rfl⟩ (Nat.le_of_ble_eq_true rfl) dX7_drift_6 rfl rfl ?_
    rw [bn]
    refine z_if_eq_t 22 dX7_drift_9 rfl (bi_f hn) ?_
    refine z_iconst 23 dX7_drift_22 vim1 rfl ?_
    refine z_iret hq rfl dX7_drift_23 rfl rfl ?_
    exact ⟨_, no, rfl⟩

