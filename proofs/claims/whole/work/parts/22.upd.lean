/-! ===== alter, pay, lend, bring, days: only the page of now changes ===== -/
def off1 (σ' σ : Nat → Int32) : Prop := ∀ a, scr a = false → (a < 400 ∨ 462 ≤ a) → σ' a = σ a
def offR (σ' σ : Nat → Int32) : Prop := ∀ a, scr a = false → (a < 63600 ∨ 63655 ≤ a) → σ' a = σ a
/-- what such a method of the class, of the reference, gives -/
def pC1 (σ : Nat → Int32) (V : Int32) (N' : Pg) : Option Value → (Nat → Int32) → Prop := fun v σ' => v = some (.int V) ∧ hdc σ' 1 N' ∧ off1 σ' σ
def pR1 (σ : Nat → Int32) (V : Int32) (N' : Pg) : Option Value → (Nat → Int32) → Prop := fun v σ' => v = some (.int V) ∧ hdk σ' 0 N' ∧ offR σ' σ
theorem off1.rf {σ : Nat → Int32} : off1 σ σ := fun _ _ _ => rfl
theorem offR.rf {σ : Nat → Int32} : offR σ σ := fun _ _ _ => rfl
theorem off1_upd {σ : Nat → Int32} {a : Nat} {x : Int32} (h : 400 ≤ a ∧ a < 462) : off1 (upd σ a x) σ := fun b _ hb => pk_un (by omega)
theorem offR_upd {σ : Nat → Int32} {a : Nat} {x : Int32} (h : 63600 ≤ a ∧ a < 63655) : offR (upd σ a x) σ := fun b _ hb => pk_un (by omega)
theorem off1_sp {σ : Nat → Int32} {Q : Pg} : off1 (sp σ 1 Q) σ := fun b _ hb => sp_off (by omega)
theorem hdc_upd {σ : Nat → Int32} {r i v : Nat} {N : Pg} {x : Int32} (h : hdc σ r N) (hx : x = nI v) : hdc (upd σ (400 * r + i) x) r (un N i v) := fun j hj => by
  simp only [upd, un]
  by_cases e : j = i
  · subst e; simp [hx]
  · rw [if_neg (by omega), if_neg e]; exact h j hj
theorem hdk_upd {σ : Nat → Int32} {i v : Nat} {N : Pg} {x : Int32} (h : hdk σ 0 N) (hi : i < 55) (hx : x = nI v) : hdk (upd σ (63600 + i) x) 0 (un N i v) := fun j hj => by
  simp only [upd, un]
  by_cases e : j = i
  · subst e; simp only [aR, if_pos hi]; simp [hx]
  · rw [if_neg, if_neg e]; · exact h j hj
    simp only [aR]
    rcases hj with q | q | q
    · rw [if_pos q]; omega
    · subst q; rw [if_neg (by decide), if_neg (by decide), if_pos rfl]; omega
    · subst q; rw [if_neg (by decide), if_neg (by decide), if_neg (by decide), if_pos rfl]; omega
theorem hdc_sp1 {σ : Nat → Int32} {Q N : Pg} (e : eqc Q N) : hdc (sp σ 1 Q) 1 N := hds_sp.c.eqc e
theorem hdk_rsp {σ : Nat → Int32} {Q N : Pg} (e : eqc Q N) : hdk (rsp σ 0 Q) 0 N := (hdr_rsp' (by decide)).k.eqc e
theorem offR_rsp {σ : Nat → Int32} {Q : Pg} (h6 : σ 63201 = nI (Q 56)) (h7 : σ 63202 = nI (Q 57)) : offR (rsp σ 0 Q) σ := fun b hb h => by
  cases hp : pR 0 b with
  | none => exact ov_off hp
  | some i =>
    obtain ⟨hi, rfl⟩ := pR_of hp
    refine (ov_at hp).trans ?_
    rcases (show i < 55 ∨ i = 55 ∨ i = 56 ∨ i = 57 ∨ 58 ≤ i by omega) with e | e | e | e | e
    · exfalso; simp only [aR, if_pos e] at h; omega
    · exfalso; subst e; revert hb; exact (by decide : ¬ scr 63220 = false)
    · subst e; exact h6.symm
    · subst e; exact h7.symm
    · exfalso
      simp only [aR] at hb
      rw [if_neg (by omega), if_neg (by omega), if_neg (by omega), if_neg (by omega)] at hb
      have : scr (65600 + (i - 58)) = true := by
        simp only [scr, Bool.or_eq_true, Bool.and_eq_true, decide_eq_true_eq, beq_iff_eq]; omega
      rw [this] at hb; cases hb
def altM (w : Nat) : Nat := if w = 0 then 3 else if w = 4 then 99 else 9
abbrev okAlt (N : Pg) (c w v : Int32) : Prop := inR c (N 56) ∧ inR w 5 ∧ inR v (altM (nN w) + 1)
def vAlter (N : Pg) (c w v : Int32) : Int32 := if okAlt N c w v then nI (N (5 * nN w + nN c)) else -1
def altQ (N : Pg) (c w v : Int32) : Pg := if okAlt N c w v then un N (5 * nN w + nN c) (nN v) else N
set_option maxRecDepth 100000 in
theorem c_mostToAlter {l : Launch} {G : zG} {σ : Nat → Int32} {w : Nat} (hw : w < 5) : zMet l yX6_mostToAlter mX6_mostToAlter [.int (nI w)] G (zW G σ) (zFn G (some (.int (nI (altM w)))) σ) := by
  refine zMet.of (by decide) rfl (Nat.le_of_ble_eq_true rfl) (Or.inr rfl) fun X hX hq => ?_
  subst hX
  show Y G X mX6_mostToAlter σ 0 [some (.int (nI w))] []
  refine z_iload_n 1 dX6_mostToAlter_0 rfl rfl ?_
  refine z_if_ne 6 4 dX6_mostToAlter_1 rfl rfl (fun h1 => ?_) (fun h1 => ?_)
  · skip
    have n0 : w ≠ 0 := fun e => h1 (by rw [e]; rfl)
    refine z_iload_n 7 dX6_mostToAlter_6 rfl rfl ?_
    refine z_iconst 8 dX6_mostToAlter_7 vi4 rfl ?_
    refine z_icmp_ne 16 11 dX6_mostToAlter_8 rfl rfl (fun h8 => ?_) (fun h8 => ?_)
    · skip
      have n4 : w ≠ 4 := fun e => h8 (by rw [e]; rfl)
      refine z_bipush 18 dX6_mostToAlter_16 vb9 rfl ?_
      refine z_iret hq rfl dX6_mostToAlter_18 rfl rfl ?_
      exact ⟨by rw [altM, if_neg n0, if_neg n4]; rfl, rfl⟩
    · skip
      have e : w = 4 := nI_eqL (b := 4) (by omega) (by decide) h8
      refine z_bipush 13 dX6_mostToAlter_11 vb99 rfl ?_
      refine z_goto 18 dX6_mostToAlter_13 rfl ?_
      refine z_iret hq rfl dX6_mostToAlter_18 rfl rfl ?_
      exact ⟨by rw [e]; rfl, rfl⟩
  · skip
    have e : w = 0 := nI_eqL (b := 0) (by omega) (by decide) h1
    refine z_iconst 5 dX6_mostToAlter_4 vi3 rfl ?_
    refine z_iret hq rfl dX6_mostToAlter_5 rfl rfl ?_
    exact ⟨by rw [e]; rfl, rfl⟩
set_option maxRecDepth 100000 in
theorem x_alter {l : Launch} {G : zG} {σ : Nat → Int32} {N : Pg} {c w v : Int32} (hc : hdc σ 1 N) (ok : okQ N) : zMet l yX6_alter mX6_alter [.ref (zGa G 0), .int c, .int w, .int v] G (zW G σ) (zP G (pC1 σ (vAlter N c w v) (altQ N c w v))) := by
  have b5 := ok.nc
  have bw : bi ((0 : Int32) ≤ w ∧ w ≤ 4) = bi (inR w 5) := bi_cg (le_inR (n := 4) (by decide))
  have no : ¬ okAlt N c w v → pC1 σ (vAlter N c w v) (altQ N c w v) (some (.int (-1))) σ := fun h => ⟨by rw [vAlter, if_neg h], by rw [altQ, if_neg h]; exact hc, off1.rf⟩
  refine zMet.of (by decide) rfl (Nat.le_of_ble_eq_true rfl) (Or.inr rfl) fun X hX hq => ?_
  subst hX
  show Y G X mX6_alter σ 0 [some (.ref (zGa G 0)), some (.int c), some (.int w), some (.int v), none] []
  by_cases hi : inR c (N 56)
  · by_cases hw : inR w 5
    · obtain ⟨w', hw', rfl⟩ := inR_of hw (by decide)
      obtain ⟨c', hc', rfl⟩ := inR_of hi (by omega)
      have ew : nN (nI w') = w' := nN_nI (by omega)
      have ec : nN (nI c') = c' := nN_nI (by omega)
      have bm : altM w' ≤ 99 := by simp only [altM]; repeat' split
                                   all_goals omega
      have bv : bi ((0 : Int32) ≤ v ∧ v ≤ nI (altM w')) = bi (inR v (altM w' + 1)) := bi_cg (le_inR (by omega))
      by_cases hv : inR v (altM w' + 1)
      · obtain ⟨v', hv', rfl⟩ := inR_of hv (by omega)
        have yes : okAlt N (nI c') (nI w') (nI v') := ⟨hi, hw, by rw [ew]; exact hv⟩
        have ev : nN (nI v') = v' := nN_nI (by omega)
        have val : vAlter N (nI c') (nI w') (nI v') = nI (N (5 * w' + c')) := by rw [vAlter, if_pos yes, ew, ec]
        have pag : altQ N (nI c') (nI w') (nI v') = un N (5 * w' + c') v' := by rw [altQ, if_pos yes, ew, ec, ev]
        have col : vColour N (nI c') (nI w') = nI (N (5 * w' + c')) := by rw [colour_v b5 hc' (by omega), colV, if_pos hw']
        have fin : ∀ a, a = 400 * 1 + (5 * w' + c') → zP G (pC1 σ (vAlter N (nI c') (nI w') (nI v')) (altQ N (nI c') (nI w') (nI v'))) (some (.int (nI (N (5 * w' + c'))))) (zW G (upd σ a (nI v'))) := fun a ha => ⟨_, ⟨by rw [val], by rw [pag, ha]; exact hdc_upd hc rfl, off1_upd (by omega)⟩, rfl⟩
        refine z_aload_n 1 dX6_alter_0 rfl rfl ?_
        refine y_getr 4 _ sh0 rfl fl_X6_10 dX6_alter_1 rfl ?_
        refine z_iload_n 5 dX6_alter_4 rfl rfl ?_
        refine y_cVs 8 _ (n_hasColour bkm1 hc ok) (bk0 bkm1) cv_X6_121 ⟨by decide, by decide, rfl, rfl⟩ (Nat.le_of_ble_eq_true rfl) dX6_alter_5 rfl rfl ?_
        refine z_if_eq_f 11 32 dX6_alter_8 rfl (by rw [bi_t hi]; decide) rfl ?_
        refine z_iload_n 12 dX6_alter_11 rfl rfl ?_
        refine z_iconst 13 dX6_alter_12 vi0 rfl ?_
        refine z_iconst 14 dX6_alter_13 vi4 rfl ?_
        refine y_cSs 17 (c_within) cs_X6_73 ⟨by decide, by decide, rfl, rfl⟩ (Nat.le_of_ble_eq_true rfl) dX6_alter_14 rfl rfl ?_
        rw [bw]
        refine z_if_eq_f 20 32 dX6_alter_17 rfl (by rw [bi_t hw]; decide) rfl ?_
        refine z_iload_n 21 dX6_alter_20 rfl rfl ?_
        refine z_iconst 22 dX6_alter_21 vi0 rfl ?_
        refine z_iload_n 23 dX6_alter_22 rfl rfl ?_
        refine y_cSs 26 (c_mostToAlter hw') cs_X6_170 ⟨by decide, by decide, rfl, rfl⟩ (Nat.le_of_ble_eq_true rfl) dX6_alter_23 rfl rfl ?_
        refine y_cSs 29 (c_within) cs_X6_73 ⟨by decide, by decide, rfl, rfl⟩ (Nat.le_of_ble_eq_true rfl) dX6_alter_26 rfl rfl ?_
        rw [bv]
        refine z_if_ne_t 34 dX6_alter_29 rfl (by rw [bi_t hv]; decide) ?_
        refine z_aload_n 35 dX6_alter_34 rfl rfl ?_
        refine z_iload_n 36 dX6_alter_35 rfl rfl ?_
        refine z_iload_n 37 dX6_alter_36 rfl rfl ?_
        refine y_cVs 40 _ (x_colour hc ok) sh0 cv_X6_173 ⟨by decide, by decide, rfl, rfl⟩ (Nat.le_of_ble_eq_true rfl) dX6_alter_37 rfl rfl ?_
        rw [col]
        refine z_istore 42 [_, _, _, _, _] dX6_alter_40 (by decide) rfl rfl rfl ?_
        refine z_iload_n 43 dX6_alter_42 rfl rfl ?_
        refine z_if_ne 59 46 dX6_alter_43 rfl rfl (fun h43 => ?_) (fun h43 => ?_)
        · skip
          have n0 : w' ≠ 0 := fun e => h43 (by rw [e]; rfl)
          refine z_iload_n 60 dX6_alter_59 rfl rfl ?_
          refine z_iconst 61 dX6_alter_60 vi4 rfl ?_
          refine z_icmp_ne 77 64 dX6_alter_61 rfl rfl (fun h61 => ?_) (fun h61 => ?_)
          · skip
            have n4 : w' ≠ 4 := fun e => h61 (by rw [e]; rfl)
            refine z_aload_n 78 dX6_alter_77 rfl rfl ?_
            refine y_getr 81 _ sh0 rfl fl_X6_10 dX6_alter_78 rfl ?_
            refine y_getr 84 _ (bk0 bkm1) rfl fl_X6_128 dX6_alter_81 rfl ?_
            refine z_iconst 85 dX6_alter_84 vi3 rfl ?_
            refine z_iload_n 86 dX6_alter_85 rfl rfl ?_
            refine z_imulN 87 (show (3 : Int32) = nI 3 from rfl) rfl dX6_alter_86 rfl ?_
            refine z_iload_n 88 dX6_alter_87 rfl rfl ?_
            refine z_iaddN 89 rfl rfl dX6_alter_88 rfl ?_
            refine z_iconst 90 dX6_alter_89 vi1 rfl ?_
            refine z_isubN 91 rfl (show (1 : Int32) = nI 1 from rfl) (by omega) dX6_alter_90 rfl ?_
            refine z_iload_n 92 dX6_alter_91 rfl rfl ?_
            refine y_stL 93 _ _ (bk2 bkm1) rfl rfl (by omega) dX6_alter_92 rfl ?_
            refine z_iload 95 dX6_alter_93 rfl rfl ?_
            refine z_iret hq rfl dX6_alter_95 rfl rfl ?_
            exact fin _ (by omega)
          · skip
            have e : w' = 4 := nI_eqL (b := 4) (by omega) (by decide) h61
            refine z_aload_n 65 dX6_alter_64 rfl rfl ?_
            refine y_getr 68 _ sh0 rfl fl_X6_10 dX6_alter_65 rfl ?_
            refine y_getr 71 _ (bk0 bkm1) rfl fl_X6_131 dX6_alter_68 rfl ?_
            refine z_iload_n 72 dX6_alter_71 rfl rfl ?_
            refine z_iload_n 73 dX6_alter_72 rfl rfl ?_
            refine y_st 74 _ _ (bk3 bkm1) rfl (by omega) (by omega) dX6_alter_73 rfl ?_
            refine z_goto 93 dX6_alter_74 rfl ?_
            refine z_iload 95 dX6_alter_93 rfl rfl ?_
            refine z_iret hq rfl dX6_alter_95 rfl rfl ?_
            exact fin _ (by omega)
        · skip
          have e : w' = 0 := nI_eqL (b := 0) (by omega) (by decide) h43
          refine z_aload_n 47 dX6_alter_46 rfl rfl ?_
          refine y_getr 50 _ sh0 rfl fl_X6_10 dX6_alter_47 rfl ?_
          refine y_getr 53 _ (bk0 bkm1) rfl fl_X6_125 dX6_alter_50 rfl ?_
          refine z_iload_n 54 dX6_alter_53 rfl rfl ?_
          refine z_iload_n 55 dX6_alter_54 rfl rfl ?_
          refine y_st 56 _ _ (bk1 bkm1) rfl (by omega) (by omega) dX6_alter_55 rfl ?_
          refine z_goto 93 dX6_alter_56 rfl ?_
          refine z_iload 95 dX6_alter_93 rfl rfl ?_
          refine z_iret hq rfl dX6_alter_95 rfl rfl ?_
          exact fin _ (by omega)
      · have no := no (fun h => hv (by have := h.2.2; rw [ew] at this; exact this))
        refine z_aload_n 1 dX6_alter_0 rfl rfl ?_
        refine y_getr 4 _ sh0 rfl fl_X6_10 dX6_alter_1 rfl ?_
        refine z_iload_n 5 dX6_alter_4 rfl rfl ?_
        refine y_cVs 8 _ (n_hasColour bkm1 hc ok) (bk0 bkm1) cv_X6_121 ⟨by decide, by decide, rfl, rfl⟩ (Nat.le_of_ble_eq_true rfl) dX6_alter_5 rfl rfl ?_
        refine z_if_eq_f 11 32 dX6_alter_8 rfl (by rw [bi_t hi]; decide) rfl ?_
        refine z_iload_n 12 dX6_alter_11 rfl rfl ?_
        refine z_iconst 13 dX6_alter_12 vi0 rfl ?_
        refine z_iconst 14 dX6_alter_13 vi4 rfl ?_
        refine y_cSs 17 (c_within) cs_X6_73 ⟨by decide, by decide, rfl, rfl⟩ (Nat.le_of_ble_eq_true rfl) dX6_alter_14 rfl rfl ?_
        rw [bw]
        refine z_if_eq_f 20 32 dX6_alter_17 rfl (by rw [bi_t hw]; decide) rfl ?_
        refine z_iload_n 21 dX6_alter_20 rfl rfl ?_
        refine z_iconst 22 dX6_alter_21 vi0 rfl ?_
        refine z_iload_n 23 dX6_alter_22 rfl rfl ?_
        refine y_cSs 26 (c_mostToAlter hw') cs_X6_170 ⟨by decide, by decide, rfl, rfl⟩ (Nat.le_of_ble_eq_true rfl) dX6_alter_23 rfl rfl ?_
        refine y_cSs 29 (c_within) cs_X6_73 ⟨by decide, by decide, rfl, rfl⟩ (Nat.le_of_ble_eq_true rfl) dX6_alter_26 rfl rfl ?_
        rw [bv]
        refine z_if_ne_f 32 34 dX6_alter_29 rfl (bi_f hv) rfl ?_
        refine z_iconst 33 dX6_alter_32 vim1 rfl ?_
        refine z_iret hq rfl dX6_alter_33 rfl rfl ?_
        exact ⟨_, no, rfl⟩
    · have no := no (fun h => hw h.2.1)
      refine z_aload_n 1 dX6_alter_0 rfl rfl ?_
      refine y_getr 4 _ sh0 rfl fl_X6_10 dX6_alter_1 rfl ?_
      refine z_iload_n 5 dX6_alter_4 rfl rfl ?_
      refine y_cVs 8 _ (n_hasColour bkm1 hc ok) (bk0 bkm1) cv_X6_121 ⟨by decide, by decide, rfl, rfl⟩ (Nat.le_of_ble_eq_true rfl) dX6_alter_5 rfl rfl ?_
      refine z_if_eq_f 11 32 dX6_alter_8 rfl (by rw [bi_t hi]; decide) rfl ?_
      refine z_iload_n 12 dX6_alter_11 rfl rfl ?_
      refine z_iconst 13 dX6_alter_12 vi0 rfl ?_
      refine z_iconst 14 dX6_alter_13 vi4 rfl ?_
      refine y_cSs 17 (c_within) cs_X6_73 ⟨by decide, by decide, rfl, rfl⟩ (Nat.le_of_ble_eq_true rfl) dX6_alter_14 rfl rfl ?_
      rw [bw]
      refine z_if_eq_t 32 dX6_alter_17 rfl (bi_f hw) ?_
      refine z_iconst 33 dX6_alter_32 vim1 rfl ?_
      refine z_iret hq rfl dX6_alter_33 rfl rfl ?_
      exact ⟨_, no, rfl⟩
  · have no := no (fun h => hi h.1)
    refine z_aload_n 1 dX6_alter_0 rfl rfl ?_
    refine y_getr 4 _ sh0 rfl fl_X6_10 dX6_alter_1 rfl ?_
    refine z_iload_n 5 dX6_alter_4 rfl rfl ?_
    refine y_cVs 8 _ (n_hasColour bkm1 hc ok) (bk0 bkm1) cv_X6_121 ⟨by decide, by decide, rfl, rfl⟩ (Nat.le_of_ble_eq_true rfl) dX6_alter_5 rfl rfl ?_
    refine z_if_eq_t 32 dX6_alter_8 rfl (bi_f hi) ?_
    refine z_iconst 33 dX6_alter_32 vim1 rfl ?_
    refine z_iret hq rfl dX6_alter_33 rfl rfl ?_
    exact ⟨_, no, rfl⟩
set_option maxRecDepth 100000 in
theorem c_puts0 {l : Launch} {G : zG} {σ : Nat → Int32} {i v : Int32} : zMet l yX7_puts mX7_puts [.ref (zGa G 158), .int 0, .int i, .int v] G (zW G σ) (zFn G (some (.int (-1))) σ) := by
  refine zMet.of (by decide) rfl (Nat.le_of_ble_eq_true rfl) (Or.inr rfl) fun X hX hq => ?_
  subst hX
  show Y G X mX7_puts σ 0 [some (.ref (zGa G 158)), some (.int 0), some (.int i), some (.int v), none] []
  refine z_iload_n 1 dX7_puts_0 rfl rfl ?_
  refine z_if_ne_f 4 6 dX7_puts_1 rfl (rfl) rfl ?_
  refine z_iconst 5 dX7_puts_4 vim1 rfl ?_
  refine z_iret hq rfl dX7_puts_5 rfl rfl ?_
  exact ⟨rfl, rfl⟩
set_option maxRecDepth 100000 in
theorem c_puts1 {l : Launch} {G : zG} {σ : Nat → Int32} {i : Nat} {v : Int32} (hi : i < 55) : zMet l yX7_puts mX7_puts [.ref (zGa G 158), .int 1, .int (nI i), .int v] G (zW G σ) (zFn G (some (.int (σ (63600 + i)))) (upd σ (63600 + i) v)) := by
  refine zMet.of (by decide) rfl (Nat.le_of_ble_eq_true rfl) (Or.inr rfl) fun X hX hq => ?_
  subst hX
  show Y G X mX7_puts σ 0 [some (.ref (zGa G 158)), some (.int 1), some (.int (nI i)), some (.int v), none] []
  refine z_iload_n 1 dX7_puts_0 rfl rfl ?_
  refine z_if_ne_t 6 dX7_puts_1 rfl (by decide) ?_
  refine z_aload_n 7 dX7_puts_6 rfl rfl ?_
  refine y_getr 10 _ sh158 rfl fl_X7_7 dX7_puts_7 rfl ?_
  refine z_iload_n 11 dX7_puts_10 rfl rfl ?_
  refine y_ld 12 _ _ sh159 rfl (by omega) (by omega) dX7_puts_11 rfl ?_
  refine z_istore 14 [_, _, _, _, _] dX7_puts_12 (by decide) rfl rfl rfl ?_
  refine z_aload_n 15 dX7_puts_14 rfl rfl ?_
  refine y_getr 18 _ sh158 rfl fl_X7_7 dX7_puts_15 rfl ?_
  refine z_iload_n 19 dX7_puts_18 rfl rfl ?_
  refine z_iload_n 20 dX7_puts_19 rfl rfl ?_
  refine y_st 21 _ _ sh159 rfl (by omega) (by omega) dX7_puts_20 rfl ?_
  refine z_iload 23 dX7_puts_21 rfl rfl ?_
  refine z_iret hq rfl dX7_puts_23 rfl rfl ?_
  exact ⟨rfl, rfl⟩
set_option maxRecDepth 100000 in
theorem r_alter {l : Launch} {G : zG} {σ : Nat → Int32} {N : Pg} {c w v : Int32} (hc : hdk σ 0 N) (ok : okQ N) : zMet l yX7_alter mX7_alter [.ref (zGa G 158), .int c, .int w, .int v] G (zW G σ) (zP G (pR1 σ (vAlter N c w v) (altQ N c w v))) := by
  have b5 := ok.nc
  have bw : bi ((0 : Int64) ≤ w.toInt64 ∧ w.toInt64 ≤ 4) = bi (inR w 5) := bi_in7 (n := 4) (by decide)
  have no : ¬ okAlt N c w v → pR1 σ (vAlter N c w v) (altQ N c w v) (some (.int (-1))) σ := fun h => ⟨by rw [vAlter, if_neg h], by rw [altQ, if_neg h]; exact hc, offR.rf⟩
  refine zMet.of (by decide) rfl (Nat.le_of_ble_eq_true rfl) (Or.inr rfl) fun X hX hq => ?_
  subst hX
  show Y G X mX7_alter σ 0 [some (.ref (zGa G 158)), some (.int c), some (.int w), some (.int v), none] []
  by_cases hi : inR c (N 56)
  · by_cases hw : inR w 5
    · obtain ⟨w', hw', rfl⟩ := inR_of hw (by decide)
      obtain ⟨c', hc', rfl⟩ := inR_of hi (by omega)
      have ew : nN (nI w') = w' := nN_nI (by omega)
      have ec : nN (nI c') = c' := nN_nI (by omega)
      have bm : altM w' ≤ 99 := by simp only [altM]; repeat' split
                                   all_goals omega
      suffices main : Y G X mX7_alter σ 22 [some (.ref (zGa G 158)), some (.int (nI c')), some (.int (nI w')), some (.int v), some (.int (nI (altM w')))] [] by
        refine z_iload_n 1 dX7_alter_0 rfl rfl ?_
        refine z_if_ne 8 4 dX7_alter_1 rfl rfl (fun h1 => ?_) (fun h1 => ?_)
        · skip
          have n0 : w' ≠ 0 := fun e => h1 (by rw [e]; rfl)
          refine z_iload_n 9 dX7_alter_8 rfl rfl ?_
          refine z_iconst 10 dX7_alter_9 vi4 rfl ?_
          refine z_icmp_ne 18 13 dX7_alter_10 rfl rfl (fun h10 => ?_) (fun h10 => ?_)
          · skip
            have n4 : w' ≠ 4 := fun e => h10 (by rw [e]; rfl)
            rw [show altM w' = 9 by rw [altM, if_neg n0, if_neg n4]] at main
            refine z_bipush 20 dX7_alter_18 vb9 rfl ?_
            refine z_istore 22 [_, _, _, _, _] dX7_alter_20 (by decide) rfl rfl rfl ?_
            exact main
          · skip
            have e : w' = 4 := nI_eqL (b := 4) (by omega) (by decide) h10
            rw [show altM w' = 99 by rw [e]; rfl] at main
            refine z_bipush 15 dX7_alter_13 vb99 rfl ?_
            refine z_goto 20 dX7_alter_15 rfl ?_
            refine z_istore 22 [_, _, _, _, _] dX7_alter_20 (by decide) rfl rfl rfl ?_
            exact main
        · skip
          have e : w' = 0 := nI_eqL (b := 0) (by omega) (by decide) h1
          rw [show altM w' = 3 by rw [e]; rfl] at main
          refine z_iconst 5 dX7_alter_4 vi3 rfl ?_
          refine z_goto 20 dX7_alter_5 rfl ?_
          refine z_istore 22 [_, _, _, _, _] dX7_alter_20 (by decide) rfl rfl rfl ?_
          exact main
      have bv : bi ((0 : Int64) ≤ v.toInt64 ∧ v.toInt64 ≤ (nI (altM w')).toInt64) = bi (inR v (altM w' + 1)) := bi_in7 (by rw [Int32.toInt_toInt64]; exact nI_toInt (by omega))
      by_cases hv : inR v (altM w' + 1)
      · obtain ⟨v', hv', rfl⟩ := inR_of hv (by omega)
        have yes : okAlt N (nI c') (nI w') (nI v') := ⟨hi, hw, by rw [ew]; exact hv⟩
        have ev : nN (nI v') = v' := nN_nI (by omega)
        have val : vAlter N (nI c') (nI w') (nI v') = nI (N (5 * w' + c')) := by rw [vAlter, if_pos yes, ew, ec]
        have pag : altQ N (nI c') (nI w') (nI v') = un N (5 * w' + c') v' := by rw [altQ, if_pos yes, ew, ec, ev]
        have rd : σ (63600 + (5 * w' + c')) = nI (N (5 * w' + c')) := by have := hc (5 * w' + c') (by omega); simp only [aR] at this; rw [if_pos (by omega)] at this; exact this
        refine z_aload_n 23 dX7_alter_22 rfl rfl ?_
        refine z_aload_n 24 dX7_alter_23 rfl rfl ?_
        refine z_iload_n 25 dX7_alter_24 rfl rfl ?_
        refine y_cVs 28 _ (q_isColour (o := 0) hc ok) sh158 cv_X7_176 ⟨by decide, by decide, rfl, rfl⟩ (Nat.le_of_ble_eq_true rfl) dX7_alter_25 rfl rfl ?_
        refine z_if_eq_f 31 59 dX7_alter_28 rfl (by rw [bi_t hi]; decide) rfl ?_
        refine z_iload_n 32 dX7_alter_31 rfl rfl ?_
        refine z_i2l 33 dX7_alter_32 rfl ?_
        refine z_lconst 34 dX7_alter_33 vl0 rfl ?_
        refine z_ldc2 37 kc_X7_110 dX7_alter_34 rfl ?_
        refine y_cSs 40 (c_in) cs_X7_55 ⟨by decide, by decide, rfl, rfl⟩ (Nat.le_of_ble_eq_true rfl) dX7_alter_37 rfl rfl ?_
        rw [bw]
        refine z_if_eq_f 43 59 dX7_alter_40 rfl (by rw [bi_t hw]; decide) rfl ?_
        refine z_iload_n 44 dX7_alter_43 rfl rfl ?_
        refine z_i2l 45 dX7_alter_44 rfl ?_
        refine z_lconst 46 dX7_alter_45 vl0 rfl ?_
        refine z_iload 48 dX7_alter_46 rfl rfl ?_
        refine z_i2l 49 dX7_alter_48 rfl ?_
        refine y_cSs 52 (c_in) cs_X7_55 ⟨by decide, by decide, rfl, rfl⟩ (Nat.le_of_ble_eq_true rfl) dX7_alter_49 rfl rfl ?_
        rw [bv]
        refine z_if_eq_f 55 59 dX7_alter_52 rfl (by rw [bi_t hv]; decide) rfl ?_
        refine z_iconst 56 dX7_alter_55 vi1 rfl ?_
        refine z_goto 60 dX7_alter_56 rfl ?_
        refine z_iconst 61 dX7_alter_60 vi5 rfl ?_
        refine z_iload_n 62 dX7_alter_61 rfl rfl ?_
        refine z_imulN 63 (show (5 : Int32) = nI 5 from rfl) rfl dX7_alter_62 rfl ?_
        refine z_iload_n 64 dX7_alter_63 rfl rfl ?_
        refine z_iaddN 65 rfl rfl dX7_alter_64 rfl ?_
        refine z_iload_n 66 dX7_alter_65 rfl rfl ?_
        refine y_cVs 69 _ (c_puts1 (by omega)) sh158 cv_X7_193 ⟨by decide, by decide, rfl, rfl⟩ (Nat.le_of_ble_eq_true rfl) dX7_alter_66 rfl rfl ?_
        refine z_iret hq rfl dX7_alter_69 rfl rfl ?_
        exact ⟨_, ⟨by rw [val, rd], by rw [pag]; exact hdk_upd hc (by omega) rfl, offR_upd (by omega)⟩, rfl⟩
      · have no := no (fun h => hv (by have := h.2.2; rw [ew] at this; exact this))
        refine z_aload_n 23 dX7_alter_22 rfl rfl ?_
        refine z_aload_n 24 dX7_alter_23 rfl rfl ?_
        refine z_iload_n 25 dX7_alter_24 rfl rfl ?_
        refine y_cVs 28 _ (q_isColour (o := 0) hc ok) sh158 cv_X7_176 ⟨by decide, by decide, rfl, rfl⟩ (Nat.le_of_ble_eq_true rfl) dX7_alter_25 rfl rfl ?_
        refine z_if_eq_f 31 59 dX7_alter_28 rfl (by rw [bi_t hi]; decide) rfl ?_
        refine z_iload_n 32 dX7_alter_31 rfl rfl ?_
        refine z_i2l 33 dX7_alter_32 rfl ?_
        refine z_lconst 34 dX7_alter_33 vl0 rfl ?_
        refine z_ldc2 37 kc_X7_110 dX7_alter_34 rfl ?_
        refine y_cSs 40 (c_in) cs_X7_55 ⟨by decide, by decide, rfl, rfl⟩ (Nat.le_of_ble_eq_true rfl) dX7_alter_37 rfl rfl ?_
        rw [bw]
        refine z_if_eq_f 43 59 dX7_alter_40 rfl (by rw [bi_t hw]; decide) rfl ?_
        refine z_iload_n 44 dX7_alter_43 rfl rfl ?_
        refine z_i2l 45 dX7_alter_44 rfl ?_
        refine z_lconst 46 dX7_alter_45 vl0 rfl ?_
        refine z_iload 48 dX7_alter_46 rfl rfl ?_
        refine z_i2l 49 dX7_alter_48 rfl ?_
        refine y_cSs 52 (c_in) cs_X7_55 ⟨by decide, by decide, rfl, rfl⟩ (Nat.le_of_ble_eq_true rfl) dX7_alter_49 rfl rfl ?_
        rw [bv]
        refine z_if_eq_t 59 dX7_alter_52 rfl (bi_f hv) ?_
        refine z_iconst 60 dX7_alter_59 vi0 rfl ?_
        refine z_iconst 61 dX7_alter_60 vi5 rfl ?_
        refine z_iload_n 62 dX7_alter_61 rfl rfl ?_
        refine z_imulN 63 (show (5 : Int32) = nI 5 from rfl) rfl dX7_alter_62 rfl ?_
        refine z_iload_n 64 dX7_alter_63 rfl rfl ?_
        refine z_iaddN 65 rfl rfl dX7_alter_64 rfl ?_
        refine z_iload_n 66 dX7_alter_65 rfl rfl ?_
        refine y_cVs 69 _ (c_puts0) sh158 cv_X7_193 ⟨by decide, by decide, rfl, rfl⟩ (Nat.le_of_ble_eq_true rfl) dX7_alter_66 rfl rfl ?_
        refine z_iret hq rfl dX7_alter_69 rfl rfl ?_
        exact ⟨_, no, rfl⟩
    · have no := no (fun h => hw h.2.1)
      refine z_iload_n 1 dX7_alter_0 rfl rfl ?_
      refine z_if_ne 8 4 dX7_alter_1 rfl rfl (fun h1 => ?_) (fun h1 => ?_)
      · skip
        refine z_iload_n 9 dX7_alter_8 rfl rfl ?_
        refine z_iconst 10 dX7_alter_9 vi4 rfl ?_
        refine z_icmp_ne 18 13 dX7_alter_10 rfl rfl (fun h10 => ?_) (fun h10 => ?_)
        · skip
          refine z_bipush 20 dX7_alter_18 vb9 rfl ?_
          refine z_istore 22 [_, _, _, _, _] dX7_alter_20 (by decide) rfl rfl rfl ?_
          refine z_aload_n 23 dX7_alter_22 rfl rfl ?_
          refine z_aload_n 24 dX7_alter_23 rfl rfl ?_
          refine z_iload_n 25 dX7_alter_24 rfl rfl ?_
          refine y_cVs 28 _ (q_isColour (o := 0) hc ok) sh158 cv_X7_176 ⟨by decide, by decide, rfl, rfl⟩ (Nat.le_of_ble_eq_true rfl) dX7_alter_25 rfl rfl ?_
          refine z_if_eq_f 31 59 dX7_alter_28 rfl (by rw [bi_t hi]; decide) rfl ?_
          refine z_iload_n 32 dX7_alter_31 rfl rfl ?_
          refine z_i2l 33 dX7_alter_32 rfl ?_
          refine z_lconst 34 dX7_alter_33 vl0 rfl ?_
          refine z_ldc2 37 kc_X7_110 dX7_alter_34 rfl ?_
          refine y_cSs 40 (c_in) cs_X7_55 ⟨by decide, by decide, rfl, rfl⟩ (Nat.le_of_ble_eq_true rfl) dX7_alter_37 rfl rfl ?_
          rw [bw]
          refine z_if_eq_t 59 dX7_alter_40 rfl (bi_f hw) ?_
          refine z_iconst 60 dX7_alter_59 vi0 rfl ?_
          refine z_iconst 61 dX7_alter_60 vi5 rfl ?_
          refine z_iload_n 62 dX7_alter_61 rfl rfl ?_
          refine z_imul 63 dX7_alter_62 rfl ?_
          refine z_iload_n 64 dX7_alter_63 rfl rfl ?_
          refine z_iadd 65 dX7_alter_64 rfl ?_
          refine z_iload_n 66 dX7_alter_65 rfl rfl ?_
          refine y_cVs 69 _ (c_puts0) sh158 cv_X7_193 ⟨by decide, by decide, rfl, rfl⟩ (Nat.le_of_ble_eq_true rfl) dX7_alter_66 rfl rfl ?_
          refine z_iret hq rfl dX7_alter_69 rfl rfl ?_
          exact ⟨_, no, rfl⟩
        · skip
          refine z_bipush 15 dX7_alter_13 vb99 rfl ?_
          refine z_goto 20 dX7_alter_15 rfl ?_
          refine z_istore 22 [_, _, _, _, _] dX7_alter_20 (by decide) rfl rfl rfl ?_
          refine z_aload_n 23 dX7_alter_22 rfl rfl ?_
          refine z_aload_n 24 dX7_alter_23 rfl rfl ?_
          refine z_iload_n 25 dX7_alter_24 rfl rfl ?_
          refine y_cVs 28 _ (q_isColour (o := 0) hc ok) sh158 cv_X7_176 ⟨by decide, by decide, rfl, rfl⟩ (Nat.le_of_ble_eq_true rfl) dX7_alter_25 rfl rfl ?_
          refine z_if_eq_f 31 59 dX7_alter_28 rfl (by rw [bi_t hi]; decide) rfl ?_
          refine z_iload_n 32 dX7_alter_31 rfl rfl ?_
          refine z_i2l 33 dX7_alter_32 rfl ?_
          refine z_lconst 34 dX7_alter_33 vl0 rfl ?_
          refine z_ldc2 37 kc_X7_110 dX7_alter_34 rfl ?_
          refine y_cSs 40 (c_in) cs_X7_55 ⟨by decide, by decide, rfl, rfl⟩ (Nat.le_of_ble_eq_true rfl) dX7_alter_37 rfl rfl ?_
          rw [bw]
          refine z_if_eq_t 59 dX7_alter_40 rfl (bi_f hw) ?_
          refine z_iconst 60 dX7_alter_59 vi0 rfl ?_
          refine z_iconst 61 dX7_alter_60 vi5 rfl ?_
          refine z_iload_n 62 dX7_alter_61 rfl rfl ?_
          refine z_imul 63 dX7_alter_62 rfl ?_
          refine z_iload_n 64 dX7_alter_63 rfl rfl ?_
          refine z_iadd 65 dX7_alter_64 rfl ?_
          refine z_iload_n 66 dX7_alter_65 rfl rfl ?_
          refine y_cVs 69 _ (c_puts0) sh158 cv_X7_193 ⟨by decide, by decide, rfl, rfl⟩ (Nat.le_of_ble_eq_true rfl) dX7_alter_66 rfl rfl ?_
          refine z_iret hq rfl dX7_alter_69 rfl rfl ?_
          exact ⟨_, no, rfl⟩
      · skip
        refine z_iconst 5 dX7_alter_4 vi3 rfl ?_
        refine z_goto 20 dX7_alter_5 rfl ?_
        refine z_istore 22 [_, _, _, _, _] dX7_alter_20 (by decide) rfl rfl rfl ?_
        refine z_aload_n 23 dX7_alter_22 rfl rfl ?_
        refine z_aload_n 24 dX7_alter_23 rfl rfl ?_
        refine z_iload_n 25 dX7_alter_24 rfl rfl ?_
        refine y_cVs 28 _ (q_isColour (o := 0) hc ok) sh158 cv_X7_176 ⟨by decide, by decide, rfl, rfl⟩ (Nat.le_of_ble_eq_true rfl) dX7_alter_25 rfl rfl ?_
        refine z_if_eq_f 31 59 dX7_alter_28 rfl (by rw [bi_t hi]; decide) rfl ?_
        refine z_iload_n 32 dX7_alter_31 rfl rfl ?_
        refine z_i2l 33 dX7_alter_32 rfl ?_
        refine z_lconst 34 dX7_alter_33 vl0 rfl ?_
        refine z_ldc2 37 kc_X7_110 dX7_alter_34 rfl ?_
        refine y_cSs 40 (c_in) cs_X7_55 ⟨by decide, by decide, rfl, rfl⟩ (Nat.le_of_ble_eq_true rfl) dX7_alter_37 rfl rfl ?_
        rw [bw]
        refine z_if_eq_t 59 dX7_alter_40 rfl (bi_f hw) ?_
        refine z_iconst 60 dX7_alter_59 vi0 rfl ?_
        refine z_iconst 61 dX7_alter_60 vi5 rfl ?_
        refine z_iload_n 62 dX7_alter_61 rfl rfl ?_
        refine z_imul 63 dX7_alter_62 rfl ?_
        refine z_iload_n 64 dX7_alter_63 rfl rfl ?_
        refine z_iadd 65 dX7_alter_64 rfl ?_
        refine z_iload_n 66 dX7_alter_65 rfl rfl ?_
        refine y_cVs 69 _ (c_puts0) sh158 cv_X7_193 ⟨by decide, by decide, rfl, rfl⟩ (Nat.le_of_ble_eq_true rfl) dX7_alter_66 rfl rfl ?_
        refine z_iret hq rfl dX7_alter_69 rfl rfl ?_
        exact ⟨_, no, rfl⟩
  · have no := no (fun h => hi h.1)
    refine z_iload_n 1 dX7_alter_0 rfl rfl ?_
    refine z_if_ne 8 4 dX7_alter_1 rfl rfl (fun h1 => ?_) (fun h1 => ?_)
    · skip
      refine z_iload_n 9 dX7_alter_8 rfl rfl ?_
      refine z_iconst 10 dX7_alter_9 vi4 rfl ?_
      refine z_icmp_ne 18 13 dX7_alter_10 rfl rfl (fun h10 => ?_) (fun h10 => ?_)
      · skip
        refine z_bipush 20 dX7_alter_18 vb9 rfl ?_
        refine z_istore 22 [_, _, _, _, _] dX7_alter_20 (by decide) rfl rfl rfl ?_
        refine z_aload_n 23 dX7_alter_22 rfl rfl ?_
        refine z_aload_n 24 dX7_alter_23 rfl rfl ?_
        refine z_iload_n 25 dX7_alter_24 rfl rfl ?_
        refine y_cVs 28 _ (q_isColour (o := 0) hc ok) sh158 cv_X7_176 ⟨by decide, by decide, rfl, rfl⟩ (Nat.le_of_ble_eq_true rfl) dX7_alter_25 rfl rfl ?_
        refine z_if_eq_t 59 dX7_alter_28 rfl (bi_f hi) ?_
        refine z_iconst 60 dX7_alter_59 vi0 rfl ?_
        refine z_iconst 61 dX7_alter_60 vi5 rfl ?_
        refine z_iload_n 62 dX7_alter_61 rfl rfl ?_
        refine z_imul 63 dX7_alter_62 rfl ?_
        refine z_iload_n 64 dX7_alter_63 rfl rfl ?_
        refine z_iadd 65 dX7_alter_64 rfl ?_
        refine z_iload_n 66 dX7_alter_65 rfl rfl ?_
        refine y_cVs 69 _ (c_puts0) sh158 cv_X7_193 ⟨by decide, by decide, rfl, rfl⟩ (Nat.le_of_ble_eq_true rfl) dX7_alter_66 rfl rfl ?_
        refine z_iret hq rfl dX7_alter_69 rfl rfl ?_
        exact ⟨_, no, rfl⟩
      · skip
        refine z_bipush 15 dX7_alter_13 vb99 rfl ?_
        refine z_goto 20 dX7_alter_15 rfl ?_
        refine z_istore 22 [_, _, _, _, _] dX7_alter_20 (by decide) rfl rfl rfl ?_
        refine z_aload_n 23 dX7_alter_22 rfl rfl ?_
        refine z_aload_n 24 dX7_alter_23 rfl rfl ?_
        refine z_iload_n 25 dX7_alter_24 rfl rfl ?_
        refine y_cVs 28 _ (q_isColour (o := 0) hc ok) sh158 cv_X7_176 ⟨by decide, by decide, rfl, rfl⟩ (Nat.le_of_ble_eq_true rfl) dX7_alter_25 rfl rfl ?_
        refine z_if_eq_t 59 dX7_alter_28 rfl (bi_f hi) ?_
        refine z_iconst 60 dX7_alter_59 vi0 rfl ?_
        refine z_iconst 61 dX7_alter_60 vi5 rfl ?_
        refine z_iload_n 62 dX7_alter_61 rfl rfl ?_
        refine z_imul 63 dX7_alter_62 rfl ?_
        refine z_iload_n 64 dX7_alter_63 rfl rfl ?_
        refine z_iadd 65 dX7_alter_64 rfl ?_
        refine z_iload_n 66 dX7_alter_65 rfl rfl ?_
        refine y_cVs 69 _ (c_puts0) sh158 cv_X7_193 ⟨by decide, by decide, rfl, rfl⟩ (Nat.le_of_ble_eq_true rfl) dX7_alter_66 rfl rfl ?_
        refine z_iret hq rfl dX7_alter_69 rfl rfl ?_
        exact ⟨_, no, rfl⟩
    · skip
      refine z_iconst 5 dX7_alter_4 vi3 rfl ?_
      refine z_goto 20 dX7_alter_5 rfl ?_
      refine z_istore 22 [_, _, _, _, _] dX7_alter_20 (by decide) rfl rfl rfl ?_
      refine z_aload_n 23 dX7_alter_22 rfl rfl ?_
      refine z_aload_n 24 dX7_alter_23 rfl rfl ?_
      refine z_iload_n 25 dX7_alter_24 rfl rfl ?_
      refine y_cVs 28 _ (q_isColour (o := 0) hc ok) sh158 cv_X7_176 ⟨by decide, by decide, rfl, rfl⟩ (Nat.le_of_ble_eq_true rfl) dX7_alter_25 rfl rfl ?_
      refine z_if_eq_t 59 dX7_alter_28 rfl (bi_f hi) ?_
      refine z_iconst 60 dX7_alter_59 vi0 rfl ?_
      refine z_iconst 61 dX7_alter_60 vi5 rfl ?_
      refine z_iload_n 62 dX7_alter_61 rfl rfl ?_
      refine z_imul 63 dX7_alter_62 rfl ?_
      refine z_iload_n 64 dX7_alter_63 rfl rfl ?_
      refine z_iadd 65 dX7_alter_64 rfl ?_
      refine z_iload_n 66 dX7_alter_65 rfl rfl ?_
      refine y_cVs 69 _ (c_puts0) sh158 cv_X7_193 ⟨by decide, by decide, rfl, rfl⟩ (Nat.le_of_ble_eq_true rfl) dX7_alter_66 rfl rfl ?_
      refine z_iret hq rfl dX7_alter_69 rfl rfl ?_
      exact ⟨_, no, rfl⟩
def payM (w : Nat) : Nat := if w = 0 then 999 else 99
abbrev okPay (N : Pg) (p w v : Int32) : Prop := inR p (N 57) ∧ inR w 2 ∧ inR v (payM (nN w) + 1)
def vPay (N : Pg) (p w v : Int32) : Int32 := if okPay N p w v then nI (N (25 + 4 * nN w + nN p)) else -1
def payQ (N : Pg) (p w v : Int32) : Pg := if okPay N p w v then un N (25 + 4 * nN w + nN p) (nN v) else N
set_option maxRecDepth 100000 in
theorem x_pay {l : Launch} {G : zG} {σ : Nat → Int32} {N : Pg} {p w v : Int32} (hc : hdc σ 1 N) (ok : okQ N) : zMet l yX6_pay mX6_pay [.ref (zGa G 0), .int p, .int w, .int v] G (zW G σ) (zP G (pC1 σ (vPay N p w v) (payQ N p w v))) := by
  have b5 := ok.np
  have bw : bi ((0 : Int32) ≤ w ∧ w ≤ 1) = bi (inR w 2) := bi_cg (le_inR (n := 1) (by decide))
  have no : ¬ okPay N p w v → pC1 σ (vPay N p w v) (payQ N p w v) (some (.int (-1))) σ := fun h => ⟨by rw [vPay, if_neg h], by rw [payQ, if_neg h]; exact hc, off1.rf⟩
  refine zMet.of (by decide) rfl (Nat.le_of_ble_eq_true rfl) (Or.inr rfl) fun X hX hq => ?_
  subst hX
  show Y G X mX6_pay σ 0 [some (.ref (zGa G 0)), some (.int p), some (.int w), some (.int v), none] []
  by_cases hi : inR p (N 57)
  · by_cases hw : inR w 2
    · obtain ⟨w', hw', rfl⟩ := inR_of hw (by decide)
      obtain ⟨p', hp', rfl⟩ := inR_of hi (by omega)
      have ew : nN (nI w') = w' := nN_nI (by omega)
      have ep : nN (nI p') = p' := nN_nI (by omega)
      have bm : payM w' ≤ 999 := by simp only [payM]; split <;> omega
      have bv : bi ((0 : Int32) ≤ v ∧ v ≤ nI (payM w')) = bi (inR v (payM w' + 1)) := bi_cg (le_inR (by omega))
      suffices main : Y G X mX6_pay σ 34 [some (.ref (zGa G 0)), some (.int (nI p')), some (.int (nI w')), some (.int v), none] [.int (nI (payM w')), .int 0, .int v] by
        refine z_aload_n 1 dX6_pay_0 rfl rfl ?_
        refine y_getr 4 _ sh0 rfl fl_X6_10 dX6_pay_1 rfl ?_
        refine z_iload_n 5 dX6_pay_4 rfl rfl ?_
        refine y_cVs 8 _ (n_hasOne bkm1 hc ok) (bk0 bkm1) cv_X6_141 ⟨by decide, by decide, rfl, rfl⟩ (Nat.le_of_ble_eq_true rfl) dX6_pay_5 rfl rfl ?_
        refine z_if_eq_f 11 40 dX6_pay_8 rfl (by rw [bi_t hi]; decide) rfl ?_
        refine z_iload_n 12 dX6_pay_11 rfl rfl ?_
        refine z_iconst 13 dX6_pay_12 vi0 rfl ?_
        refine z_iconst 14 dX6_pay_13 vi1 rfl ?_
        refine y_cSs 17 (c_within) cs_X6_73 ⟨by decide, by decide, rfl, rfl⟩ (Nat.le_of_ble_eq_true rfl) dX6_pay_14 rfl rfl ?_
        rw [bw]
        refine z_if_eq_f 20 40 dX6_pay_17 rfl (by rw [bi_t hw]; decide) rfl ?_
        refine z_iload_n 21 dX6_pay_20 rfl rfl ?_
        refine z_iconst 22 dX6_pay_21 vi0 rfl ?_
        refine z_iload_n 23 dX6_pay_22 rfl rfl ?_
        refine z_if_ne 32 26 dX6_pay_23 rfl rfl (fun h23 => ?_) (fun h23 => ?_)
        · skip
          have n0 : w' ≠ 0 := fun e => h23 (by rw [e]; rfl)
          rw [show payM w' = 99 by rw [payM, if_neg n0]] at main
          refine z_bipush 34 dX6_pay_32 vb99 rfl ?_
          exact main
        · skip
          have e : w' = 0 := nI_eqL (b := 0) (by omega) (by decide) h23
          rw [show payM w' = 999 by rw [e]; rfl] at main
          refine z_sipush 29 dX6_pay_26 vs999 rfl ?_
          refine z_goto 34 dX6_pay_29 rfl ?_
          exact main
      by_cases hv : inR v (payM w' + 1)
      · obtain ⟨v', hv', rfl⟩ := inR_of hv (by omega)
        have yes : okPay N (nI p') (nI w') (nI v') := ⟨hi, hw, by rw [ew]; exact hv⟩
        have ev : nN (nI v') = v' := nN_nI (by omega)
        have val : vPay N (nI p') (nI w') (nI v') = nI (N (25 + 4 * w' + p')) := by rw [vPay, if_pos yes, ew, ep]
        have pag : payQ N (nI p') (nI w') (nI v') = un N (25 + 4 * w' + p') v' := by rw [payQ, if_pos yes, ew, ep, ev]
        have col : vOne N (nI p') (nI w') = nI (N (25 + 4 * w' + p')) := by rw [one_v b5 hp' (by omega), oneV, if_pos hw']
        have fin : ∀ a, a = 400 * 1 + (25 + 4 * w' + p') → zP G (pC1 σ (vPay N (nI p') (nI w') (nI v')) (payQ N (nI p') (nI w') (nI v'))) (some (.int (nI (N (25 + 4 * w' + p'))))) (zW G (upd σ a (nI v'))) := fun a ha => ⟨_, ⟨by rw [val], by rw [pag, ha]; exact hdc_upd hc rfl, off1_upd (by omega)⟩, rfl⟩
        refine y_cSs 37 (c_within) cs_X6_73 ⟨by decide, by decide, rfl, rfl⟩ (Nat.le_of_ble_eq_true rfl) dX6_pay_34 rfl rfl ?_
        rw [bv]
        refine z_if_ne_t 42 dX6_pay_37 rfl (by rw [bi_t hv]; decide) ?_
        refine z_aload_n 43 dX6_pay_42 rfl rfl ?_
        refine z_iload_n 44 dX6_pay_43 rfl rfl ?_
        refine z_iload_n 45 dX6_pay_44 rfl rfl ?_
        refine y_cVs 48 _ (x_one hc ok) sh0 cv_X6_176 ⟨by decide, by decide, rfl, rfl⟩ (Nat.le_of_ble_eq_true rfl) dX6_pay_45 rfl rfl ?_
        rw [col]
        refine z_istore 50 [_, _, _, _, _] dX6_pay_48 (by decide) rfl rfl rfl ?_
        refine z_iload_n 51 dX6_pay_50 rfl rfl ?_
        refine z_if_ne 67 54 dX6_pay_51 rfl rfl (fun h51 => ?_) (fun h51 => ?_)
        · skip
          have n0 : w' ≠ 0 := fun e => h51 (by rw [e]; rfl)
          refine z_aload_n 68 dX6_pay_67 rfl rfl ?_
          refine y_getr 71 _ sh0 rfl fl_X6_10 dX6_pay_68 rfl ?_
          refine y_getr 74 _ (bk0 bkm1) rfl fl_X6_147 dX6_pay_71 rfl ?_
          refine z_iload_n 75 dX6_pay_74 rfl rfl ?_
          refine z_iload_n 76 dX6_pay_75 rfl rfl ?_
          refine y_st 77 _ _ (bk5 bkm1) rfl (by omega) (by omega) dX6_pay_76 rfl ?_
          refine z_iload 79 dX6_pay_77 rfl rfl ?_
          refine z_iret hq rfl dX6_pay_79 rfl rfl ?_
          exact fin _ (by omega)
        · skip
          have e : w' = 0 := nI_eqL (b := 0) (by omega) (by decide) h51
          refine z_aload_n 55 dX6_pay_54 rfl rfl ?_
          refine y_getr 58 _ sh0 rfl fl_X6_10 dX6_pay_55 rfl ?_
          refine y_getr 61 _ (bk0 bkm1) rfl fl_X6_144 dX6_pay_58 rfl ?_
          refine z_iload_n 62 dX6_pay_61 rfl rfl ?_
          refine z_iload_n 63 dX6_pay_62 rfl rfl ?_
          refine y_st 64 _ _ (bk4 bkm1) rfl (by omega) (by omega) dX6_pay_63 rfl ?_
          refine z_goto 77 dX6_pay_64 rfl ?_
          refine z_iload 79 dX6_pay_77 rfl rfl ?_
          refine z_iret hq rfl dX6_pay_79 rfl rfl ?_
          exact fin _ (by omega)
      · have no := no (fun h => hv (by have := h.2.2; rw [ew] at this; exact this))
        refine y_cSs 37 (c_within) cs_X6_73 ⟨by decide, by decide, rfl, rfl⟩ (Nat.le_of_ble_eq_true rfl) dX6_pay_34 rfl rfl ?_
        rw [bv]
        refine z_if_ne_f 40 42 dX6_pay_37 rfl (bi_f hv) rfl ?_
        refine z_iconst 41 dX6_pay_40 vim1 rfl ?_
        refine z_iret hq rfl dX6_pay_41 rfl rfl ?_
        exact ⟨_, no, rfl⟩
    · have no := no (fun h => hw h.2.1)
      refine z_aload_n 1 dX6_pay_0 rfl rfl ?_
      refine y_getr 4 _ sh0 rfl fl_X6_10 dX6_pay_1 rfl ?_
      refine z_iload_n 5 dX6_pay_4 rfl rfl ?_
      refine y_cVs 8 _ (n_hasOne bkm1 hc ok) (bk0 bkm1) cv_X6_141 ⟨by decide, by decide, rfl, rfl⟩ (Nat.le_of_ble_eq_true rfl) dX6_pay_5 rfl rfl ?_
      refine z_if_eq_f 11 40 dX6_pay_8 rfl (by rw [bi_t hi]; decide) rfl ?_
      refine z_iload_n 12 dX6_pay_11 rfl rfl ?_
      refine z_iconst 13 dX6_pay_12 vi0 rfl ?_
      refine z_iconst 14 dX6_pay_13 vi1 rfl ?_
      refine y_cSs 17 (c_within) cs_X6_73 ⟨by decide, by decide, rfl, rfl⟩ (Nat.le_of_ble_eq_true rfl) dX6_pay_14 rfl rfl ?_
      rw [bw]
      refine z_if_eq_t 40 dX6_pay_17 rfl (bi_f hw) ?_
      refine z_iconst 41 dX6_pay_40 vim1 rfl ?_
      refine z_iret hq rfl dX6_pay_41 rfl rfl ?_
      exact ⟨_, no, rfl⟩
  · have no := no (fun h => hi h.1)
    refine z_aload_n 1 dX6_pay_0 rfl rfl ?_
    refine y_getr 4 _ sh0 rfl fl_X6_10 dX6_pay_1 rfl ?_
    refine z_iload_n 5 dX6_pay_4 rfl rfl ?_
    refine y_cVs 8 _ (n_hasOne bkm1 hc ok) (bk0 bkm1) cv_X6_141 ⟨by decide, by decide, rfl, rfl⟩ (Nat.le_of_ble_eq_true rfl) dX6_pay_5 rfl rfl ?_
    refine z_if_eq_t 40 dX6_pay_8 rfl (bi_f hi) ?_
    refine z_iconst 41 dX6_pay_40 vim1 rfl ?_
    refine z_iret hq rfl dX6_pay_41 rfl rfl ?_
    exact ⟨_, no, rfl⟩

