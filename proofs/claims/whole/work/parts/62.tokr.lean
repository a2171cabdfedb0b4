/-! ===== the text: the reference's tokens ===== -/
def hRa (τ : Nat → Int32) (tn : Nat) (B : Nat → Nat) : Prop := τ (400 * 158 + 10) = nI tn ∧ ∀ i, i < tn → τ (400 * 161 + 0 + i) = nI (B i)
def offS (τ' τ : Nat → Int32) : Prop := ∀ a, (a < 63212 ∨ 63218 ≤ a) → τ' a = τ a
theorem offS.rf {τ : Nat → Int32} : offS τ τ := fun _ _ => rfl
theorem offS.tr {τ τ' τ'' : Nat → Int32} (h : offS τ'' τ') (h2 : offS τ' τ) : offS τ'' τ := fun a ha => (h a ha).trans (h2 a ha)
theorem hRa.off {τ τ' : Nat → Int32} {tn : Nat} {B : Nat → Nat} (h : hRa τ tn B) (ho : offS τ' τ) (h6 : tn ≤ 160) : hRa τ' tn B := ⟨(ho _ (by omega)).trans h.1, fun i hi => (ho _ (by omega)).trans (h.2 i hi)⟩
def byV (tn : Nat) (B : Nat → Nat) (k : Nat) : Int32 := if k < tn then nI (B k) else -4
set_option maxRecDepth 100000 in
theorem c_byteAt {l : Launch} {G : zG} {τ : Nat → Int32} {tn k : Nat} {B : Nat → Nat} (hT : hRa τ tn B) (ok : okT tn B) (hk : k < 1000) : zMet l yX7_byteAt mX7_byteAt [.ref (zGa G 158), .int (nI k)] G (zW G τ) (zFn G (some (.int (byV tn B k))) τ) := by
  have h6 := ok.1
  refine zMet.of (by decide) rfl (Nat.le_of_ble_eq_true rfl) (Or.inr rfl) fun X hX hq => ?_
  subst hX
  show Y G X mX7_byteAt τ 0 [some (.ref (zGa G 158)), some (.int (nI k))] []
  by_cases h : k < tn
  · skip
    refine z_iload_n 1 dX7_byteAt_0 rfl rfl ?_
    refine z_aload_n 2 dX7_byteAt_1 rfl rfl ?_
    refine y_get 5 _ sh158 rfl fl_X7_59 dX7_byteAt_2 rfl ?_
    rw [hT.1]
    refine z_icmp_ge_f 8 17 dX7_byteAt_5 rfl (nI_ge h (by omega)) rfl ?_
    refine z_aload_n 9 dX7_byteAt_8 rfl rfl ?_
    refine y_getr 12 _ sh158 rfl fl_X7_16 dX7_byteAt_9 rfl ?_
    refine z_iload_n 13 dX7_byteAt_12 rfl rfl ?_
    refine y_ld 14 _ k sh161 rfl (by omega) (by omega) dX7_byteAt_13 rfl ?_
    rw [hT.2 k h]
    refine z_goto 19 dX7_byteAt_14 rfl ?_
    refine z_iret hq rfl dX7_byteAt_19 rfl rfl ?_
    exact ⟨by rw [byV, if_pos h], rfl⟩
  · skip
    refine z_iload_n 1 dX7_byteAt_0 rfl rfl ?_
    refine z_aload_n 2 dX7_byteAt_1 rfl rfl ?_
    refine y_get 5 _ sh158 rfl fl_X7_59 dX7_byteAt_2 rfl ?_
    rw [hT.1]
    refine z_icmp_ge_t 17 dX7_byteAt_5 rfl (nI_le (by omega) (by omega)) ?_
    refine z_bipush 19 dX7_byteAt_17 vbm4 rfl ?_
    refine z_iret hq rfl dX7_byteAt_19 rfl rfl ?_
    exact ⟨by rw [byV, if_neg h], rfl⟩
set_option maxRecDepth 100000 in
theorem c_fails0 {l : Launch} {G : zG} {τ : Nat → Int32} {c : Int32} (h0 : τ (400 * 158 + 12) = 0) : zMet l yX7_fails mX7_fails [.ref (zGa G 158), .int c] G (zW G τ) (zFn G none (upd (upd τ (400 * 158 + 12) c) (400 * 158 + 13) (τ (400 * 158 + 15)))) := by
  have e : upd τ (400 * 158 + 12) c (400 * 158 + 15) = τ (400 * 158 + 15) := pk_un (by omega)
  refine zMet.of (by decide) rfl (Nat.le_of_ble_eq_true rfl) (Or.inr rfl) fun X hX hq => ?_
  subst hX
  show Y G X mX7_fails τ 0 [some (.ref (zGa G 158)), some (.int c)] []
  refine z_aload_n 1 dX7_fails_0 rfl rfl ?_
  refine y_get 4 _ sh158 rfl fl_X7_63 dX7_fails_1 rfl ?_
  rw [h0]
  refine z_if_ne_f 7 20 dX7_fails_4 rfl (rfl) rfl ?_
  refine z_aload_n 8 dX7_fails_7 rfl rfl ?_
  refine z_iload_n 9 dX7_fails_8 rfl rfl ?_
  refine y_putI 12 _ sh158 rfl fp_X7_63 dX7_fails_9 rfl ?_
  refine z_aload_n 13 dX7_fails_12 rfl rfl ?_
  refine z_aload_n 14 dX7_fails_13 rfl rfl ?_
  refine y_get 17 _ sh158 rfl fl_X7_66 dX7_fails_14 rfl ?_
  rw [e]
  refine y_putI 20 _ sh158 rfl fp_X7_69 dX7_fails_17 rfl ?_
  refine z_vret hq rfl dX7_fails_20 rfl rfl ?_
  exact ⟨rfl, rfl⟩
set_option maxRecDepth 100000 in
theorem c_fails1 {l : Launch} {G : zG} {τ : Nat → Int32} {c : Int32} (h0 : ¬ τ (400 * 158 + 12) = 0) : zMet l yX7_fails mX7_fails [.ref (zGa G 158), .int c] G (zW G τ) (zFn G none τ) := by
  refine zMet.of (by decide) rfl (Nat.le_of_ble_eq_true rfl) (Or.inr rfl) fun X hX hq => ?_
  subst hX
  show Y G X mX7_fails τ 0 [some (.ref (zGa G 158)), some (.int c)] []
  refine z_aload_n 1 dX7_fails_0 rfl rfl ?_
  refine y_get 4 _ sh158 rfl fl_X7_63 dX7_fails_1 rfl ?_
  refine z_if_ne_t 20 dX7_fails_4 rfl (h0) ?_
  refine z_vret hq rfl dX7_fails_20 rfl rfl ?_
  exact ⟨rfl, rfl⟩
theorem byV_in {tn k lo hi : Nat} {B : Nat → Nat} {a b : Int64} (ok : okT tn B) (ha : a.toInt = lo) (hb : b.toInt = hi) : bi (a ≤ (byV tn B k).toInt64 ∧ (byV tn B k).toInt64 ≤ b) = bi (k < tn ∧ lo ≤ B k ∧ B k ≤ hi) := bi_cg (by
  rw [Int64.le_iff_toInt_le, Int64.le_iff_toInt_le, Int32.toInt_toInt64, ha, hb, byV]
  by_cases h : k < tn
  · have hk := ok.2 k h
    rw [if_pos h, nI_toInt (by omega)]; omega
  · rw [if_neg h, show (-4 : Int32).toInt = -4 from rfl]; omega)
def aTkR (B : Nat → Nat) (τ' : Nat → Int32) (r : Sum (Nat × Nat) Tk) : Prop := match r with
  | .inl (c, s) => τ' (400 * 158 + 12) = nI c ∧ τ' (400 * 158 + 13) = nI s
  | .inr (so, s, e) => τ' (400 * 158 + 12) = 0 ∧ τ' (400 * 158 + 16) = nI so ∧ τ' (400 * 158 + 15) = nI s ∧ τ' (400 * 158 + 14) = nI e ∧ (so = 2 → τ' (400 * 158 + 17) = nI (vlN B s (e - s)))
set_option maxRecDepth 100000 in
theorem c_step1 {l : Launch} {G : zG} {τ : Nat → Int32} {c : Nat} (h0 : τ (400 * 158 + 12) = nI c) (hc : 1 ≤ c) (hc2 : c < 1000) : zMet l yX7_step mX7_step [.ref (zGa G 158)] G (zW G τ) (zFn G none τ) := by
  refine zMet.of (by decide) rfl (Nat.le_of_ble_eq_true rfl) (Or.inr rfl) fun X hX hq => ?_
  subst hX
  show Y G X mX7_step τ 0 [some (.ref (zGa G 158)), none] []
  refine z_aload_n 1 dX7_step_0 rfl rfl ?_
  refine y_get 4 _ sh158 rfl fl_X7_63 dX7_step_1 rfl ?_
  rw [h0]
  refine z_if_le_f 7 8 dX7_step_4 rfl (nI_nle (by omega) (by omega)) rfl ?_
  refine z_vret hq rfl dX7_step_7 rfl rfl ?_
  exact ⟨rfl, rfl⟩
set_option maxRecDepth 100000 in
set_option maxHeartbeats 4000000 in
theorem c_step {l : Launch} {G : zG} {τ : Nat → Int32} {tn a : Nat} {B : Nat → Nat} (hT : hRa τ tn B) (ok : okT tn B) (ha : a ≤ tn) (hA : τ (400 * 158 + 14) = nI a) (hF : τ (400 * 158 + 12) = 0) : zMet l yX7_step mX7_step [.ref (zGa G 158)] G (zW G τ) (zP G (fun v τ' => v = none ∧ aTkR B τ' (tokF tn B a) ∧ offS τ' τ)) := by
  have h6 := ok.1
  have hr := rnA_le (B := B) (lo := 32) (hi := 32) ha
  generalize hR : tokF tn B a = R
  rw [tokF] at hR
  refine zMet.of (by decide) rfl (Nat.le_of_ble_eq_true rfl) (Or.inr rfl) fun X hX hq => ?_
  subst hX
  show Y G X mX7_step τ 0 [some (.ref (zGa G 158)), none] []
  suffices behindSp : ∀ τ1, offS τ1 τ → τ1 (400 * 158 + 14) = nI (rnA tn B 32 32 a) → τ1 (400 * 158 + 12) = 0 → Y G X mX7_step τ1 34 [some (.ref (zGa G 158)), none] [] by
    have key : ∀ d x, tn - x ≤ d → x ≤ tn → rnA tn B 32 32 x = rnA tn B 32 32 a → ∀ τ1, offS τ1 τ → τ1 (400 * 158 + 14) = nI x → τ1 (400 * 158 + 12) = 0 → Y G X mX7_step τ1 8 [some (.ref (zGa G 158)), none] [] := by
      intro d
      induction d with
      | zero =>
        intro x hd hx e τ1 o1 o2 o3
        have hT1 := hT.off o1 h6
        have bs := behindSp τ1 o1
        rw [← e, rnA_f (by omega)] at bs
        have ev : byV tn B x = -4 := by rw [byV, if_neg (by omega)]
        refine z_aload_n 9 dX7_step_8 rfl rfl ?_
        refine z_aload_n 10 dX7_step_9 rfl rfl ?_
        refine y_get 13 _ sh158 rfl fl_X7_75 dX7_step_10 rfl ?_
        rw [o2]
        refine y_cVs 16 _ (c_byteAt hT1 ok (by omega)) sh158 cv_X7_78 ⟨by decide, by decide, rfl, rfl⟩ (Nat.le_of_ble_eq_true rfl) dX7_step_13 rfl rfl ?_
        rw [ev]
        refine z_bipush 18 dX7_step_16 vb32 rfl ?_
        refine z_icmp_ne_t 34 dX7_step_18 rfl (by decide) ?_
        exact bs o2 o3
      | succ d ih =>
        intro x hd hx e τ1 o1 o2 o3
        have hT1 := hT.off o1 h6
        by_cases h1 : x < tn ∧ 32 ≤ B x ∧ B x ≤ 32
        · rw [rnA_t h1] at e
          have ev : byV tn B x = 32 := by rw [byV, if_pos h1.1, show B x = 32 by omega]; rfl
          refine z_aload_n 9 dX7_step_8 rfl rfl ?_
          refine z_aload_n 10 dX7_step_9 rfl rfl ?_
          refine y_get 13 _ sh158 rfl fl_X7_75 dX7_step_10 rfl ?_
          rw [o2]
          refine y_cVs 16 _ (c_byteAt hT1 ok (by omega)) sh158 cv_X7_78 ⟨by decide, by decide, rfl, rfl⟩ (Nat.le_of_ble_eq_true rfl) dX7_step_13 rfl rfl ?_
          rw [ev]
          refine z_bipush 18 dX7_step_16 vb32 rfl ?_
          refine z_icmp_ne_f 21 34 dX7_step_18 rfl (rfl) rfl ?_
          refine z_aload_n 22 dX7_step_21 rfl rfl ?_
          refine z_dup 23 dX7_step_22 rfl rfl ?_
          refine y_get 26 _ sh158 rfl fl_X7_75 dX7_step_23 rfl ?_
          rw [o2]
          refine z_iconst 27 dX7_step_26 vi1 rfl ?_
          refine z_iaddN 28 rfl (show (1 : Int32) = nI 1 from rfl) dX7_step_27 rfl ?_
          refine y_putI 31 _ sh158 rfl fp_X7_75 dX7_step_28 rfl ?_
          refine z_goto 8 dX7_step_31 rfl ?_
          exact ih (x + 1) (by omega) (by omega) e _ (fun a ha => (pk_un (by omega)).trans (o1 a ha)) pk_us ((pk_un (by omega)).trans o3)
        · have bs := behindSp τ1 o1
          rw [← e, rnA_f h1] at bs
          have ev : ¬ byV tn B x = 32 := by
            rw [byV]; split
            · rename_i hx'
              have := ok.2 x hx'
              intro z
              have := nI_eqL (b := 32) (by omega) (by decide) z
              omega
            · decide
          refine z_aload_n 9 dX7_step_8 rfl rfl ?_
          refine z_aload_n 10 dX7_step_9 rfl rfl ?_
          refine y_get 13 _ sh158 rfl fl_X7_75 dX7_step_10 rfl ?_
          rw [o2]
          refine y_cVs 16 _ (c_byteAt hT1 ok (by omega)) sh158 cv_X7_78 ⟨by decide, by decide, rfl, rfl⟩ (Nat.le_of_ble_eq_true rfl) dX7_step_13 rfl rfl ?_
          refine z_bipush 18 dX7_step_16 vb32 rfl ?_
          refine z_icmp_ne_t 34 dX7_step_18 rfl (ev) ?_
          exact bs o2 o3
    have k0 := key (tn - a) a (Nat.le_refl _) ha rfl τ offS.rf hA hF
    refine z_aload_n 1 dX7_step_0 rfl rfl ?_
    refine y_get 4 _ sh158 rfl fl_X7_63 dX7_step_1 rfl ?_
    rw [hF]
    refine z_if_le_t 8 dX7_step_4 rfl (by decide) ?_
    exact k0
  intro τ1 o1 o2 o3
  have hT1 := hT.off o1 h6
  generalize rnA tn B 32 32 a = r at hR hr o2
  have u1 : upd τ1 (400 * 158 + 15) (nI r) (400 * 158 + 14) = nI r := (pk_un (by omega)).trans o2
  have hT2 : hRa (upd τ1 (400 * 158 + 15) (nI r)) tn B := ⟨(pk_un (by omega)).trans hT1.1, fun i hi => (pk_un (by omega)).trans (hT1.2 i hi)⟩
  have head : Y G X mX7_step (upd (upd τ1 (400 * 158 + 15) (nI r)) (400 * 158 + 17) 0) 56 [some (.ref (zGa G 158)), some (.int (byV tn B r))] [] → Y G X mX7_step τ1 34 [some (.ref (zGa G 158)), none] [] := by
    intro hh
    refine z_aload_n 35 dX7_step_34 rfl rfl ?_
    refine z_aload_n 36 dX7_step_35 rfl rfl ?_
    refine y_get 39 _ sh158 rfl fl_X7_75 dX7_step_36 rfl ?_
    rw [o2]
    refine y_putI 42 _ sh158 rfl fp_X7_66 dX7_step_39 rfl ?_
    refine z_aload_n 43 dX7_step_42 rfl rfl ?_
    refine z_aload_n 44 dX7_step_43 rfl rfl ?_
    refine y_get 47 _ sh158 rfl fl_X7_75 dX7_step_44 rfl ?_
    rw [u1]
    refine y_cVs 50 _ (c_byteAt hT2 ok (by omega)) sh158 cv_X7_78 ⟨by decide, by decide, rfl, rfl⟩ (Nat.le_of_ble_eq_true rfl) dX7_step_47 rfl rfl ?_
    refine z_istore_n 51 [_, _] dX7_step_50 (by decide) rfl rfl rfl ?_
    refine z_aload_n 52 dX7_step_51 rfl rfl ?_
    refine z_iconst 53 dX7_step_52 vi0 rfl ?_
    refine y_putI 56 _ sh158 rfl fp_X7_82 dX7_step_53 rfl ?_
    exact hh
  apply head
  generalize hτ2 : upd (upd τ1 (400 * 158 + 15) (nI r)) (400 * 158 + 17) 0 = τ2
  have p4 : τ2 (400 * 158 + 14) = nI r := by rw [← hτ2, pk_un (by omega)]; exact u1
  have p5 : τ2 (400 * 158 + 15) = nI r := by rw [← hτ2, pk_un (by omega), pk_us]
  have p7 : τ2 (400 * 158 + 17) = nI 0 := by rw [← hτ2, pk_us]; rfl
  have p2 : τ2 (400 * 158 + 12) = 0 := by rw [← hτ2, pk_un (by omega), pk_un (by omega)]; exact o3
  have o4 : offS τ2 τ := fun a ha => by rw [← hτ2, pk_un (by omega), pk_un (by omega)]; exact o1 a ha
  clear head hτ2 u1 hT2
  by_cases c1 : tn ≤ r
  · rw [if_pos c1] at hR
    have ev : byV tn B r = -4 := by rw [byV, if_neg (by omega)]
    rw [ev]
    refine z_iload_n 57 dX7_step_56 rfl rfl ?_
    refine z_bipush 59 dX7_step_57 vbm4 rfl ?_
    refine z_icmp_ne_f 62 70 dX7_step_59 rfl (rfl) rfl ?_
    refine z_aload_n 63 dX7_step_62 rfl rfl ?_
    refine z_iconst 64 dX7_step_63 vi0 rfl ?_
    refine y_putI 67 _ sh158 rfl fp_X7_72 dX7_step_64 rfl ?_
    refine z_goto 269 dX7_step_67 rfl ?_
    refine z_vret hq rfl dX7_step_269 rfl rfl ?_
    rw [← hR]
    exact ⟨_, ⟨rfl, ⟨by rw [pk_un (by omega)]; exact p2, by rw [pk_us]; rfl, by rw [pk_un (by omega)]; exact p5, by rw [pk_un (by omega)]; exact p4, fun z => by cases z⟩, fun a ha => (pk_un (by omega)).trans (o4 a ha)⟩, rfl⟩
  rw [if_neg c1] at hR
  have hb := ok.2 r (by omega)
  have ev : byV tn B r = nI (B r) := by rw [byV, if_pos (by omega)]
  have ne4 : ¬ byV tn B r = -4 := by rw [ev]; exact nI_ne_m4 (by omega)
  have bA : ∀ k, bi ((97 : Int64) ≤ (byV tn B k).toInt64 ∧ (byV tn B k).toInt64 ≤ 122) = bi (k < tn ∧ 97 ≤ B k ∧ B k ≤ 122) := fun k => byV_in ok (by decide) (by decide)
  have bD : ∀ k, bi ((48 : Int64) ≤ (byV tn B k).toInt64 ∧ (byV tn B k).toInt64 ≤ 57) = bi (k < tn ∧ 48 ≤ B k ∧ B k ≤ 57) := fun k => byV_in ok (by decide) (by decide)
  by_cases c3 : 97 ≤ B r ∧ B r ≤ 122
  · rw [if_neg (by omega), if_pos c3] at hR
    have key : ∀ d x, tn - x ≤ d → x ≤ tn → rnA tn B 97 122 x = rnA tn B 97 122 r → ∀ τ1, offS τ1 τ → τ1 (400 * 158 + 14) = nI x → τ1 (400 * 158 + 12) = 0 → τ1 (400 * 158 + 15) = nI r → Y G X mX7_step τ1 84 [some (.ref (zGa G 158)), some (.int (byV tn B r))] [] := by
      intro d
      induction d with
      | zero =>
        intro x hd hx e τ1 q1 q2 q3 q4
        have hT1 := hT.off q1 h6
        rw [rnA_f (by omega)] at e
        refine z_aload_n 85 dX7_step_84 rfl rfl ?_
        refine z_aload_n 86 dX7_step_85 rfl rfl ?_
        refine y_get 89 _ sh158 rfl fl_X7_75 dX7_step_86 rfl ?_
        rw [q2]
        refine y_cVs 92 _ (c_byteAt hT1 ok (by omega)) sh158 cv_X7_78 ⟨by decide, by decide, rfl, rfl⟩ (Nat.le_of_ble_eq_true rfl) dX7_step_89 rfl rfl ?_
        refine z_i2l 93 dX7_step_92 rfl ?_
        refine z_ldc2 96 kc_X7_85 dX7_step_93 rfl ?_
        refine z_ldc2 99 kc_X7_87 dX7_step_96 rfl ?_
        refine y_cSs 102 (c_in) cs_X7_55 ⟨by decide, by decide, rfl, rfl⟩ (Nat.le_of_ble_eq_true rfl) dX7_step_99 rfl rfl ?_
        rw [bA]
        refine z_if_eq_t 118 dX7_step_102 rfl (bi_f (by omega)) ?_
        refine z_aload_n 119 dX7_step_118 rfl rfl ?_
        refine z_iconst 120 dX7_step_119 vi1 rfl ?_
        refine y_putI 123 _ sh158 rfl fp_X7_72 dX7_step_120 rfl ?_
        refine z_goto 269 dX7_step_123 rfl ?_
        refine z_vret hq rfl dX7_step_269 rfl rfl ?_
        rw [← hR]
        exact ⟨_, ⟨rfl, ⟨by rw [pk_un (by omega)]; exact q3, by rw [pk_us]; rfl, by rw [pk_un (by omega)]; exact q4, by rw [pk_un (by omega), ← e]; exact q2, fun z => by cases z⟩, fun a ha => (pk_un (by omega)).trans (q1 a ha)⟩, rfl⟩
      | succ d ih =>
        intro x hd hx e τ1 q1 q2 q3 q4
        have hT1 := hT.off q1 h6
        by_cases h1 : x < tn ∧ 97 ≤ B x ∧ B x ≤ 122
        · rw [rnA_t h1] at e
          refine z_aload_n 85 dX7_step_84 rfl rfl ?_
          refine z_aload_n 86 dX7_step_85 rfl rfl ?_
          refine y_get 89 _ sh158 rfl fl_X7_75 dX7_step_86 rfl ?_
          rw [q2]
          refine y_cVs 92 _ (c_byteAt hT1 ok (by omega)) sh158 cv_X7_78 ⟨by decide, by decide, rfl, rfl⟩ (Nat.le_of_ble_eq_true rfl) dX7_step_89 rfl rfl ?_
          refine z_i2l 93 dX7_step_92 rfl ?_
          refine z_ldc2 96 kc_X7_85 dX7_step_93 rfl ?_
          refine z_ldc2 99 kc_X7_87 dX7_step_96 rfl ?_
          refine y_cSs 102 (c_in) cs_X7_55 ⟨by decide, by decide, rfl, rfl⟩ (Nat.le_of_ble_eq_true rfl) dX7_step_99 rfl rfl ?_
          rw [bA]
          refine z_if_eq_f 105 118 dX7_step_102 rfl (by rw [bi_t h1]; decide) rfl ?_
          refine z_aload_n 106 dX7_step_105 rfl rfl ?_
          refine z_dup 107 dX7_step_106 rfl rfl ?_
          refine y_get 110 _ sh158 rfl fl_X7_75 dX7_step_107 rfl ?_
          rw [q2]
          refine z_iconst 111 dX7_step_110 vi1 rfl ?_
          refine z_iaddN 112 rfl (show (1 : Int32) = nI 1 from rfl) dX7_step_111 rfl ?_
          refine y_putI 115 _ sh158 rfl fp_X7_75 dX7_step_112 rfl ?_
          refine z_goto 84 dX7_step_115 rfl ?_
          exact ih (x + 1) (by omega) (by omega) e _ (fun a ha => (pk_un (by omega)).trans (q1 a ha)) pk_us ((pk_un (by omega)).trans q3) ((pk_un (by omega)).trans q4)
        · rw [rnA_f h1] at e
          refine z_aload_n 85 dX7_step_84 rfl rfl ?_
          refine z_aload_n 86 dX7_step_85 rfl rfl ?_
          refine y_get 89 _ sh158 rfl fl_X7_75 dX7_step_86 rfl ?_
          rw [q2]
          refine y_cVs 92 _ (c_byteAt hT1 ok (by omega)) sh158 cv_X7_78 ⟨by decide, by decide, rfl, rfl⟩ (Nat.le_of_ble_eq_true rfl) dX7_step_89 rfl rfl ?_
          refine z_i2l 93 dX7_step_92 rfl ?_
          refine z_ldc2 96 kc_X7_85 dX7_step_93 rfl ?_
          refine z_ldc2 99 kc_X7_87 dX7_step_96 rfl ?_
          refine y_cSs 102 (c_in) cs_X7_55 ⟨by decide, by decide, rfl, rfl⟩ (Nat.le_of_ble_eq_true rfl) dX7_step_99 rfl rfl ?_
          rw [bA]
          refine z_if_eq_t 118 dX7_step_102 rfl (bi_f h1) ?_
          refine z_aload_n 119 dX7_step_118 rfl rfl ?_
          refine z_iconst 120 dX7_step_119 vi1 rfl ?_
          refine y_putI 123 _ sh158 rfl fp_X7_72 dX7_step_120 rfl ?_
          refine z_goto 269 dX7_step_123 rfl ?_
          refine z_vret hq rfl dX7_step_269 rfl rfl ?_
          rw [← hR]
          exact ⟨_, ⟨rfl, ⟨by rw [pk_un (by omega)]; exact q3, by rw [pk_us]; rfl, by rw [pk_un (by omega)]; exact q4, by rw [pk_un (by omega), ← e]; exact q2, fun z => by cases z⟩, fun a ha => (pk_un (by omega)).trans (q1 a ha)⟩, rfl⟩
    have k0 := key (tn - r) r (Nat.le_refl _) hr.2 rfl τ2 o4 p4 p2 p5
    refine z_iload_n 57 dX7_step_56 rfl rfl ?_
    refine z_bipush 59 dX7_step_57 vbm4 rfl ?_
    refine z_icmp_ne_t 70 dX7_step_59 rfl (ne4) ?_
    refine z_iload_n 71 dX7_step_70 rfl rfl ?_
    refine z_i2l 72 dX7_step_71 rfl ?_
    refine z_ldc2 75 kc_X7_85 dX7_step_72 rfl ?_
    refine z_ldc2 78 kc_X7_87 dX7_step_75 rfl ?_
    refine y_cSs 81 (c_in) cs_X7_55 ⟨by decide, by decide, rfl, rfl⟩ (Nat.le_of_ble_eq_true rfl) dX7_step_78 rfl rfl ?_
    rw [bA]
    refine z_if_eq_f 84 126 dX7_step_81 rfl (by rw [bi_t ⟨by omega, c3.1, c3.2⟩]; decide) rfl ?_
    exact k0
  by_cases c4 : 48 ≤ B r ∧ B r ≤ 57
  · rw [if_neg (by omega), if_neg c3] at hR
    have e0 : rnA tn B 48 57 r = rnA tn B 48 57 (r + 1) := rnA_t ⟨by omega, c4.1, c4.2⟩
    have g1 := rnA_le (tn := tn) (B := B) (lo := 48) (hi := 57) (a := r + 1) (by omega)
    have dig := rnA_in (tn := tn) (B := B) (lo := 48) (hi := 57) _ r (Nat.le_refl _)
    rw [← e0] at g1
    generalize hE : rnA tn B 48 57 r = E at hR g1 dig
    have vlb : ∀ k, k ≤ E - r → k ≤ 2 → vlN B r k < 100 := fun k hk' hk2 => by
      have h4 := vl_le (B := B) (s := r) k (fun i a b => (dig i a (by omega)).2)
      have h5 : 10 ^ k ≤ 10 ^ 2 := Nat.pow_le_pow_right (by decide) hk2
      omega
    -- behind the digits
    have tail : ∀ τ1, offS τ1 τ → τ1 (400 * 158 + 14) = nI E → τ1 (400 * 158 + 12) = 0 → τ1 (400 * 158 + 15) = nI r → τ1 (400 * 158 + 17) = nI (vlN B r (min (E - r) 2)) → Y G X mX7_step τ1 217 [some (.ref (zGa G 158)), some (.int (byV tn B r))] [] := by
      intro τ1 q1 q2 q3 q4 q5
      have v1 : ∀ x, upd τ1 (400 * 158 + 16) x (400 * 158 + 14) = nI E := fun x => (pk_un (by omega)).trans q2
      have v2 : ∀ x, upd τ1 (400 * 158 + 16) x (400 * 158 + 15) = nI r := fun x => (pk_un (by omega)).trans q4
      by_cases c5 : E - r ≤ 2
      · rw [if_pos ⟨by omega, c5⟩] at hR
        rw [show min (E - r) 2 = E - r by omega] at q5
        refine z_aload_n 218 dX7_step_217 rfl rfl ?_
        refine z_iconst 219 dX7_step_218 vi2 rfl ?_
        refine y_putI 222 _ sh158 rfl fp_X7_72 dX7_step_219 rfl ?_
        refine z_aload_n 223 dX7_step_222 rfl rfl ?_
        refine y_get 226 _ sh158 rfl fl_X7_75 dX7_step_223 rfl ?_
        rw [v1]
        refine z_aload_n 227 dX7_step_226 rfl rfl ?_
        refine y_get 230 _ sh158 rfl fl_X7_66 dX7_step_227 rfl ?_
        rw [v2]
        refine z_isubN 231 rfl rfl (show r ≤ E by omega) dX7_step_230 rfl ?_
        refine z_iconst 232 dX7_step_231 vi2 rfl ?_
        refine z_icmp_le_t 269 dX7_step_232 rfl (nI_le (b := 2) c5 (by decide)) ?_
        refine z_vret hq rfl dX7_step_269 rfl rfl ?_
        rw [← hR]
        exact ⟨_, ⟨rfl, ⟨by rw [pk_un (by omega)]; exact q3, by rw [pk_us]; rfl, v2 _, v1 _, fun _ => by rw [pk_un (by omega)]; exact q5⟩, fun a ha => (pk_un (by omega)).trans (q1 a ha)⟩, rfl⟩
      · rw [if_neg (by omega)] at hR
        have cf := c_fails0 (l := zXl X) (G := G) (τ := upd τ1 (400 * 158 + 16) 2) (c := 1) ((pk_un (by omega)).trans q3)
        rw [v2] at cf
        refine z_aload_n 218 dX7_step_217 rfl rfl ?_
        refine z_iconst 219 dX7_step_218 vi2 rfl ?_
        refine y_putI 222 _ sh158 rfl fp_X7_72 dX7_step_219 rfl ?_
        refine z_aload_n 223 dX7_step_222 rfl rfl ?_
        refine y_get 226 _ sh158 rfl fl_X7_75 dX7_step_223 rfl ?_
        rw [v1]
        refine z_aload_n 227 dX7_step_226 rfl rfl ?_
        refine y_get 230 _ sh158 rfl fl_X7_66 dX7_step_227 rfl ?_
        rw [v2]
        refine z_isubN 231 rfl rfl (show r ≤ E by omega) dX7_step_230 rfl ?_
        refine z_iconst 232 dX7_step_231 vi2 rfl ?_
        refine z_icmp_le_f 235 269 dX7_step_232 rfl (nI_ge (a := 2) (by omega) (by omega)) rfl ?_
        refine z_aload_n 236 dX7_step_235 rfl rfl ?_
        refine z_iconst 237 dX7_step_236 vi1 rfl ?_
        refine y_cVv 240 _ (cf) sh158 cv_X7_93 ⟨by decide, by decide, rfl, rfl⟩ (Nat.le_of_ble_eq_true rfl) dX7_step_237 rfl rfl ?_
        refine z_goto 269 dX7_step_240 rfl ?_
        refine z_vret hq rfl dX7_step_269 rfl rfl ?_
        rw [← hR]
        exact ⟨_, ⟨rfl, ⟨by rw [pk_un (by omega), pk_us]; rfl, by rw [pk_us]⟩, fun a ha => by rw [pk_un (by omega), pk_un (by omega), pk_un (by omega)]; exact q1 a ha⟩, rfl⟩
    have key : ∀ d x, tn - x ≤ d → r ≤ x → x ≤ E → rnA tn B 48 57 x = E → ∀ τ1, offS τ1 τ → τ1 (400 * 158 + 14) = nI x → τ1 (400 * 158 + 12) = 0 → τ1 (400 * 158 + 15) = nI r → τ1 (400 * 158 + 17) = nI (vlN B r (min (x - r) 2)) → Y G X mX7_step τ1 140 [some (.ref (zGa G 158)), some (.int (byV tn B r))] [] := by
      intro d
      induction d with
      | zero =>
        intro x hd hrx hx e τ1 q1 q2 q3 q4 q5
        have hT1 := hT.off q1 h6
        rw [rnA_f (by omega)] at e
        rw [e] at q5 q2
        refine z_aload_n 141 dX7_step_140 rfl rfl ?_
        refine z_aload_n 142 dX7_step_141 rfl rfl ?_
        refine y_get 145 _ sh158 rfl fl_X7_75 dX7_step_142 rfl ?_
        rw [q2]
        refine y_cVs 148 _ (c_byteAt hT1 ok (by omega)) sh158 cv_X7_78 ⟨by decide, by decide, rfl, rfl⟩ (Nat.le_of_ble_eq_true rfl) dX7_step_145 rfl rfl ?_
        refine z_i2l 149 dX7_step_148 rfl ?_
        refine z_ldc2 152 kc_X7_89 dX7_step_149 rfl ?_
        refine z_ldc2 155 kc_X7_91 dX7_step_152 rfl ?_
        refine y_cSs 158 (c_in) cs_X7_55 ⟨by decide, by decide, rfl, rfl⟩ (Nat.le_of_ble_eq_true rfl) dX7_step_155 rfl rfl ?_
        rw [bD]
        refine z_if_eq_t 217 dX7_step_158 rfl (bi_f (by omega)) ?_
        exact tail τ1 q1 q2 q3 q4 q5
      | succ d ih =>
        intro x hd hrx hx e τ1 q1 q2 q3 q4 q5
        have hT1 := hT.off q1 h6
        by_cases h1 : x < tn ∧ 48 ≤ B x ∧ B x ≤ 57
        · have e' := e
          rw [rnA_t h1] at e
          have hx1 : x + 1 ≤ E := by
            have := rnA_le (tn := tn) (B := B) (lo := 48) (hi := 57) (a := x + 1) (by omega)
            omega
          have evx : byV tn B x = nI (B x) := by rw [byV, if_pos h1.1]
          by_cases c6 : x - r < 2
          · have vb := vlb (x - r) (by omega) (by omega)
            have ev2 : vlN B r (min (x + 1 - r) 2) = 10 * vlN B r (min (x - r) 2) + B x - 48 := by
              rw [show min (x + 1 - r) 2 = (x - r) + 1 by omega, show min (x - r) 2 = x - r by omega, vlN, show r + (x - r) = x by omega]
            rw [show min (x - r) 2 = x - r by omega] at q5 ev2
            have ih' := fun τ3 z1 z2 z3 z4 z5 => ih (x + 1) (by omega) (by omega) hx1 e τ3 z1 z2 z3 z4 z5
            rw [ev2] at ih'
            refine z_aload_n 141 dX7_step_140 rfl rfl ?_
            refine z_aload_n 142 dX7_step_141 rfl rfl ?_
            refine y_get 145 _ sh158 rfl fl_X7_75 dX7_step_142 rfl ?_
            rw [q2]
            refine y_cVs 148 _ (c_byteAt hT1 ok (by omega)) sh158 cv_X7_78 ⟨by decide, by decide, rfl, rfl⟩ (Nat.le_of_ble_eq_true rfl) dX7_step_145 rfl rfl ?_
            refine z_i2l 149 dX7_step_148 rfl ?_
            refine z_ldc2 152 kc_X7_89 dX7_step_149 rfl ?_
            refine z_ldc2 155 kc_X7_91 dX7_step_152 rfl ?_
            refine y_cSs 158 (c_in) cs_X7_55 ⟨by decide, by decide, rfl, rfl⟩ (Nat.le_of_ble_eq_true rfl) dX7_step_155 rfl rfl ?_
            rw [bD]
            refine z_if_eq_f 161 217 dX7_step_158 rfl (by rw [bi_t h1]; decide) rfl ?_
            refine z_aload_n 162 dX7_step_161 rfl rfl ?_
            refine z_aload_n 163 dX7_step_162 rfl rfl ?_
            refine y_get 166 _ sh158 rfl fl_X7_75 dX7_step_163 rfl ?_
            rw [q2]
            refine z_aload_n 167 dX7_step_166 rfl rfl ?_
            refine y_get 170 _ sh158 rfl fl_X7_66 dX7_step_167 rfl ?_
            rw [q4]
            refine z_isubN 171 rfl rfl (show r ≤ x by omega) dX7_step_170 rfl ?_
            refine z_iconst 172 dX7_step_171 vi2 rfl ?_
            refine z_icmp_ge_f 175 197 dX7_step_172 rfl (nI_ge (b := 2) c6 (by decide)) rfl ?_
            refine z_bipush 177 dX7_step_175 vb10 rfl ?_
            refine z_aload_n 178 dX7_step_177 rfl rfl ?_
            refine y_get 181 _ sh158 rfl fl_X7_82 dX7_step_178 rfl ?_
            rw [q5]
            refine z_imulN 182 (show (10 : Int32) = nI 10 from rfl) rfl dX7_step_181 rfl ?_
            refine z_aload_n 183 dX7_step_182 rfl rfl ?_
            refine z_aload_n 184 dX7_step_183 rfl rfl ?_
            refine y_get 187 _ sh158 rfl fl_X7_75 dX7_step_184 rfl ?_
            rw [q2]
            refine y_cVs 190 _ (c_byteAt hT1 ok (by omega)) sh158 cv_X7_78 ⟨by decide, by decide, rfl, rfl⟩ (Nat.le_of_ble_eq_true rfl) dX7_step_187 rfl rfl ?_
            rw [evx]
            refine z_iaddN 191 rfl rfl dX7_step_190 rfl ?_
            refine z_bipush 193 dX7_step_191 vb48 rfl ?_
            refine z_isubN 194 rfl (show (48 : Int32) = nI 48 from rfl) (show 48 ≤ 10 * vlN B r (x - r) + B x by omega) dX7_step_193 rfl ?_
            refine z_goto 201 dX7_step_194 rfl ?_
            refine y_putI 204 _ sh158 rfl fp_X7_82 dX7_step_201 rfl ?_
            refine z_aload_n 205 dX7_step_204 rfl rfl ?_
            refine z_dup 206 dX7_step_205 rfl rfl ?_
            refine y_get 209 _ sh158 rfl fl_X7_75 dX7_step_206 rfl ?_
            rw [pk_un (by omega), q2]
            refine z_iconst 210 dX7_step_209 vi1 rfl ?_
            refine z_iaddN 211 rfl (show (1 : Int32) = nI 1 from rfl) dX7_step_210 rfl ?_
            refine y_putI 214 _ sh158 rfl fp_X7_75 dX7_step_211 rfl ?_
            refine z_goto 140 dX7_step_214 rfl ?_
            exact ih' _ (fun a ha => by rw [pk_un (by omega), pk_un (by omega)]; exact q1 a ha) pk_us (by rw [pk_un (by omega), pk_un (by omega)]; exact q3) (by rw [pk_un (by omega), pk_un (by omega)]; exact q4) (by rw [pk_un (by omega), pk_us])
          · have ev2 : min (x + 1 - r) 2 = min (x - r) 2 := by omega
            have ih' := fun τ3 z1 z2 z3 z4 z5 => ih (x + 1) (by omega) (by omega) hx1 e τ3 z1 z2 z3 z4 z5
            rw [ev2] at ih'
            refine z_aload_n 141 dX7_step_140 rfl rfl ?_
            refine z_aload_n 142 dX7_step_141 rfl rfl ?_
            refine y_get 145 _ sh158 rfl fl_X7_75 dX7_step_142 rfl ?_
            rw [q2]
            refine y_cVs 148 _ (c_byteAt hT1 ok (by omega)) sh158 cv_X7_78 ⟨by decide, by decide, rfl, rfl⟩ (Nat.le_of_ble_eq_true rfl) dX7_step_145 rfl rfl ?_
            refine z_i2l 149 dX7_step_148 rfl ?_
            refine z_ldc2 152 kc_X7_89 dX7_step_149 rfl ?_
            refine z_ldc2 155 kc_X7_91 dX7_step_152 rfl ?_
            refine y_cSs 158 (c_in) cs_X7_55 ⟨by decide, by decide, rfl, rfl⟩ (Nat.le_of_ble_eq_true rfl) dX7_step_155 rfl rfl ?_
            rw [bD]
            refine z_if_eq_f 161 217 dX7_step_158 rfl (by rw [bi_t h1]; decide) rfl ?_
            refine z_aload_n 162 dX7_step_161 rfl rfl ?_
            refine z_aload_n 163 dX7_step_162 rfl rfl ?_
            refine y_get 166 _ sh158 rfl fl_X7_75 dX7_step_163 rfl ?_
            rw [q2]
            refine z_aload_n 167 dX7_step_166 rfl rfl ?_
            refine y_get 170 _ sh158 rfl fl_X7_66 dX7_step_167 rfl ?_
            rw [q4]
            refine z_isubN 171 rfl rfl (show r ≤ x by omega) dX7_step_170 rfl ?_
            refine z_iconst 172 dX7_step_171 vi2 rfl ?_
            refine z_icmp_ge_t 197 dX7_step_172 rfl (nI_le (a := 2) (by omega) (by omega)) ?_
            refine z_aload_n 198 dX7_step_197 rfl rfl ?_
            refine y_get 201 _ sh158 rfl fl_X7_82 dX7_step_198 rfl ?_
            rw [q5]
            refine y_putI 204 _ sh158 rfl fp_X7_82 dX7_step_201 rfl ?_
            refine z_aload_n 205 dX7_step_204 rfl rfl ?_
            refine z_dup 206 dX7_step_205 rfl rfl ?_
            refine y_get 209 _ sh158 rfl fl_X7_75 dX7_step_206 rfl ?_
            rw [pk_un (by omega), q2]
            refine z_iconst 210 dX7_step_209 vi1 rfl ?_
            refine z_iaddN 211 rfl (show (1 : Int32) = nI 1 from rfl) dX7_step_210 rfl ?_
            refine y_putI 214 _ sh158 rfl fp_X7_75 dX7_step_211 rfl ?_
            refine z_goto 140 dX7_step_214 rfl ?_
            exact ih' _ (fun a ha => by rw [pk_un (by omega), pk_un (by omega)]; exact q1 a ha) pk_us (by rw [pk_un (by omega), pk_un (by omega)]; exact q3) (by rw [pk_un (by omega), pk_un (by omega)]; exact q4) (by rw [pk_un (by omega), pk_us])
        · rw [rnA_f h1] at e
          rw [e] at q5 q2
          have h1' : ¬ (E < tn ∧ 48 ≤ B E ∧ B E ≤ 57) := by rw [← e]; exact h1
          refine z_aload_n 141 dX7_step_140 rfl rfl ?_
          refine z_aload_n 142 dX7_step_141 rfl rfl ?_
          refine y_get 145 _ sh158 rfl fl_X7_75 dX7_step_142 rfl ?_
          rw [q2]
          refine y_cVs 148 _ (c_byteAt hT1 ok (by omega)) sh158 cv_X7_78 ⟨by decide, by decide, rfl, rfl⟩ (Nat.le_of_ble_eq_true rfl) dX7_step_145 rfl rfl ?_
          refine z_i2l 149 dX7_step_148 rfl ?_
          refine z_ldc2 152 kc_X7_89 dX7_step_149 rfl ?_
          refine z_ldc2 155 kc_X7_91 dX7_step_152 rfl ?_
          refine y_cSs 158 (c_in) cs_X7_55 ⟨by decide, by decide, rfl, rfl⟩ (Nat.le_of_ble_eq_true rfl) dX7_step_155 rfl rfl ?_
          rw [bD]
          refine z_if_eq_t 217 dX7_step_158 rfl (bi_f h1') ?_
          exact tail τ1 q1 q2 q3 q4 q5
    have k0 := key (tn - r) r (Nat.le_refl _) (Nat.le_refl _) (by omega) hE τ2 o4 p4 p2 p5 (by rw [show min (r - r) 2 = 0 by omega]; exact p7)
    refine z_iload_n 57 dX7_step_56 rfl rfl ?_
    refine z_bipush 59 dX7_step_57 vbm4 rfl ?_
    refine z_icmp_ne_t 70 dX7_step_59 rfl (ne4) ?_
    refine z_iload_n 71 dX7_step_70 rfl rfl ?_
    refine z_i2l 72 dX7_step_71 rfl ?_
    refine z_ldc2 75 kc_X7_85 dX7_step_72 rfl ?_
    refine z_ldc2 78 kc_X7_87 dX7_step_75 rfl ?_
    refine y_cSs 81 (c_in) cs_X7_55 ⟨by decide, by decide, rfl, rfl⟩ (Nat.le_of_ble_eq_true rfl) dX7_step_78 rfl rfl ?_
    rw [bA]
    refine z_if_eq_t 126 dX7_step_81 rfl (bi_f (by omega)) ?_
    refine z_iload_n 127 dX7_step_126 rfl rfl ?_
    refine z_i2l 128 dX7_step_127 rfl ?_
    refine z_ldc2 131 kc_X7_89 dX7_step_128 rfl ?_
    refine z_ldc2 134 kc_X7_91 dX7_step_131 rfl ?_
    refine y_cSs 137 (c_in) cs_X7_55 ⟨by decide, by decide, rfl, rfl⟩ (Nat.le_of_ble_eq_true rfl) dX7_step_134 rfl rfl ?_
    rw [bD]
    refine z_if_eq_f 140 243 dX7_step_137 rfl (by rw [bi_t ⟨by omega, c4.1, c4.2⟩]; decide) rfl ?_
    exact k0
  · have v1 : ∀ x, upd τ2 (400 * 158 + 16) x (400 * 158 + 14) = nI r := fun x => (pk_un (by omega)).trans p4
    by_cases c2 : B r = 59
    · rw [if_pos c2] at hR
      refine z_iload_n 57 dX7_step_56 rfl rfl ?_
      refine z_bipush 59 dX7_step_57 vbm4 rfl ?_
      refine z_icmp_ne_t 70 dX7_step_59 rfl (ne4) ?_
      refine z_iload_n 71 dX7_step_70 rfl rfl ?_
      refine z_i2l 72 dX7_step_71 rfl ?_
      refine z_ldc2 75 kc_X7_85 dX7_step_72 rfl ?_
      refine z_ldc2 78 kc_X7_87 dX7_step_75 rfl ?_
      refine y_cSs 81 (c_in) cs_X7_55 ⟨by decide, by decide, rfl, rfl⟩ (Nat.le_of_ble_eq_true rfl) dX7_step_78 rfl rfl ?_
      rw [bA]
      refine z_if_eq_t 126 dX7_step_81 rfl (bi_f (by omega)) ?_
      refine z_iload_n 127 dX7_step_126 rfl rfl ?_
      refine z_i2l 128 dX7_step_127 rfl ?_
      refine z_ldc2 131 kc_X7_89 dX7_step_128 rfl ?_
      refine z_ldc2 134 kc_X7_91 dX7_step_131 rfl ?_
      refine y_cSs 137 (c_in) cs_X7_55 ⟨by decide, by decide, rfl, rfl⟩ (Nat.le_of_ble_eq_true rfl) dX7_step_134 rfl rfl ?_
      rw [bD]
      refine z_if_eq_t 243 dX7_step_137 rfl (bi_f (by omega)) ?_
      refine z_aload_n 244 dX7_step_243 rfl rfl ?_
      refine z_iconst 245 dX7_step_244 vi3 rfl ?_
      refine y_putI 248 _ sh158 rfl fp_X7_72 dX7_step_245 rfl ?_
      refine z_aload_n 249 dX7_step_248 rfl rfl ?_
      refine z_dup 250 dX7_step_249 rfl rfl ?_
      refine y_get 253 _ sh158 rfl fl_X7_75 dX7_step_250 rfl ?_
      rw [v1]
      refine z_iconst 254 dX7_step_253 vi1 rfl ?_
      refine z_iaddN 255 rfl (show (1 : Int32) = nI 1 from rfl) dX7_step_254 rfl ?_
      refine y_putI 258 _ sh158 rfl fp_X7_75 dX7_step_255 rfl ?_
      refine z_iload_n 259 dX7_step_258 rfl rfl ?_
      refine z_bipush 261 dX7_step_259 vb59 rfl ?_
      refine z_icmp_eq_t 269 dX7_step_261 rfl (by rw [ev, c2]; rfl) ?_
      refine z_vret hq rfl dX7_step_269 rfl rfl ?_
      rw [← hR]
      exact ⟨_, ⟨rfl, ⟨by rw [pk_un (by omega), pk_un (by omega)]; exact p2, by rw [pk_un (by omega), pk_us]; rfl, by rw [pk_un (by omega), pk_un (by omega)]; exact p5, by rw [pk_us], fun z => by cases z⟩, fun a ha => by rw [pk_un (by omega), pk_un (by omega)]; exact o4 a ha⟩, rfl⟩
    · rw [if_neg c2, if_neg c3, rnA_f (by omega), if_neg (by omega)] at hR
      have cf := c_fails0 (l := zXl X) (G := G) (τ := upd (upd τ2 (400 * 158 + 16) 3) (400 * 158 + 14) (nI (r + 1))) (c := 1) (by rw [pk_un (by omega), pk_un (by omega)]; exact p2)
      rw [show upd (upd τ2 (400 * 158 + 16) 3) (400 * 158 + 14) (nI (r + 1)) (400 * 158 + 15) = nI r by rw [pk_un (by omega), pk_un (by omega)]; exact p5] at cf
      refine z_iload_n 57 dX7_step_56 rfl rfl ?_
      refine z_bipush 59 dX7_step_57 vbm4 rfl ?_
      refine z_icmp_ne_t 70 dX7_step_59 rfl (ne4) ?_
      refine z_iload_n 71 dX7_step_70 rfl rfl ?_
      refine z_i2l 72 dX7_step_71 rfl ?_
      refine z_ldc2 75 kc_X7_85 dX7_step_72 rfl ?_
      refine z_ldc2 78 kc_X7_87 dX7_step_75 rfl ?_
      refine y_cSs 81 (c_in) cs_X7_55 ⟨by decide, by decide, rfl, rfl⟩ (Nat.le_of_ble_eq_true rfl) dX7_step_78 rfl rfl ?_
      rw [bA]
      refine z_if_eq_t 126 dX7_step_81 rfl (bi_f (by omega)) ?_
      refine z_iload_n 127 dX7_step_126 rfl rfl ?_
      refine z_i2l 128 dX7_step_127 rfl ?_
      refine z_ldc2 131 kc_X7_89 dX7_step_128 rfl ?_
      refine z_ldc2 134 kc_X7_91 dX7_step_131 rfl ?_
      refine y_cSs 137 (c_in) cs_X7_55 ⟨by decide, by decide, rfl, rfl⟩ (Nat.le_of_ble_eq_true rfl) dX7_step_134 rfl rfl ?_
      rw [bD]
      refine z_if_eq_t 243 dX7_step_137 rfl (bi_f (by omega)) ?_
      refine z_aload_n 244 dX7_step_243 rfl rfl ?_
      refine z_iconst 245 dX7_step_244 vi3 rfl ?_
      refine y_putI 248 _ sh158 rfl fp_X7_72 dX7_step_245 rfl ?_
      refine z_aload_n 249 dX7_step_248 rfl rfl ?_
      refine z_dup 250 dX7_step_249 rfl rfl ?_
      refine y_get 253 _ sh158 rfl fl_X7_75 dX7_step_250 rfl ?_
      rw [v1]
      refine z_iconst 254 dX7_step_253 vi1 rfl ?_
      refine z_iaddN 255 rfl (show (1 : Int32) = nI 1 from rfl) dX7_step_254 rfl ?_
      refine y_putI 258 _ sh158 rfl fp_X7_75 dX7_step_255 rfl ?_
      refine z_iload_n 259 dX7_step_258 rfl rfl ?_
      refine z_bipush 261 dX7_step_259 vb59 rfl ?_
      refine z_icmp_eq_f 264 269 dX7_step_261 rfl (by rw [ev]; exact fun q => c2 (nI_eqL (b := 59) (by omega) (by decide) q)) rfl ?_
      refine z_aload_n 265 dX7_step_264 rfl rfl ?_
      refine z_iconst 266 dX7_step_265 vi1 rfl ?_
      refine y_cVv 269 _ (cf) sh158 cv_X7_93 ⟨by decide, by decide, rfl, rfl⟩ (Nat.le_of_ble_eq_true rfl) dX7_step_266 rfl rfl ?_
      refine z_vret hq rfl dX7_step_269 rfl rfl ?_
      rw [← hR]
      exact ⟨_, ⟨rfl, ⟨by rw [pk_un (by omega), pk_us]; rfl, by rw [pk_us]⟩, fun a ha => by rw [pk_un (by omega), pk_un (by omega), pk_un (by omega), pk_un (by omega)]; exact o4 a ha⟩, rfl⟩

