/-! ===== read ===== -/
theorem okQ_lendQ {Q : Pg} {p c n : Int32} (ok : okQ Q) : okQ (lendQ Q p c n) := by
  simp only [lendQ]
  split
  · rename_i h
    obtain ⟨⟨h1, h2, h3⟩, h4⟩ := h
    have a1 := ok.np
    have a2 := ok.nc
    obtain ⟨p', hp, rfl⟩ := inR_of h1 (by omega)
    obtain ⟨c', hc, rfl⟩ := inR_of h2 (by omega)
    have ep : nN (nI p') = p' := nN_nI (by omega)
    have ec : nN (nI c') = c' := nN_nI (by omega)
    simp only [lendNo] at h4
    rw [ep, ec] at h4
    rw [ep, ec]
    have c5 : c' < 5 := by omega
    have p4 : p' < 4 := by omega
    exact okQ_un (okQ_un ok (fun _ => by rw [bnd_v c5]; have := ok.vt c5; omega)) (fun _ => by rw [bnd_h' p4 c5]; omega)
  · exact ok
abbrev rdIn (a : Int) (s i : Nat) : Prop := 0 ≤ a + 3 * i ∧ a + 3 * i + 2 < s
def rdX (c : Nat → Int32) (a : Int) (i d : Nat) : Int32 := c ((a + 3 * i).toNat + d)
abbrev rdV (c : Nat → Int32) (a : Int) (i : Nat) (Q : Pg) : Int32 := lendV Q (rdX c a i 0) (rdX c a i 1) (rdX c a i 2)
abbrev rdQ (c : Nat → Int32) (a : Int) (i : Nat) (Q : Pg) : Pg := lendQ Q (rdX c a i 0) (rdX c a i 1) (rdX c a i 2)
def rdGo (c : Nat → Int32) (s : Nat) (a : Int) : Nat → Nat → Pg → Option Nat × Nat × Pg
  | 0, i, Q => (some 0, i, Q)
  | m + 1, i, Q => if rdIn a s i then (if 0 ≤ rdV c a i Q then rdGo c s a m (i + 1) (rdQ c a i Q) else (none, i, Q)) else (some 2, i, Q)
def rdAll (c : Nat → Int32) (T : Option (Nat × Nat)) (w : Nat) (a : Int) (n : Nat) (Q : Pg) : Option Nat × Nat × Pg :=
  if n = 0 then (some 0, 0, Q) else match T with
  | none => (some 1, 0, Q)
  | some (L, s) => if L = w then rdGo c s a n 0 Q else (some 3, 0, Q)
theorem rdGo_c {c : Nat → Int32} {s : Nat} {a : Int} : ∀ {m i : Nat} {Q N : Pg}, eqc Q N → okQ N → (rdGo c s a m i Q).1 = (rdGo c s a m i N).1 ∧ (rdGo c s a m i Q).2.1 = (rdGo c s a m i N).2.1 ∧ eqc (rdGo c s a m i Q).2.2 (rdGo c s a m i N).2.2
  | 0, i, Q, N, e, ok => ⟨rfl, rfl, e⟩
  | m + 1, i, Q, N, e, ok => by
    simp only [rdGo]
    by_cases h1 : rdIn a s i
    · rw [if_pos h1, if_pos h1]
      simp only [rdV, lendV_c e ok]
      by_cases h2 : 0 ≤ lendV N (rdX c a i 0) (rdX c a i 1) (rdX c a i 2)
      · rw [if_pos h2, if_pos h2]
        exact rdGo_c (lendQ_c e ok) (okQ_lendQ ok)
      · rw [if_neg h2, if_neg h2]; exact ⟨rfl, rfl, e⟩
    · rw [if_neg h1, if_neg h1]; exact ⟨rfl, rfl, e⟩
theorem rdAll_c {c : Nat → Int32} {T : Option (Nat × Nat)} {w : Nat} {a : Int} {n : Nat} {Q N : Pg} (e : eqc Q N) (ok : okQ N) : (rdAll c T w a n Q).1 = (rdAll c T w a n N).1 ∧ (rdAll c T w a n Q).2.1 = (rdAll c T w a n N).2.1 ∧ eqc (rdAll c T w a n Q).2.2 (rdAll c T w a n N).2.2 := by
  simp only [rdAll]
  by_cases h : n = 0
  · rw [if_pos h, if_pos h]; exact ⟨rfl, rfl, e⟩
  · rw [if_neg h, if_neg h]
    match T with
    | none => exact ⟨rfl, rfl, e⟩
    | some (L, s) =>
      by_cases hL : L = w
      · simp only [if_pos hL]; exact rdGo_c e ok
      · simp only [if_neg hL]; exact ⟨trivial, trivial, e⟩
def flt (t : Option (Nat × Nat)) (w : Nat) : Nat := match t with | none => 1 | some (L, _) => if L = w then 0 else 3
abbrev okRead (k w n : Int32) : Prop := inR k 4 ∧ inR w 3 ∧ inR n 14
abbrev rdR (C : Nat → Nat → Int32) (T : Sht) (N : Pg) (k w a n : Int32) : Option Nat × Nat × Pg := rdAll (C (nN k)) (T (nN k)) (nN w) a.toInt (nN n) N
def vRead (C : Nat → Nat → Int32) (T : Sht) (N : Pg) (k w a n : Int32) : Int32 := if okRead k w n then (match rdR C T N k w a n with | (none, i, _) => -20 - nI i | (some _, i, _) => nI i) else -1
def qRead (C : Nat → Nat → Int32) (T : Sht) (N : Pg) (k w a n : Int32) : Pg := if okRead k w n then (match rdR C T N k w a n with | (none, _, _) => N | (some _, _, Q) => Q) else N
def tRead (C : Nat → Nat → Int32) (T : Sht) (N : Pg) (k w a n : Int32) (old : Int32) : Int32 := if okRead k w n then (match rdR C T N k w a n with | (none, _, _) => old | (some f, _, _) => nI f) else old
set_option maxRecDepth 100000 in
theorem c_faultAs {l : Launch} {G : zG} {σ : Nat → Int32} {T : Sht} {j w : Nat} (hj : j < 4) (hT : hTC σ T) (hw : w < 3) : zMet l yX3_faultAs mX3_faultAs [.ref (zGa G (150 + 2 * j)), .int (nI w)] G (zW G σ) (zFn G (some (.int (nI (flt (T j) w)))) σ) := by
  have ht := hT j hj
  refine zMet.of (by decide) rfl (Nat.le_of_ble_eq_true rfl) (Or.inr rfl) fun X hX hq => ?_
  subst hX
  show Y G X mX3_faultAs σ 0 [some (.ref (zGa G (150 + 2 * j))), some (.int (nI w))] []
  cases hs : T j with
  | none =>
    rw [hs] at ht
    refine z_aload_n 1 dX3_faultAs_0 rfl rfl ?_
    refine y_get 4 _ (sho hj) rfl fl_X3_9 dX3_faultAs_1 rfl ?_
    refine z_if_ge_f 7 9 dX3_faultAs_4 rfl (Int32.not_le.mpr ht) rfl ?_
    refine z_iconst 8 dX3_faultAs_7 vi1 rfl ?_
    refine z_iret hq rfl dX3_faultAs_8 rfl rfl ?_
    exact ⟨by rw [hs]; rfl, rfl⟩
  | some q =>
    obtain ⟨L, s⟩ := q
    rw [hs] at ht
    obtain ⟨hL, hz, h3, h40⟩ := ht
    refine z_aload_n 1 dX3_faultAs_0 rfl rfl ?_
    refine y_get 4 _ (sho hj) rfl fl_X3_9 dX3_faultAs_1 rfl ?_
    rw [hz]
    refine z_if_ge_t 9 dX3_faultAs_4 rfl (nI_le (a := 0) (by omega) (by omega)) ?_
    refine z_aload_n 10 dX3_faultAs_9 rfl rfl ?_
    refine y_get 13 _ (sho hj) rfl fl_X3_19 dX3_faultAs_10 rfl ?_
    rw [hL]
    refine z_iload_n 14 dX3_faultAs_13 rfl rfl ?_
    refine z_icmp_ne 21 17 dX3_faultAs_14 rfl rfl (fun h14 => ?_) (fun h14 => ?_)
    · skip
      have ne : L ≠ w := fun e => h14 (by rw [e])
      refine z_iconst 22 dX3_faultAs_21 vi3 rfl ?_
      refine z_iret hq rfl dX3_faultAs_22 rfl rfl ?_
      exact ⟨by rw [hs]; simp only [flt]; rw [if_neg ne]; rfl, rfl⟩
    · skip
      have e : L = w := nI_eqL (by omega) (by omega) h14
      refine z_iconst 18 dX3_faultAs_17 vi0 rfl ?_
      refine z_goto 22 dX3_faultAs_18 rfl ?_
      refine z_iret hq rfl dX3_faultAs_22 rfl rfl ?_
      exact ⟨by rw [hs]; simp only [flt]; rw [if_pos e]; rfl, rfl⟩
set_option maxRecDepth 100000 in
theorem c_lendOnTrial {l : Launch} {G : zG} {σ : Nat → Int32} {Q : Pg} {j t : Nat} (hj : j < 4) (ht : t + 2 < 40) (hQ : hds σ 8 Q) (ok : okQ Q) : zMet l yX6_lendOnTrial mX6_lendOnTrial [.ref (zGa G 0), .ref (zGa G (150 + 2 * j + 1)), .int (nI t)] G (zW G σ) (zFn G (some (.int (bi (0 ≤ lendV Q (σ (400 * (150 + 2 * j + 1) + 0 + t)) (σ (400 * (150 + 2 * j + 1) + 0 + (t + 1))) (σ (400 * (150 + 2 * j + 1) + 0 + (t + 2))))))) (sp σ 8 (lendQ Q (σ (400 * (150 + 2 * j + 1) + 0 + t)) (σ (400 * (150 + 2 * j + 1) + 0 + (t + 1))) (σ (400 * (150 + 2 * j + 1) + 0 + (t + 2)))))) := by
  refine zMet.of (by decide) rfl (Nat.le_of_ble_eq_true rfl) (Or.inr rfl) fun X hX hq => ?_
  subst hX
  show Y G X mX6_lendOnTrial σ 0 [some (.ref (zGa G 0)), some (.ref (zGa G (150 + 2 * j + 1))), some (.int (nI t))] []
  refine z_iload_n 1 dX6_lendOnTrial_0 rfl rfl ?_
  refine z_if_lt_f 4 12 dX6_lendOnTrial_1 rfl (nI_nlt (b := 0) (by omega) (by omega)) rfl ?_
  refine z_iload_n 5 dX6_lendOnTrial_4 rfl rfl ?_
  refine z_aload_n 6 dX6_lendOnTrial_5 rfl rfl ?_
  refine y_len 7 _ (shc hj) rfl dX6_lendOnTrial_6 rfl ?_
  refine z_iconst 8 dX6_lendOnTrial_7 vi3 rfl ?_
  refine z_isub 9 dX6_lendOnTrial_8 rfl ?_
  refine z_icmp_le_t 14 dX6_lendOnTrial_9 rfl (nI_le (b := 37) (by omega) (by decide)) ?_
  refine z_aload_n 15 dX6_lendOnTrial_14 rfl rfl ?_
  refine y_getr 18 _ sh0 rfl fl_X6_16 dX6_lendOnTrial_15 rfl ?_
  refine z_aload_n 19 dX6_lendOnTrial_18 rfl rfl ?_
  refine z_iload_n 20 dX6_lendOnTrial_19 rfl rfl ?_
  refine y_ld 21 _ t (shc hj) rfl (by omega) (by omega) dX6_lendOnTrial_20 rfl ?_
  refine z_aload_n 22 dX6_lendOnTrial_21 rfl rfl ?_
  refine z_iload_n 23 dX6_lendOnTrial_22 rfl rfl ?_
  refine z_iconst 24 dX6_lendOnTrial_23 vi1 rfl ?_
  refine z_iaddN 25 rfl (show (1 : Int32) = nI 1 from rfl) dX6_lendOnTrial_24 rfl ?_
  refine y_ld 26 _ (t + 1) (shc hj) rfl (by omega) (by omega) dX6_lendOnTrial_25 rfl ?_
  refine z_aload_n 27 dX6_lendOnTrial_26 rfl rfl ?_
  refine z_iload_n 28 dX6_lendOnTrial_27 rfl rfl ?_
  refine z_iconst 29 dX6_lendOnTrial_28 vi2 rfl ?_
  refine z_iaddN 30 rfl (show (2 : Int32) = nI 2 from rfl) dX6_lendOnTrial_29 rfl ?_
  refine y_ld 31 _ (t + 2) (shc hj) rfl (by omega) (by omega) dX6_lendOnTrial_30 rfl ?_
  refine y_cVs 34 _ (c_giveLoan bkm8 hQ ok) (bk0 bkm8) cv_X6_179 ⟨by decide, by decide, rfl, rfl⟩ (Nat.le_of_ble_eq_true rfl) dX6_lendOnTrial_31 rfl rfl ?_
  refine z_if_lt 41 37 dX6_lendOnTrial_34 rfl rfl (fun h34 => ?_) (fun h34 => ?_)
  · skip
    refine z_iconst 42 dX6_lendOnTrial_41 vi0 rfl ?_
    refine z_zret hq rfl rfl dX6_lendOnTrial_42 rfl rfl ?_
    exact ⟨by rw [bi_f (Int32.not_le.mpr h34)], rfl⟩
  · skip
    refine z_iconst 38 dX6_lendOnTrial_37 vi1 rfl ?_
    refine z_goto 42 dX6_lendOnTrial_38 rfl ?_
    refine z_zret hq rfl rfl dX6_lendOnTrial_42 rfl rfl ?_
    exact ⟨by rw [bi_t (Int32.not_lt.mp h34)], rfl⟩

