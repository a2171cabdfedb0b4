/-! ===== what is SEEN ===== -/
section ZX
variable {G : zG} {X : zX} {μ : zM} {a b : Nat} {ws : va_W} {pc : Nat} {L : List (Option Value)} {S : List Value}
theorem z_ldcw (n : Nat) {idx : Nat} {v : Int32} (hc : Cond.constant (zMo μ) idx v ∈ zws) (hd : decode (zMc μ) pc = .ok (.ldc_w idx, 3)) (hn : pc + 3 = n) (k : Z G X μ a b ws n L (.int v :: S)) : Z G X μ a b ws pc L S := by
  subst hn
  intro ok H locs ls hP hD hS hl
  exact lv_ldcw ok.1 ok.2.1 ok.2.2.2.2.1 (ok.2.2.2.2.2.2.1 _ hc) hd (k ok H locs ls hP hD hS hl)
end ZX
/-- sn looks; look e: on day s (3 e), at one s (3 e + 1), of hue s (3 e + 2) -/
def okS (sn : Nat) (s : Nat → Nat) : Prop := sn ≤ 6 ∧ ∀ e, e < sn → s (3 * e) ≤ 20 ∧ s (3 * e + 1) < 4 ∧ s (3 * e + 2) ≤ 999
def hSC (σ : Nat → Int32) (sn : Nat) (s : Nat → Nat) : Prop := σ (400 * 35 + 0) = nI sn ∧ ∀ e, e < sn → σ (400 * 36 + 0 + e) = nI (s (3 * e)) ∧ σ (400 * 37 + 0 + e) = nI (s (3 * e + 1)) ∧ σ (400 * 38 + 0 + e) = nI (s (3 * e + 2))
def hSR (σ : Nat → Int32) (sn : Nat) (s : Nat → Nat) : Prop := σ (400 * 158 + 26) = nI sn ∧ ∀ i, i < 3 * sn → σ (400 * 167 + 0 + i) = nI (s i)
def fitE (s : Nat → Nat) (Q : Pg) (n e : Nat) : Bool := decide (s (3 * e) ≠ n) || decide (hueQ Q (s (3 * e + 1)) = s (3 * e + 2))
def fitD (s : Nat → Nat) (Q : Pg) (n : Nat) : Nat → Bool
  | 0 => true
  | e + 1 => fitD s Q n e && fitE s Q n e
def fitA (sn : Nat) (s : Nat → Nat) (Q : Pg) : Nat → Bool
  | 0 => true
  | n + 1 => fitA sn s Q n && fitD s (daysA Q n) n sn
theorem fitD_f {s : Nat → Nat} {Q : Pg} {n e : Nat} (h : fitE s Q n e = false) : ∀ {m : Nat}, e < m → fitD s Q n m = false
  | 0, he => by omega
  | m + 1, he => by
    rw [fitD]
    by_cases q : e = m
    · subst q; rw [h, Bool.and_false]
    · rw [fitD_f h (show e < m by omega), Bool.false_and]
theorem fitA_f {sn : Nat} {s : Nat → Nat} {Q : Pg} {n : Nat} (h : fitD s (daysA Q n) n sn = false) : ∀ {m : Nat}, n < m → fitA sn s Q m = false
  | 0, he => by omega
  | m + 1, he => by
    rw [fitA]
    by_cases q : n = m
    · subst q; rw [h, Bool.and_false]
    · rw [fitA_f h (show n < m by omega), Bool.false_and]
theorem fitD_t {s : Nat → Nat} {Q : Pg} {n : Nat} : ∀ {m : Nat}, (∀ e, e < m → s (3 * e) ≠ n) → fitD s Q n m = true
  | 0, _ => rfl
  | m + 1, h => by
    rw [fitD, fitD_t (m := m) (fun e he => h e (by omega)), Bool.true_and, fitE, decide_eq_true (h m (by omega)), Bool.true_or]
def lastN (s : Nat → Nat) : Nat → Nat
  | 0 => 0
  | e + 1 => max (lastN s e) (s (3 * e) + 1)
theorem lastN_le {s : Nat → Nat} {sn : Nat} (ok : okS sn s) : ∀ m, m ≤ sn → lastN s m ≤ 21
  | 0, _ => by simp only [lastN]; omega
  | m + 1, h => by
    have h1 := lastN_le ok m (by omega)
    have h2 := (ok.2 m (by omega)).1
    simp only [lastN]; omega
theorem lastN_ge {s : Nat → Nat} : ∀ m e, e < m → s (3 * e) < lastN s m
  | 0, e, h => by omega
  | m + 1, e, h => by
    simp only [lastN]
    by_cases q : e = m
    · subst q; omega
    · have := lastN_ge (s := s) m e (by omega); omega
theorem fitA_last {sn : Nat} {s : Nat → Nat} {Q : Pg} : ∀ d, fitA sn s Q (lastN s sn + d) = fitA sn s Q (lastN s sn)
  | 0 => rfl
  | d + 1 => by
    rw [← Nat.add_assoc, fitA, fitA_last d, fitD_t (fun e he => by have := lastN_ge (s := s) sn e he; omega), Bool.and_true]
theorem last_max : ∀ a, a < 22 → ∀ b, b < 21 → (if nI a - 1 < nI b then nI b else nI a - 1) = nI (max a (b + 1)) - 1 := by decide +kernel
theorem last_gt : ∀ m, m < 22 → ∀ n, n < 22 → (nI m - 1 < nI n ↔ m ≤ n) := by decide +kernel
theorem fitE_c {s : Nat → Nat} {Q N : Pg} {n e : Nat} (h : eqc Q N) (hn : N 56 ≤ 5) (hw : s (3 * e + 1) < 4) : fitE s Q n e = fitE s N n e := by
  simp only [fitE]; rw [hueQ_c h hn hw]
theorem fitD_c {s : Nat → Nat} {Q N : Pg} {sn n : Nat} (h : eqc Q N) (hn : N 56 ≤ 5) (ok : okS sn s) : ∀ m, m ≤ sn → fitD s Q n m = fitD s N n m
  | 0, _ => rfl
  | m + 1, hm => by rw [fitD, fitD, fitD_c h hn ok m (by omega), fitE_c h hn (ok.2 m (by omega)).2.1]
theorem fitA_c {s : Nat → Nat} {Q N : Pg} {sn : Nat} (h : eqc Q N) (okn : okQ N) (ok : okS sn s) : ∀ m, fitA sn s Q m = fitA sn s N m
  | 0 => rfl
  | m + 1 => by rw [fitA, fitA, fitA_c h okn ok m, fitD_c (daysA_c h okn m) (okQ_daysA okn m).nc ok sn (Nat.le_refl _)]
set_option maxRecDepth 100000 in
theorem c_lastDay {l : Launch} {G : zG} {σ : Nat → Int32} {sn : Nat} {s : Nat → Nat} (hS : hSC σ sn s) (os : okS sn s) : zMet l yX1_lastDay mX1_lastDay [.ref (zGa G 35)] G (zW G σ) (zFn G (some (.int (nI (lastN s sn) - 1))) σ) := by
  have h6 := os.1
  refine zMet.of (by decide) rfl (Nat.le_of_ble_eq_true rfl) (Or.inr rfl) fun X hX hq => ?_
  subst hX
  show Y G X mX1_lastDay σ 0 [some (.ref (zGa G 35)), none, none] []
  refine z_iconst 1 dX1_lastDay_0 vim1 rfl ?_
  refine z_istore_n 2 [_, _, _] dX1_lastDay_1 (by decide) rfl rfl rfl ?_
  refine z_iconst 3 dX1_lastDay_2 vi0 rfl ?_
  refine z_istore_n 4 [_, _, _] dX1_lastDay_3 (by decide) rfl rfl rfl ?_
  refine zup (P := fun i => Y G X mX1_lastDay σ 4 [some (.ref (zGa G 35)), some (.int (nI (lastN s i) - 1)), some (.int (nI i))] []) sn ?_ (fun i hi ih => ?_) 0 (Nat.zero_le _)
  · skip
    refine z_iload_n 5 dX1_lastDay_4 rfl rfl ?_
    refine z_aload_n 6 dX1_lastDay_5 rfl rfl ?_
    refine y_get 9 _ sh35 rfl fl_X1_35 dX1_lastDay_6 rfl ?_
    rw [hS.1]
    refine z_icmp_ge_t 29 dX1_lastDay_9 rfl (Int32.le_refl _) ?_
    refine z_iload_n 30 dX1_lastDay_29 rfl rfl ?_
    refine z_iret hq rfl dX1_lastDay_30 rfl rfl ?_
    exact ⟨rfl, rfl⟩
  · have b := os.2 i hi
    have b2 := lastN_le os i (by omega)
    have e := last_max (lastN s i) (by omega) (s (3 * i)) (by omega)
    refine z_iload_n 5 dX1_lastDay_4 rfl rfl ?_
    refine z_aload_n 6 dX1_lastDay_5 rfl rfl ?_
    refine y_get 9 _ sh35 rfl fl_X1_35 dX1_lastDay_6 rfl ?_
    rw [hS.1]
    refine z_icmp_ge_f 12 29 dX1_lastDay_9 rfl (nI_ge hi (by omega)) rfl ?_
    refine z_iload_n 13 dX1_lastDay_12 rfl rfl ?_
    refine z_aload_n 14 dX1_lastDay_13 rfl rfl ?_
    refine y_getr 17 _ sh35 rfl fl_X1_9 dX1_lastDay_14 rfl ?_
    refine z_iload_n 18 dX1_lastDay_17 rfl rfl ?_
    refine y_ld 19 _ i sh36 rfl (by omega) (by omega) dX1_lastDay_18 rfl ?_
    rw [(hS.2 i hi).1]
    refine y_mx 22 kl_X1_43 (by decide) (Nat.le_of_ble_eq_true rfl) dX1_lastDay_19 rfl ?_
    rw [e]
    refine z_istore_n 23 [_, _, _] dX1_lastDay_22 (by decide) rfl rfl rfl ?_
    refine z_iinc 26 [_, _, _] dX1_lastDay_23 rfl (show _ + _ = nI (_ + 1) from nI_1 _) (by decide) rfl rfl rfl ?_
    refine z_goto 4 dX1_lastDay_26 rfl ?_
    exact ih
set_option maxRecDepth 100000 in
theorem c_fitOnDay {l : Launch} {G : zG} {σ : Nat → Int32} {sn n : Nat} {s : Nat → Nat} {Q : Pg} (hS : hSC σ sn s) (os : okS sn s) (hQ : hds σ 8 Q) (ok : okQ Q) (hn : n < 1000) : zMet l yX1_fitOnDay mX1_fitOnDay [.ref (zGa G 35), .ref (zGa G 8), .int (nI n)] G (zW G σ) (zFn G (some (.int (bi (fitD s Q n sn = true)))) σ) := by
  have h6 := os.1
  refine zMet.of (by decide) rfl (Nat.le_of_ble_eq_true rfl) (Or.inr rfl) fun X hX hq => ?_
  subst hX
  show Y G X mX1_fitOnDay σ 0 [some (.ref (zGa G 35)), some (.ref (zGa G 8)), some (.int (nI n)), none] []
  refine z_iconst 1 dX1_fitOnDay_0 vi0 rfl ?_
  refine z_istore_n 2 [_, _, _, _] dX1_fitOnDay_1 (by decide) rfl rfl rfl ?_
  refine zup (P := fun i => fitD s Q n i = true → Y G X mX1_fitOnDay σ 2 [some (.ref (zGa G 35)), some (.ref (zGa G 8)), some (.int (nI n)), some (.int (nI i))] []) sn ?_ (fun i hi ih => ?_) 0 (Nat.zero_le _) rfl
  · intro hf
    refine z_iload_n 3 dX1_fitOnDay_2 rfl rfl ?_
    refine z_aload_n 4 dX1_fitOnDay_3 rfl rfl ?_
    refine y_get 7 _ sh35 rfl fl_X1_35 dX1_fitOnDay_4 rfl ?_
    rw [hS.1]
    refine z_icmp_ge_t 47 dX1_fitOnDay_7 rfl (Int32.le_refl _) ?_
    refine z_iconst 48 dX1_fitOnDay_47 vi1 rfl ?_
    refine z_zret hq rfl rfl dX1_fitOnDay_48 rfl rfl ?_
    exact ⟨by rw [bi_t hf], rfl⟩
  · intro hf
    have b := os.2 i hi
    have hq9 := hueQ_lt ok b.2.1
    refine z_iload_n 3 dX1_fitOnDay_2 rfl rfl ?_
    refine z_aload_n 4 dX1_fitOnDay_3 rfl rfl ?_
    refine y_get 7 _ sh35 rfl fl_X1_35 dX1_fitOnDay_4 rfl ?_
    rw [hS.1]
    refine z_icmp_ge_f 10 47 dX1_fitOnDay_7 rfl (nI_ge hi (by omega)) rfl ?_
    refine z_aload_n 11 dX1_fitOnDay_10 rfl rfl ?_
    refine y_getr 14 _ sh35 rfl fl_X1_9 dX1_fitOnDay_11 rfl ?_
    refine z_iload_n 15 dX1_fitOnDay_14 rfl rfl ?_
    refine y_ld 16 _ i sh36 rfl (by omega) (by omega) dX1_fitOnDay_15 rfl ?_
    rw [(hS.2 i hi).1]
    refine z_iload_n 17 dX1_fitOnDay_16 rfl rfl ?_
    refine z_icmp_ne 41 20 dX1_fitOnDay_17 rfl rfl (fun h17 => ?_) (fun h17 => ?_)
    · skip
      have ne : s (3 * i) ≠ n := fun q => h17 (by rw [q])
      have hE : fitE s Q n i = true := by rw [fitE, decide_eq_true ne, Bool.true_or]
      refine z_iinc 44 [_, _, _, _] dX1_fitOnDay_41 rfl (show _ + _ = nI (_ + 1) from nI_1 _) (by decide) rfl rfl rfl ?_
      refine z_goto 2 dX1_fitOnDay_44 rfl ?_
      exact ih (by rw [fitD, hf, hE]; rfl)
    · skip
      have eq : s (3 * i) = n := nI_eqL (by omega) (by omega) h17
      refine z_aload_n 21 dX1_fitOnDay_20 rfl rfl ?_
      refine z_aload_n 22 dX1_fitOnDay_21 rfl rfl ?_
      refine y_getr 25 _ sh35 rfl fl_X1_15 dX1_fitOnDay_22 rfl ?_
      refine z_iload_n 26 dX1_fitOnDay_25 rfl rfl ?_
      refine y_ld 27 _ i sh37 rfl (by omega) (by omega) dX1_fitOnDay_26 rfl ?_
      rw [(hS.2 i hi).2.1]
      refine y_cVs 30 _ (c_hueOfOne bkm8 hQ ok b.2.1) (bk0 bkm8) cv_X1_39 ⟨by decide, by decide, rfl, rfl⟩ (Nat.le_of_ble_eq_true rfl) dX1_fitOnDay_27 rfl rfl ?_
      refine z_aload_n 31 dX1_fitOnDay_30 rfl rfl ?_
      refine y_getr 34 _ sh35 rfl fl_X1_18 dX1_fitOnDay_31 rfl ?_
      refine z_iload_n 35 dX1_fitOnDay_34 rfl rfl ?_
      refine y_ld 36 _ i sh38 rfl (by omega) (by omega) dX1_fitOnDay_35 rfl ?_
      rw [(hS.2 i hi).2.2]
      refine z_icmp_eq 41 39 dX1_fitOnDay_36 rfl rfl (fun h36 => ?_) (fun h36 => ?_)
      · skip
        have hE : fitE s Q n i = true := by rw [fitE, decide_eq_true (nI_eqL (by omega) (by omega) h36), Bool.or_true]
        refine z_iinc 44 [_, _, _, _] dX1_fitOnDay_41 rfl (show _ + _ = nI (_ + 1) from nI_1 _) (by decide) rfl rfl rfl ?_
        refine z_goto 2 dX1_fitOnDay_44 rfl ?_
        exact ih (by rw [fitD, hf, hE]; rfl)
      · skip
        have hE : fitE s Q n i = false := by rw [fitE, decide_eq_false (fun q => q eq), decide_eq_false (fun q => h36 (by rw [q])), Bool.or_false]
        refine z_iconst 40 dX1_fitOnDay_39 vi0 rfl ?_
        refine z_zret hq rfl rfl dX1_fitOnDay_40 rfl rfl ?_
        exact ⟨by rw [bi_f (by rw [fitD_f hE hi]; decide)], rfl⟩
theorem hSC_sp8 {σ : Nat → Int32} {sn : Nat} {s : Nat → Nat} {R : Pg} (h : hSC σ sn s) (h6 : sn ≤ 6) : hSC (sp σ 8 R) sn s := ⟨(sp_off (by omega)).trans h.1, fun e he => ⟨(sp_off (by omega)).trans (h.2 e he).1, (sp_off (by omega)).trans (h.2 e he).2.1, (sp_off (by omega)).trans (h.2 e he).2.2⟩⟩
set_option maxRecDepth 100000 in
theorem c_fit {l : Launch} {G : zG} {σ : Nat → Int32} {sn : Nat} {s : Nat → Nat} {Q : Pg} (hS : hSC σ sn s) (os : okS sn s) (hQ : hds σ 8 Q) (ok : okQ Q) : zMet l yX1_fit mX1_fit [.ref (zGa G 35), .ref (zGa G 8)] G (zW G σ) (zP G (fun v σ' => v = some (.int (bi (fitA sn s Q 21 = true))) ∧ ∃ R, σ' = sp σ 8 R)) := by
  have h6 := os.1
  have l21 := lastN_le os sn (Nat.le_refl _)
  have hS8 : ∀ R, hSC (sp σ 8 R) sn s := fun R => hSC_sp8 hS h6
  conv => arg 6; rw [← sp_self hQ]
  refine zMet.of (by decide) rfl (Nat.le_of_ble_eq_true rfl) (Or.inr rfl) fun X hX hq => ?_
  subst hX
  show Y G X mX1_fit (sp σ 8 Q) 0 [some (.ref (zGa G 35)), some (.ref (zGa G 8)), none, none] []
  refine z_aload_n 1 dX1_fit_0 rfl rfl ?_
  refine y_cVs 4 _ (c_lastDay (hS8 _) os) sh35 cv_X1_21 ⟨by decide, by decide, rfl, rfl⟩ (Nat.le_of_ble_eq_true rfl) dX1_fit_1 rfl rfl ?_
  refine z_istore_n 5 [_, _, _, _] dX1_fit_4 (by decide) rfl rfl rfl ?_
  refine z_iconst 6 dX1_fit_5 vi0 rfl ?_
  refine z_istore_n 7 [_, _, _, _] dX1_fit_6 (by decide) rfl rfl rfl ?_
  refine zup (P := fun i => fitA sn s Q i = true → Y G X mX1_fit (sp σ 8 (daysA Q i)) 7 [some (.ref (zGa G 35)), some (.ref (zGa G 8)), some (.int (nI (lastN s sn) - 1)), some (.int (nI i))] []) (lastN s sn) ?_ (fun i hi ih => ?_) 0 (Nat.zero_le _) rfl
  · intro hf
    have e21 : fitA sn s Q 21 = true := by
      have := fitA_last (sn := sn) (s := s) (Q := Q) (21 - lastN s sn)
      rw [show lastN s sn + (21 - lastN s sn) = 21 by omega] at this
      rw [this]; exact hf
    refine z_iload_n 8 dX1_fit_7 rfl rfl ?_
    refine z_iload_n 9 dX1_fit_8 rfl rfl ?_
    refine z_icmp_gt_t 34 dX1_fit_9 rfl ((last_gt _ (by omega) _ (by omega)).mpr (Nat.le_refl _)) ?_
    refine z_iconst 35 dX1_fit_34 vi1 rfl ?_
    refine z_zret hq rfl rfl dX1_fit_35 rfl rfl ?_
    exact ⟨_, ⟨by rw [bi_t e21], _, rfl⟩, rfl⟩
  · intro hf
    have okd := okQ_daysA ok i
    refine z_iload_n 8 dX1_fit_7 rfl rfl ?_
    refine z_iload_n 9 dX1_fit_8 rfl rfl ?_
    refine z_icmp_gt_f 12 34 dX1_fit_9 rfl (fun q => absurd ((last_gt _ (by omega) _ (by omega)).mp q) (by omega)) rfl ?_
    refine z_aload_n 13 dX1_fit_12 rfl rfl ?_
    refine z_aload_n 14 dX1_fit_13 rfl rfl ?_
    refine z_iload_n 15 dX1_fit_14 rfl rfl ?_
    refine y_cVs 18 _ (c_fitOnDay (hS8 _) os hds_sp okd (by omega)) sh35 cv_X1_25 ⟨by decide, by decide, rfl, rfl⟩ (Nat.le_of_ble_eq_true rfl) dX1_fit_15 rfl rfl ?_
    refine z_if_ne 23 21 dX1_fit_18 rfl rfl (fun h18 => ?_) (fun h18 => ?_)
    · skip
      have hD := bin0.mp h18
      refine z_aload_n 24 dX1_fit_23 rfl rfl ?_
      refine z_iconst 25 dX1_fit_24 vi1 rfl ?_
      refine y_cVv 28 _ (c_passDay (t := 1) bkm8 hds_sp okd (by decide)) (bk0 bkm8) cv_X1_29 ⟨by decide, by decide, rfl, rfl⟩ (Nat.le_of_ble_eq_true rfl) dX1_fit_25 rfl rfl ?_
      rw [sp_sp]
      refine z_iinc 31 [_, _, _, _] dX1_fit_28 rfl (show _ + _ = nI (_ + 1) from nI_1 _) (by decide) rfl rfl rfl ?_
      refine z_goto 7 dX1_fit_31 rfl ?_
      exact ih (by rw [fitA, hf, hD]; rfl)
    · skip
      have hD : fitD s (daysA Q i) i sn = false := by simpa using bi0.mp h18
      refine z_iconst 22 dX1_fit_21 vi0 rfl ?_
      refine z_zret hq rfl rfl dX1_fit_22 rfl rfl ?_
      exact ⟨_, ⟨by rw [bi_f (by rw [fitA_f hD (m := 21) (by omega)]; decide)], _, rfl⟩, rfl⟩
def kB (f : Nat → Bool) : Nat → Int32
  | 0 => 0
  | k + 1 => if f k = true then kB f k ||| ((1 : Int32) <<< (nI k &&& 31)) else kB f k
theorem kB_cg {f g : Nat → Bool} : ∀ n, (∀ k, k < n → f k = g k) → kB f n = kB g n
  | 0, _ => rfl
  | n + 1, h => by rw [kB, kB, h n (by omega), kB_cg n (fun k hk => h k (by omega))]
def fitK (sn : Nat) (s : Nat → Nat) (N : Pg) (c k : Nat) : Bool := fitA sn s (kindQ N c k) 21
def vKinds (N : Pg) (sn : Nat) (s : Nat → Nat) (c : Int32) : Int32 := if inR c (N 56) then kB (fitK sn s N (nN c)) 4 else -1
theorem hSC_same {σ τ : Nat → Int32} {sn : Nat} {s : Nat → Nat} (h : hSC σ sn s) (h6 : sn ≤ 6) (hs : same τ σ) : hSC τ sn s := by
  have k0 : ∀ e, e < 6 → scr (400 * 36 + 0 + e) = false ∧ scr (400 * 37 + 0 + e) = false ∧ scr (400 * 38 + 0 + e) = false := by decide +kernel
  exact ⟨(hs _ (by decide +kernel)).trans h.1, fun e he => ⟨(hs _ (k0 e (by omega)).1).trans (h.2 e he).1, (hs _ (k0 e (by omega)).2.1).trans (h.2 e he).2.1, (hs _ (k0 e (by omega)).2.2).trans (h.2 e he).2.2⟩⟩
set_option maxRecDepth 100000 in
theorem c_kindsLeft {l : Launch} {G : zG} {σ : Nat → Int32} {N : Pg} {sn c : Nat} {s : Nat → Nat} (hc : hdc σ 1 N) (ok : okQ N) (hS : hSC σ sn s) (os : okS sn s) (h5 : c < 5) : zMet l yX6_kindsLeft mX6_kindsLeft [.ref (zGa G 0), .int (nI c)] G (zW G σ) (zP G (pQ σ (kB (fitK sn s N c) 4))) := by
  refine zMet.of (by decide) rfl (Nat.le_of_ble_eq_true rfl) (Or.inr rfl) fun X hX hq => ?_
  subst hX
  show Y G X mX6_kindsLeft σ 0 [some (.ref (zGa G 0)), some (.int (nI c)), none, none] []
  refine z_iconst 1 dX6_kindsLeft_0 vi0 rfl ?_
  refine z_istore_n 2 [_, _, _, _] dX6_kindsLeft_1 (by decide) rfl rfl rfl ?_
  refine z_iconst 3 dX6_kindsLeft_2 vi0 rfl ?_
  refine z_istore_n 4 [_, _, _, _] dX6_kindsLeft_3 (by decide) rfl rfl rfl ?_
  refine zup (P := fun k => ∀ τ, same τ σ → Y G X mX6_kindsLeft τ 4 [some (.ref (zGa G 0)), some (.int (nI c)), some (.int (kB (fitK sn s N c) k)), some (.int (nI k))] []) 4 ?_ (fun k hk ih => ?_) 0 (Nat.zero_le _) _ same.rf
  · intro τ hτ
    refine z_iload_n 5 dX6_kindsLeft_4 rfl rfl ?_
    refine z_iconst 6 dX6_kindsLeft_5 vi4 rfl ?_
    refine z_icmp_ge_t 56 dX6_kindsLeft_6 rfl (Int32.le_refl _) ?_
    refine z_iload_n 57 dX6_kindsLeft_56 rfl rfl ?_
    refine z_iret hq rfl dX6_kindsLeft_57 rfl rfl ?_
    exact ⟨_, ⟨rfl, hτ⟩, rfl⟩
  · intro τ hτ
    have hcτ := hdc1 hc hτ
    have okk := okQ_kind (k := k) ok h5 hk
    have hSτ := hSC_same hS os.1 hτ
    refine z_iload_n 5 dX6_kindsLeft_4 rfl rfl ?_
    refine z_iconst 6 dX6_kindsLeft_5 vi4 rfl ?_
    refine z_icmp_ge_f 9 56 dX6_kindsLeft_6 rfl (nI_ge (b := 4) hk (by decide)) rfl ?_
    refine z_aload_n 10 dX6_kindsLeft_9 rfl rfl ?_
    refine y_getr 13 _ sh0 rfl fl_X6_16 dX6_kindsLeft_10 rfl ?_
    refine z_aload_n 14 dX6_kindsLeft_13 rfl rfl ?_
    refine y_getr 17 _ sh0 rfl fl_X6_10 dX6_kindsLeft_14 rfl ?_
    refine y_cVv 20 _ (n_takeFrom bkm8 bkm1 (by decide) hcτ) (bk0 bkm8) cv_X6_96 ⟨by decide, by decide, rfl, rfl⟩ (Nat.le_of_ble_eq_true rfl) dX6_kindsLeft_17 rfl rfl ?_
    refine z_aload_n 21 dX6_kindsLeft_20 rfl rfl ?_
    refine y_getr 24 _ sh0 rfl fl_X6_16 dX6_kindsLeft_21 rfl ?_
    refine y_getr 27 _ (bk0 bkm8) rfl fl_X6_125 dX6_kindsLeft_24 rfl ?_
    refine z_iload_n 28 dX6_kindsLeft_27 rfl rfl ?_
    refine z_iload_n 29 dX6_kindsLeft_28 rfl rfl ?_
    refine p_st 30 _ (bk1 bkm8) rfl (by omega) rfl (by decide) dX6_kindsLeft_29 rfl ?_
    rw [Nat.zero_add]
    show Y G X mX6_kindsLeft (sp τ 8 (kindQ N c k)) 30 _ _
    refine z_aload_n 31 dX6_kindsLeft_30 rfl rfl ?_
    refine y_getr 34 _ sh0 rfl fl_X6_44 dX6_kindsLeft_31 rfl ?_
    refine z_aload_n 35 dX6_kindsLeft_34 rfl rfl ?_
    refine y_getr 38 _ sh0 rfl fl_X6_16 dX6_kindsLeft_35 rfl ?_
    refine y_cVP 41 _ (c_fit (hSC_sp8 hSτ os.1) os hds_sp okk) sh35 cv_X6_253 ⟨by decide, by decide, rfl, rfl⟩ (Nat.le_of_ble_eq_true rfl) dX6_kindsLeft_38 rfl rfl (fun v38 σ38 hp38 => ?_)
    obtain ⟨rfl, R, rfl⟩ := hp38
    show Y G X mX6_kindsLeft _ 41 _ [.int (bi (fitA sn s (kindQ N c k) 21 = true))]
    refine z_if_eq 50 44 dX6_kindsLeft_41 rfl rfl (fun h41 => ?_) (fun h41 => ?_)
    · skip
      have e : kB (fitK sn s N c) (k + 1) = kB (fitK sn s N c) k := if_neg (bi0.mp h41)
      refine z_iinc 53 [_, _, _, _] dX6_kindsLeft_50 rfl (show _ + _ = nI (_ + 1) from nI_1 _) (by decide) rfl rfl rfl ?_
      refine z_goto 4 dX6_kindsLeft_53 rfl ?_
      rw [e] at ih
      exact ih _ (by rw [sp_sp]; exact same_sp8 hτ)
    · skip
      have e : kB (fitK sn s N c) (k + 1) = kB (fitK sn s N c) k ||| ((1 : Int32) <<< (nI k &&& 31)) := if_pos (bin0.mp h41)
      refine z_iload_n 45 dX6_kindsLeft_44 rfl rfl ?_
      refine z_iconst 46 dX6_kindsLeft_45 vi1 rfl ?_
      refine z_iload_n 47 dX6_kindsLeft_46 rfl rfl ?_
      refine z_ishl 48 dX6_kindsLeft_47 rfl ?_
      refine z_ior 49 dX6_kindsLeft_48 rfl ?_
      refine z_istore_n 50 [_, _, _, _] dX6_kindsLeft_49 (by decide) rfl rfl rfl ?_
      refine z_iinc 53 [_, _, _, _] dX6_kindsLeft_50 rfl (show _ + _ = nI (_ + 1) from nI_1 _) (by decide) rfl rfl rfl ?_
      refine z_goto 4 dX6_kindsLeft_53 rfl ?_
      rw [e] at ih
      exact ih _ (by rw [sp_sp]; exact same_sp8 hτ)
set_option maxRecDepth 100000 in
theorem x_kinds {l : Launch} {G : zG} {σ : Nat → Int32} {N : Pg} {sn : Nat} {s : Nat → Nat} {c : Int32} (hc : hdc σ 1 N) (ok : okQ N) (hS : hSC σ sn s) (os : okS sn s) : zMet l yX6_kinds mX6_kinds [.ref (zGa G 0), .int c] G (zW G σ) (zP G (pQ σ (vKinds N sn s c))) := by
  have b5 := ok.nc
  refine zMet.of (by decide) rfl (Nat.le_of_ble_eq_true rfl) (Or.inr rfl) fun X hX hq => ?_
  subst hX
  show Y G X mX6_kinds σ 0 [some (.ref (zGa G 0)), some (.int c)] []
  by_cases hi : inR c (N 56)
  · obtain ⟨c', hc', rfl⟩ := inR_of hi (by omega)
    have val : vKinds N sn s (nI c') = kB (fitK sn s N c') 4 := by rw [vKinds, if_pos hi, nN_nI (by omega)]
    refine z_aload_n 1 dX6_kinds_0 rfl rfl ?_
    refine y_getr 4 _ sh0 rfl fl_X6_10 dX6_kinds_1 rfl ?_
    refine z_iload_n 5 dX6_kinds_4 rfl rfl ?_
    refine y_cVs 8 _ (n_hasColour bkm1 hc ok) (bk0 bkm1) cv_X6_121 ⟨by decide, by decide, rfl, rfl⟩ (Nat.le_of_ble_eq_true rfl) dX6_kinds_5 rfl rfl ?_
    refine z_if_eq_f 11 19 dX6_kinds_8 rfl (by rw [bi_t hi]; decide) rfl ?_
    refine z_aload_n 12 dX6_kinds_11 rfl rfl ?_
    refine z_iload_n 13 dX6_kinds_12 rfl rfl ?_
    refine y_cVP 16 _ (c_kindsLeft hc ok hS os (by omega)) sh0 cv_X6_250 ⟨by decide, by decide, rfl, rfl⟩ (Nat.le_of_ble_eq_true rfl) dX6_kinds_13 rfl rfl (fun v13 σ13 hp13 => ?_)
    obtain ⟨rfl, hs⟩ := hp13
    show Y G X mX6_kinds _ 16 _ [.int _]
    refine z_goto 20 dX6_kinds_16 rfl ?_
    refine z_iret hq rfl dX6_kinds_20 rfl rfl ?_
    exact ⟨_, ⟨by rw [val], hs⟩, rfl⟩
  · skip
    refine z_aload_n 1 dX6_kinds_0 rfl rfl ?_
    refine y_getr 4 _ sh0 rfl fl_X6_10 dX6_kinds_1 rfl ?_
    refine z_iload_n 5 dX6_kinds_4 rfl rfl ?_
    refine y_cVs 8 _ (n_hasColour bkm1 hc ok) (bk0 bkm1) cv_X6_121 ⟨by decide, by decide, rfl, rfl⟩ (Nat.le_of_ble_eq_true rfl) dX6_kinds_5 rfl rfl ?_
    refine z_if_eq_t 19 dX6_kinds_8 rfl (bi_f hi) ?_
    refine z_iconst 20 dX6_kinds_19 vim1 rfl ?_
    refine z_iret hq rfl dX6_kinds_20 rfl rfl ?_
    exact ⟨_, ⟨by rw [vKinds, if_neg hi], same.rf⟩, rfl⟩
def dropQ (N : Pg) (p c v : Nat) : Pg := un (nrm N) (33 + 5 * p + c) v
theorem okQ_drop {N : Pg} {p c v : Nat} (ok : okQ N) (hp : p < 4) (hc : c < 5) (hv : v ≤ 99) : okQ (dropQ N p c v) := okQ_un (okQ_nrm ok) (fun _ => by rw [bnd_h' hp hc]; exact hv)
def fitP (sn : Nat) (s : Nat → Nat) (N : Pg) (p c v : Nat) : Bool := fitA sn s (dropQ N p c v) 21
def vDrops (N : Pg) (sn : Nat) (s : Nat → Nat) (p c : Int32) : Int32 := if inR p (N 57) ∧ inR c (N 56) then kB (fitP sn s N (nN p) (nN c)) 31 else -1
set_option maxRecDepth 100000 in
theorem x_drops {l : Launch} {G : zG} {σ : Nat → Int32} {N : Pg} {sn : Nat} {s : Nat → Nat} {p c : Int32} (hc : hdc σ 1 N) (ok : okQ N) (hS : hSC σ sn s) (os : okS sn s) : zMet l yX6_drops mX6_drops [.ref (zGa G 0), .int p, .int c] G (zW G σ) (zP G (pQ σ (vDrops N sn s p c))) := by
  have b5 := ok.nc
  have b4 := ok.np
  have no : ¬ (inR p (N 57) ∧ inR c (N 56)) → pQ σ (vDrops N sn s p c) (some (.int (-1))) σ := fun h => ⟨by rw [vDrops, if_neg h], same.rf⟩
  refine zMet.of (by decide) rfl (Nat.le_of_ble_eq_true rfl) (Or.inr rfl) fun X hX hq => ?_
  subst hX
  show Y G X mX6_drops σ 0 [some (.ref (zGa G 0)), some (.int p), some (.int c), none, none] []
  by_cases hp : inR p (N 57)
  · by_cases hi : inR c (N 56)
    · obtain ⟨p', hp', rfl⟩ := inR_of hp (by omega)
      obtain ⟨c', hc', rfl⟩ := inR_of hi (by omega)
      have c5 : c' < 5 := by omega
      have p4 : p' < 4 := by omega
      have val : vDrops N sn s (nI p') (nI c') = kB (fitP sn s N p' c') 31 := by rw [vDrops, if_pos ⟨hp, hi⟩, nN_nI (by omega), nN_nI (by omega)]
      refine z_aload_n 1 dX6_drops_0 rfl rfl ?_
      refine y_getr 4 _ sh0 rfl fl_X6_10 dX6_drops_1 rfl ?_
      refine z_iload_n 5 dX6_drops_4 rfl rfl ?_
      refine y_cVs 8 _ (n_hasOne bkm1 hc ok) (bk0 bkm1) cv_X6_141 ⟨by decide, by decide, rfl, rfl⟩ (Nat.le_of_ble_eq_true rfl) dX6_drops_5 rfl rfl ?_
      refine z_if_eq_f 11 22 dX6_drops_8 rfl (by rw [bi_t hp]; decide) rfl ?_
      refine z_aload_n 12 dX6_drops_11 rfl rfl ?_
      refine y_getr 15 _ sh0 rfl fl_X6_10 dX6_drops_12 rfl ?_
      refine z_iload_n 16 dX6_drops_15 rfl rfl ?_
      refine y_cVs 19 _ (n_hasColour bkm1 hc ok) (bk0 bkm1) cv_X6_121 ⟨by decide, by decide, rfl, rfl⟩ (Nat.le_of_ble_eq_true rfl) dX6_drops_16 rfl rfl ?_
      refine z_if_ne_t 24 dX6_drops_19 rfl (by rw [bi_t hi]; decide) ?_
      refine z_iconst 25 dX6_drops_24 vi0 rfl ?_
      refine z_istore_n 26 [_, _, _, _, _] dX6_drops_25 (by decide) rfl rfl rfl ?_
      refine z_iconst 27 dX6_drops_26 vi0 rfl ?_
      refine z_istore 29 [_, _, _, _, _] dX6_drops_27 (by decide) rfl rfl rfl ?_
      refine zup (P := fun k => ∀ τ, same τ σ → Y G X mX6_drops τ 29 [some (.ref (zGa G 0)), some (.int (nI p')), some (.int (nI c')), some (.int (kB (fitP sn s N p' c') k)), some (.int (nI k))] []) 31 ?_ (fun k hk ih => ?_) 0 (Nat.zero_le _) _ same.rf
      · intro τ hτ
        refine z_iload 31 dX6_drops_29 rfl rfl ?_
        refine z_bipush 33 dX6_drops_31 vb30 rfl ?_
        refine z_icmp_gt_t 89 dX6_drops_33 rfl (by decide) ?_
        refine z_iload_n 90 dX6_drops_89 rfl rfl ?_
        refine z_iret hq rfl dX6_drops_90 rfl rfl ?_
        exact ⟨_, ⟨by rw [val], hτ⟩, rfl⟩
      · intro τ hτ
        have hcτ := hdc1 hc hτ
        have okk := okQ_drop (v := k) ok p4 c5 (by omega)
        have hSτ := hSC_same hS os.1 hτ
        refine z_iload 31 dX6_drops_29 rfl rfl ?_
        refine z_bipush 33 dX6_drops_31 vb30 rfl ?_
        refine z_icmp_gt_f 36 89 dX6_drops_33 rfl (nI_nlt (a := 30) (b := k) (by omega) (by omega)) rfl ?_
        refine z_aload_n 37 dX6_drops_36 rfl rfl ?_
        refine y_getr 40 _ sh0 rfl fl_X6_16 dX6_drops_37 rfl ?_
        refine z_aload_n 41 dX6_drops_40 rfl rfl ?_
        refine y_getr 44 _ sh0 rfl fl_X6_10 dX6_drops_41 rfl ?_
        refine y_cVv 47 _ (n_takeFrom bkm8 bkm1 (by decide) hcτ) (bk0 bkm8) cv_X6_96 ⟨by decide, by decide, rfl, rfl⟩ (Nat.le_of_ble_eq_true rfl) dX6_drops_44 rfl rfl ?_
        refine z_aload_n 48 dX6_drops_47 rfl rfl ?_
        refine y_getr 51 _ sh0 rfl fl_X6_16 dX6_drops_48 rfl ?_
        refine y_getr 54 _ (bk0 bkm8) rfl fl_X6_156 dX6_drops_51 rfl ?_
        refine z_iload_n 55 dX6_drops_54 rfl rfl ?_
        refine z_iconst 56 dX6_drops_55 vi5 rfl ?_
        refine z_imulN 57 rfl (show (5 : Int32) = nI 5 from rfl) dX6_drops_56 rfl ?_
        refine z_iload_n 58 dX6_drops_57 rfl rfl ?_
        refine z_iaddN 59 rfl rfl dX6_drops_58 rfl ?_
        refine z_iload 61 dX6_drops_59 rfl rfl ?_
        refine p_st 62 _ (bk6 bkm8) rfl (by omega) rfl (by decide) dX6_drops_61 rfl ?_
        rw [show 33 + (p' * 5 + c') = 33 + 5 * p' + c' by omega]
        show Y G X mX6_drops (sp τ 8 (dropQ N p' c' k)) 62 _ _
        refine z_aload_n 63 dX6_drops_62 rfl rfl ?_
        refine y_getr 66 _ sh0 rfl fl_X6_44 dX6_drops_63 rfl ?_
        refine z_aload_n 67 dX6_drops_66 rfl rfl ?_
        refine y_getr 70 _ sh0 rfl fl_X6_16 dX6_drops_67 rfl ?_
        refine y_cVP 73 _ (c_fit (hSC_sp8 hSτ os.1) os hds_sp okk) sh35 cv_X6_253 ⟨by decide, by decide, rfl, rfl⟩ (Nat.le_of_ble_eq_true rfl) dX6_drops_70 rfl rfl (fun v70 σ70 hp70 => ?_)
        obtain ⟨rfl, R, rfl⟩ := hp70
        show Y G X mX6_drops _ 73 _ [.int (bi (fitA sn s (dropQ N p' c' k) 21 = true))]
        refine z_if_eq 83 76 dX6_drops_73 rfl rfl (fun h73 => ?_) (fun h73 => ?_)
        · skip
          have e : kB (fitP sn s N p' c') (k + 1) = kB (fitP sn s N p' c') k := if_neg (bi0.mp h73)
          refine z_iinc 86 [_, _, _, _, _] dX6_drops_83 rfl (show _ + _ = nI (_ + 1) from nI_1 _) (by decide) rfl rfl rfl ?_
          refine z_goto 29 dX6_drops_86 rfl ?_
          rw [e] at ih
          exact ih _ (by rw [sp_sp]; exact same_sp8 hτ)
        · skip
          have e : kB (fitP sn s N p' c') (k + 1) = kB (fitP sn s N p' c') k ||| ((1 : Int32) <<< (nI k &&& 31)) := if_pos (bin0.mp h73)
          refine z_iload_n 77 dX6_drops_76 rfl rfl ?_
          refine z_iconst 78 dX6_drops_77 vi1 rfl ?_
          refine z_iload 80 dX6_drops_78 rfl rfl ?_
          refine z_ishl 81 dX6_drops_80 rfl ?_
          refine z_ior 82 dX6_drops_81 rfl ?_
          refine z_istore_n 83 [_, _, _, _, _] dX6_drops_82 (by decide) rfl rfl rfl ?_
          refine z_iinc 86 [_, _, _, _, _] dX6_drops_83 rfl (show _ + _ = nI (_ + 1) from nI_1 _) (by decide) rfl rfl rfl ?_
          refine z_goto 29 dX6_drops_86 rfl ?_
          rw [e] at ih
          exact ih _ (by rw [sp_sp]; exact same_sp8 hτ)
    · have no := no (fun h => hi h.2)
      refine z_aload_n 1 dX6_drops_0 rfl rfl ?_
      refine y_getr 4 _ sh0 rfl fl_X6_10 dX6_drops_1 rfl ?_
      refine z_iload_n 5 dX6_drops_4 rfl rfl ?_
      refine y_cVs 8 _ (n_hasOne bkm1 hc ok) (bk0 bkm1) cv_X6_141 ⟨by decide, by decide, rfl, rfl⟩ (Nat.le_of_ble_eq_true rfl) dX6_drops_5 rfl rfl ?_
      refine z_if_eq_f 11 22 dX6_drops_8 rfl (by rw [bi_t hp]; decide) rfl ?_
      refine z_aload_n 12 dX6_drops_11 rfl rfl ?_
      refine y_getr 15 _ sh0 rfl fl_X6_10 dX6_drops_12 rfl ?_
      refine z_iload_n 16 dX6_drops_15 rfl rfl ?_
      refine y_cVs 19 _ (n_hasColour bkm1 hc ok) (bk0 bkm1) cv_X6_121 ⟨by decide, by decide, rfl, rfl⟩ (Nat.le_of_ble_eq_true rfl) dX6_drops_16 rfl rfl ?_
      refine z_if_ne_f 22 24 dX6_drops_19 rfl (bi_f hi) rfl ?_
      refine z_iconst 23 dX6_drops_22 vim1 rfl ?_
      refine z_iret hq rfl dX6_drops_23 rfl rfl ?_
      exact ⟨_, no, rfl⟩
  · have no := no (fun h => hp h.1)
    refine z_aload_n 1 dX6_drops_0 rfl rfl ?_
    refine y_getr 4 _ sh0 rfl fl_X6_10 dX6_drops_1 rfl ?_
    refine z_iload_n 5 dX6_drops_4 rfl rfl ?_
    refine y_cVs 8 _ (n_hasOne bkm1 hc ok) (bk0 bkm1) cv_X6_141 ⟨by decide, by decide, rfl, rfl⟩ (Nat.le_of_ble_eq_true rfl) dX6_drops_5 rfl rfl ?_
    refine z_if_eq_t 22 dX6_drops_8 rfl (bi_f hp) ?_
    refine z_iconst 23 dX6_drops_22 vim1 rfl ?_
    refine z_iret hq rfl dX6_drops_23 rfl rfl ?_
    exact ⟨_, no, rfl⟩

