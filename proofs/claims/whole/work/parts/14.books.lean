/-! ===== a book's reads ===== -/
def okZ (Q : Pg) : Prop := ∀ p c, p < 4 → c < 5 → (Q 57 ≤ p ∨ Q 56 ≤ c) → Q (33 + 5 * p + c) = 0
theorem rents_v {k : Nat} (h : k < 4) : zRents k = .int (nI (rentK k)) := by
  rcases (show k = 0 ∨ k = 1 ∨ k = 2 ∨ k = 3 by omega) with e | e | e | e <;> subst e <;> rfl
theorem fades_v {k : Nat} (h : k < 4) : zFades k = .int (nI (fadeK k)) := by
  rcases (show k = 0 ∨ k = 1 ∨ k = 2 ∨ k = 3 by omega) with e | e | e | e <;> subst e <;> rfl
theorem rentK_le (k : Nat) : rentK k ≤ 6 := by
  simp only [rentK]; repeat' split
  all_goals omega
theorem fadeK_le (k : Nat) : fadeK k ≤ 3 := by
  simp only [fadeK]; repeat' split
  all_goals omega
set_option maxRecDepth 100000 in
theorem c_rentOf {l : Launch} {G : zG} {σ : Nat → Int32} {r c : Nat} {Q : Pg} (hk : zBk r) (hQ : hds σ r Q) (hc : c < 5) (hkd : Q c < 4) : zMet l yX0_rentOf mX0_rentOf [.ref (zGa G r), .int (nI c)] G (zW G σ) (zFn G (some (.int (nI (rentK (Q c))))) σ) := by
  refine zMet.of (by decide) rfl (Nat.le_of_ble_eq_true rfl) (Or.inr rfl) fun X hX hq => ?_
  subst hX
  show Y G X mX0_rentOf σ 0 [some (.ref (zGa G r)), some (.int (nI c))] []
  refine z_gsR 3 rfl dX0_rentOf_0 rfl ?_
  refine z_aload_n 4 dX0_rentOf_3 rfl rfl ?_
  refine y_getr 7 _ (bk0 hk) rfl fl_X0_9 dX0_rentOf_4 rfl ?_
  refine z_iload_n 8 dX0_rentOf_7 rfl rfl ?_
  refine h_ld 9 _ hQ (bk1 hk) rfl (by omega) (by decide) dX0_rentOf_8 rfl ?_
  rw [Nat.zero_add]
  refine z_tR 10 _ rfl hkd (rents_v hkd) dX0_rentOf_9 rfl ?_
  refine z_iret hq rfl dX0_rentOf_10 rfl rfl ?_
  exact ⟨rfl, rfl⟩
set_option maxRecDepth 100000 in
theorem c_hasColour {l : Launch} {G : zG} {σ : Nat → Int32} {r : Nat} {Q : Pg} {c : Int32} (hk : zBk r) (hQ : hds σ r Q) (hn : Q 56 ≤ 5) : zMet l yX0_hasColour mX0_hasColour [.ref (zGa G r), .int c] G (zW G σ) (zFn G (some (.int (bi (inR c (Q 56))))) σ) := by
  have e : bi ((0 : Int32) ≤ c ∧ c ≤ nI (Q 56) - 1) = bi (inR c (Q 56)) := bi_cg (le_inR1 (by omega))
  refine zMet.of (by decide) rfl (Nat.le_of_ble_eq_true rfl) (Or.inr rfl) fun X hX hq => ?_
  subst hX
  show Y G X mX0_hasColour σ 0 [some (.ref (zGa G r)), some (.int c)] []
  refine z_iload_n 1 dX0_hasColour_0 rfl rfl ?_
  refine z_iconst 2 dX0_hasColour_1 vi0 rfl ?_
  refine z_aload_n 3 dX0_hasColour_2 rfl rfl ?_
  refine h_get 6 hk hQ rfl fl_X0_30 dX0_hasColour_3 rfl ?_
  refine z_iconst 7 dX0_hasColour_6 vi1 rfl ?_
  refine z_isub 8 dX0_hasColour_7 rfl ?_
  refine y_cNs 11 (c_within) cn_X0_52 ⟨by decide, by decide, rfl, rfl⟩ (Nat.le_of_ble_eq_true rfl) dX0_hasColour_8 rfl rfl ?_
  refine z_zret hq rfl bi_nar dX0_hasColour_11 rfl rfl ?_
  exact ⟨by rw [e], rfl⟩
set_option maxRecDepth 100000 in
theorem c_hasOne {l : Launch} {G : zG} {σ : Nat → Int32} {r : Nat} {Q : Pg} {c : Int32} (hk : zBk r) (hQ : hds σ r Q) (hn : Q 57 ≤ 4) : zMet l yX0_hasOne mX0_hasOne [.ref (zGa G r), .int c] G (zW G σ) (zFn G (some (.int (bi (inR c (Q 57))))) σ) := by
  have e : bi ((0 : Int32) ≤ c ∧ c ≤ nI (Q 57) - 1) = bi (inR c (Q 57)) := bi_cg (le_inR1 (by omega))
  refine zMet.of (by decide) rfl (Nat.le_of_ble_eq_true rfl) (Or.inr rfl) fun X hX hq => ?_
  subst hX
  show Y G X mX0_hasOne σ 0 [some (.ref (zGa G r)), some (.int c)] []
  refine z_iload_n 1 dX0_hasOne_0 rfl rfl ?_
  refine z_iconst 2 dX0_hasOne_1 vi0 rfl ?_
  refine z_aload_n 3 dX0_hasOne_2 rfl rfl ?_
  refine h_get 6 hk hQ rfl fl_X0_34 dX0_hasOne_3 rfl ?_
  refine z_iconst 7 dX0_hasOne_6 vi1 rfl ?_
  refine z_isub 8 dX0_hasOne_7 rfl ?_
  refine y_cNs 11 (c_within) cn_X0_52 ⟨by decide, by decide, rfl, rfl⟩ (Nat.le_of_ble_eq_true rfl) dX0_hasOne_8 rfl rfl ?_
  refine z_zret hq rfl bi_nar dX0_hasOne_11 rfl rfl ?_
  exact ⟨by rw [e], rfl⟩
set_option maxRecDepth 100000 in
theorem c_inVats {l : Launch} {G : zG} {σ : Nat → Int32} {r : Nat} {Q : Pg} (hk : zBk r) (hQ : hds σ r Q) (hn : Q 56 ≤ 5) : zMet l yX0_inVats mX0_inVats [.ref (zGa G r)] G (zW G σ) (zFn G (some (.int (nI (vatsQ Q)))) σ) := by
  refine zMet.of (by decide) rfl (Nat.le_of_ble_eq_true rfl) (Or.inr rfl) fun X hX hq => ?_
  subst hX
  show Y G X mX0_inVats σ 0 [some (.ref (zGa G r))] []
  refine z_aload_n 1 dX0_inVats_0 rfl rfl ?_
  refine y_getr 4 _ (bk0 hk) rfl fl_X0_18 dX0_inVats_1 rfl ?_
  refine z_iconst 5 dX0_inVats_4 vi0 rfl ?_
  refine z_aload_n 6 dX0_inVats_5 rfl rfl ?_
  refine h_get 9 hk hQ rfl fl_X0_30 dX0_inVats_6 rfl ?_
  refine y_cNs 12 (c_sum (a := 0) (fun c => Q (20 + c)) (bk3 hk) (by omega) (by omega) (fun i hi => by rw [show 400 * r + 20 + (0 + i) = 400 * r + (20 + i) by omega]; exact hQ _ (by omega))) cn_X0_56 ⟨by decide, by decide, rfl, rfl⟩ (Nat.le_of_ble_eq_true rfl) dX0_inVats_9 rfl rfl ?_
  refine z_iret hq rfl dX0_inVats_12 rfl rfl ?_
  exact ⟨rfl, rfl⟩
set_option maxRecDepth 100000 in
theorem c_heldBy {l : Launch} {G : zG} {σ : Nat → Int32} {r p : Nat} {Q : Pg} (hk : zBk r) (hQ : hds σ r Q) (hn : Q 56 ≤ 5) (hp : p < 4) : zMet l yX0_heldBy mX0_heldBy [.ref (zGa G r), .int (nI p)] G (zW G σ) (zFn G (some (.int (nI (heldQ Q p)))) σ) := by
  refine zMet.of (by decide) rfl (Nat.le_of_ble_eq_true rfl) (Or.inr rfl) fun X hX hq => ?_
  subst hX
  show Y G X mX0_heldBy σ 0 [some (.ref (zGa G r)), some (.int (nI p))] []
  refine z_aload_n 1 dX0_heldBy_0 rfl rfl ?_
  refine y_getr 4 _ (bk0 hk) rfl fl_X0_27 dX0_heldBy_1 rfl ?_
  refine z_iload_n 5 dX0_heldBy_4 rfl rfl ?_
  refine z_iconst 6 dX0_heldBy_5 vi5 rfl ?_
  refine z_imulN 7 rfl (show (5 : Int32) = nI 5 from rfl) dX0_heldBy_6 rfl ?_
  refine z_aload_n 8 dX0_heldBy_7 rfl rfl ?_
  refine h_get 11 hk hQ rfl fl_X0_30 dX0_heldBy_8 rfl ?_
  refine y_cNs 14 (c_sum (fun c => Q (33 + 5 * p + c)) (bk6 hk) (by omega) (by omega) (fun i hi => by rw [show 400 * r + 33 + (p * 5 + i) = 400 * r + (33 + 5 * p + i) by omega]; exact hQ _ (by omega))) cn_X0_56 ⟨by decide, by decide, rfl, rfl⟩ (Nat.le_of_ble_eq_true rfl) dX0_heldBy_11 rfl rfl ?_
  refine z_iret hq rfl dX0_heldBy_14 rfl rfl ?_
  exact ⟨rfl, rfl⟩
theorem sumN_0 {f : Nat → Nat} : ∀ {n : Nat}, (∀ i, i < n → f i = 0) → sumN f n = 0
  | 0, _ => rfl
  | n + 1, h => by rw [sumN, sumN_0 (fun i hi => h i (by omega)), h n (by omega)]
theorem sumN_add (f : Nat → Nat) (a : Nat) : ∀ b, sumN f (a + b) = sumN f a + sumN (fun i => f (a + i)) b
  | 0 => rfl
  | b + 1 => by rw [← Nat.add_assoc, sumN, sumN, sumN_add f a b, Nat.add_assoc]
theorem sumN_5 (f : Nat → Nat) : ∀ n, sumN f (n * 5) = sumN (fun p => sumN (fun c => f (5 * p + c)) 5) n
  | 0 => by rw [Nat.zero_mul]; rfl
  | n + 1 => by
    rw [Nat.succ_mul, sumN_add, sumN_5 f n, show sumN (fun p => sumN (fun c => f (5 * p + c)) 5) (n + 1) = sumN (fun p => sumN (fun c => f (5 * p + c)) 5) n + sumN (fun c => f (5 * n + c)) 5 from rfl, Nat.mul_comm n 5]
theorem heldA_5 {Q : Pg} (hz : okZ Q) (hn : Q 56 ≤ 5) (hm : Q 57 ≤ 4) : sumN (fun i => Q (33 + i)) (Q 57 * 5) = heldA Q := by
  rw [sumN_5]
  refine sumN_cg fun p hp => ?_
  simp only [heldQ]
  obtain ⟨k, hk⟩ : ∃ k, 5 = Q 56 + k := ⟨5 - Q 56, by omega⟩
  have e : sumN (fun c => Q (33 + (5 * p + c))) 5 = sumN (fun c => Q (33 + (5 * p + c))) (Q 56) := by
    have e2 : ∀ m, m = Q 56 + k → sumN (fun c => Q (33 + (5 * p + c))) m = sumN (fun c => Q (33 + (5 * p + c))) (Q 56) + sumN (fun i => Q (33 + (5 * p + (Q 56 + i)))) k := fun m hm => by rw [hm, sumN_add]
    rw [e2 5 hk, sumN_0 (n := k), Nat.add_zero]
    intro i hi
    have := hz p (Q 56 + i) (by omega) (by omega) (Or.inr (by omega))
    rw [← Nat.add_assoc]; exact this
  rw [e]
  exact sumN_cg fun i _ => by rw [Nat.add_assoc]
set_option maxRecDepth 100000 in
theorem c_heldByAll {l : Launch} {G : zG} {σ : Nat → Int32} {r : Nat} {Q : Pg} (hk : zBk r) (hQ : hds σ r Q) (hn : Q 56 ≤ 5) (hm : Q 57 ≤ 4) (hz : okZ Q) : zMet l yX0_heldByAll mX0_heldByAll [.ref (zGa G r)] G (zW G σ) (zFn G (some (.int (nI (heldA Q)))) σ) := by
  refine zMet.of (by decide) rfl (Nat.le_of_ble_eq_true rfl) (Or.inr rfl) fun X hX hq => ?_
  subst hX
  show Y G X mX0_heldByAll σ 0 [some (.ref (zGa G r))] []
  refine z_aload_n 1 dX0_heldByAll_0 rfl rfl ?_
  refine y_getr 4 _ (bk0 hk) rfl fl_X0_27 dX0_heldByAll_1 rfl ?_
  refine z_iconst 5 dX0_heldByAll_4 vi0 rfl ?_
  refine z_aload_n 6 dX0_heldByAll_5 rfl rfl ?_
  refine h_get 9 hk hQ rfl fl_X0_34 dX0_heldByAll_6 rfl ?_
  refine z_iconst 10 dX0_heldByAll_9 vi5 rfl ?_
  refine z_imulN 11 rfl (show (5 : Int32) = nI 5 from rfl) dX0_heldByAll_10 rfl ?_
  refine y_cNs 14 (c_sum (a := 0) (fun i => Q (33 + i)) (bk6 hk) (by omega) (by omega) (fun i hi => by rw [show 400 * r + 33 + (0 + i) = 400 * r + (33 + i) by omega]; exact hQ _ (by omega))) cn_X0_56 ⟨by decide, by decide, rfl, rfl⟩ (Nat.le_of_ble_eq_true rfl) dX0_heldByAll_11 rfl rfl ?_
  refine z_iret hq rfl dX0_heldByAll_14 rfl rfl ?_
  exact ⟨by rw [heldA_5 hz hn hm], rfl⟩
set_option maxRecDepth 100000 in
theorem c_heldOf {l : Launch} {G : zG} {σ : Nat → Int32} {r c : Nat} {Q : Pg} (hk : zBk r) (hQ : hds σ r Q) (hm : Q 57 ≤ 4) (hc : c < 5) : zMet l yX0_heldOf mX0_heldOf [.ref (zGa G r), .int (nI c)] G (zW G σ) (zFn G (some (.int (nI (heldC Q c)))) σ) := by
  refine zMet.of (by decide) rfl (Nat.le_of_ble_eq_true rfl) (Or.inr rfl) fun X hX hq => ?_
  subst hX
  show Y G X mX0_heldOf σ 0 [some (.ref (zGa G r)), some (.int (nI c)), none, none] []
  refine z_iconst 1 dX0_heldOf_0 vi0 rfl ?_
  refine z_istore_n 2 [_, _, _, _] dX0_heldOf_1 (by decide) rfl rfl rfl ?_
  refine z_iconst 3 dX0_heldOf_2 vi0 rfl ?_
  refine z_istore_n 4 [_, _, _, _] dX0_heldOf_3 (by decide) rfl rfl rfl ?_
  refine zup (P := fun i => Y G X mX0_heldOf σ 4 [some (.ref (zGa G r)), some (.int (nI c)), some (.int (nI (sumN (fun p => Q (33 + 5 * p + c)) i))), some (.int (nI i))] []) (Q 57) ?_ (fun i hi ih => ?_) 0 (Nat.zero_le _)
  · skip
    refine z_iload_n 5 dX0_heldOf_4 rfl rfl ?_
    refine z_aload_n 6 dX0_heldOf_5 rfl rfl ?_
    refine h_get 9 hk hQ rfl fl_X0_34 dX0_heldOf_6 rfl ?_
    refine z_icmp_ge_t 31 dX0_heldOf_9 rfl (Int32.le_refl _) ?_
    refine z_iload_n 32 dX0_heldOf_31 rfl rfl ?_
    refine z_iret hq rfl dX0_heldOf_32 rfl rfl ?_
    exact ⟨rfl, rfl⟩
  · skip
    refine z_iload_n 5 dX0_heldOf_4 rfl rfl ?_
    refine z_aload_n 6 dX0_heldOf_5 rfl rfl ?_
    refine h_get 9 hk hQ rfl fl_X0_34 dX0_heldOf_6 rfl ?_
    refine z_icmp_ge_f 12 31 dX0_heldOf_9 rfl (nI_ge hi (by omega)) rfl ?_
    refine z_iload_n 13 dX0_heldOf_12 rfl rfl ?_
    refine z_aload_n 14 dX0_heldOf_13 rfl rfl ?_
    refine y_getr 17 _ (bk0 hk) rfl fl_X0_27 dX0_heldOf_14 rfl ?_
    refine z_iload_n 18 dX0_heldOf_17 rfl rfl ?_
    refine z_iconst 19 dX0_heldOf_18 vi5 rfl ?_
    refine z_imulN 20 rfl (show (5 : Int32) = nI 5 from rfl) dX0_heldOf_19 rfl ?_
    refine z_iload_n 21 dX0_heldOf_20 rfl rfl ?_
    refine z_iaddN 22 rfl rfl dX0_heldOf_21 rfl ?_
    refine h_ld 23 _ hQ (bk6 hk) rfl (by omega) (by decide) dX0_heldOf_22 rfl ?_
    rw [show 33 + (i * 5 + c) = 33 + 5 * i + c by omega]
    refine z_iaddN 24 rfl rfl dX0_heldOf_23 rfl ?_
    refine z_istore_n 25 [_, _, _, _] dX0_heldOf_24 (by decide) rfl rfl rfl ?_
    refine z_iinc 28 [_, _, _, _] dX0_heldOf_25 rfl (show _ + _ = nI (_ + 1) from nI_1 _) (by decide) rfl rfl rfl ?_
    refine z_goto 4 dX0_heldOf_28 rfl ?_
    exact ih
set_option maxRecDepth 100000 in
theorem c_rentOfDrops {l : Launch} {G : zG} {σ : Nat → Int32} {r rr lo len a : Nat} {sl : List (Bool × Nat)} {Q : Pg} (d : Nat → Nat) (hk : zBk r) (hQ : hds σ r Q) (hn : Q 56 ≤ 5) (hkd : ∀ i, i < 5 → Q i < 4) (hr : zSh[rr]? = some (0, lo, len, sl)) (hl : a + 5 ≤ len) (hlen : len < 1000) (hf : ∀ i, i < Q 56 → σ (lo + (a + i)) = nI (d i)) : zMet l yX0_rentOfDrops mX0_rentOfDrops [.ref (zGa G r), .ref (zGa G rr), .int (nI a)] G (zW G σ) (zFn G (some (.int (nI (sumN (fun c => d c * rentK (Q c)) (Q 56))))) σ) := by
  refine zMet.of (by decide) rfl (Nat.le_of_ble_eq_true rfl) (Or.inr rfl) fun X hX hq => ?_
  subst hX
  show Y G X mX0_rentOfDrops σ 0 [some (.ref (zGa G r)), some (.ref (zGa G rr)), some (.int (nI a)), none, none] []
  refine z_iconst 1 dX0_rentOfDrops_0 vi0 rfl ?_
  refine z_istore_n 2 [_, _, _, _, _] dX0_rentOfDrops_1 (by decide) rfl rfl rfl ?_
  refine z_iconst 3 dX0_rentOfDrops_2 vi0 rfl ?_
  refine z_istore 5 [_, _, _, _, _] dX0_rentOfDrops_3 (by decide) rfl rfl rfl ?_
  refine zup (P := fun i => Y G X mX0_rentOfDrops σ 5 [some (.ref (zGa G r)), some (.ref (zGa G rr)), some (.int (nI a)), some (.int (nI (sumN (fun c => d c * rentK (Q c)) i))), some (.int (nI i))] []) (Q 56) ?_ (fun i hi ih => ?_) 0 (Nat.zero_le _)
  · skip
    refine z_iload 7 dX0_rentOfDrops_5 rfl rfl ?_
    refine z_aload_n 8 dX0_rentOfDrops_7 rfl rfl ?_
    refine h_get 11 hk hQ rfl fl_X0_30 dX0_rentOfDrops_8 rfl ?_
    refine z_icmp_ge_t 36 dX0_rentOfDrops_11 rfl (Int32.le_refl _) ?_
    refine z_iload_n 37 dX0_rentOfDrops_36 rfl rfl ?_
    refine z_iret hq rfl dX0_rentOfDrops_37 rfl rfl ?_
    exact ⟨rfl, rfl⟩
  · skip
    refine z_iload 7 dX0_rentOfDrops_5 rfl rfl ?_
    refine z_aload_n 8 dX0_rentOfDrops_7 rfl rfl ?_
    refine h_get 11 hk hQ rfl fl_X0_30 dX0_rentOfDrops_8 rfl ?_
    refine z_icmp_ge_f 14 36 dX0_rentOfDrops_11 rfl (nI_ge hi (by omega)) rfl ?_
    refine z_iload_n 15 dX0_rentOfDrops_14 rfl rfl ?_
    refine z_aload_n 16 dX0_rentOfDrops_15 rfl rfl ?_
    refine z_iload_n 17 dX0_rentOfDrops_16 rfl rfl ?_
    refine z_iload 19 dX0_rentOfDrops_17 rfl rfl ?_
    refine z_iaddN 20 rfl rfl dX0_rentOfDrops_19 rfl ?_
    refine y_ld 21 _ _ hr rfl (by omega) (by omega) dX0_rentOfDrops_20 rfl ?_
    rw [hf i hi]
    refine z_aload_n 22 dX0_rentOfDrops_21 rfl rfl ?_
    refine z_iload 24 dX0_rentOfDrops_22 rfl rfl ?_
    refine y_cVs 27 _ (c_rentOf hk hQ (by omega) (hkd i (by omega))) (bk0 hk) cv_X0_63 ⟨by decide, by decide, rfl, rfl⟩ (Nat.le_of_ble_eq_true rfl) dX0_rentOfDrops_24 rfl rfl ?_
    refine z_imulN 28 rfl rfl dX0_rentOfDrops_27 rfl ?_
    refine z_iaddN 29 rfl rfl dX0_rentOfDrops_28 rfl ?_
    refine z_istore_n 30 [_, _, _, _, _] dX0_rentOfDrops_29 (by decide) rfl rfl rfl ?_
    refine z_iinc 33 [_, _, _, _, _] dX0_rentOfDrops_30 rfl (show _ + _ = nI (_ + 1) from nI_1 _) (by decide) rfl rfl rfl ?_
    refine z_goto 5 dX0_rentOfDrops_33 rfl ?_
    exact ih
theorem sumN_ltb {f : Nat → Nat} {n m : Nat} (hn : n ≤ 5) (h : ∀ i, i < n → f i ≤ m) : sumN f n ≤ 5 * m := Nat.le_trans (sumN_le h) (Nat.mul_le_mul_right _ hn)
set_option maxRecDepth 100000 in
theorem c_hueOfDrops {l : Launch} {G : zG} {σ : Nat → Int32} {r rr lo len a : Nat} {sl : List (Bool × Nat)} {Q : Pg} (d : Nat → Nat) (hk : zBk r) (hQ : hds σ r Q) (hn : Q 56 ≤ 5) (hlt : ∀ i, i < 15 → Q (5 + i) < 10) (hr : zSh[rr]? = some (0, lo, len, sl)) (hl : a + 5 ≤ len) (hlen : len < 1000) (hd99 : ∀ i, i < Q 56 → d i ≤ 99) (hf : ∀ i, i < Q 56 → σ (lo + (a + i)) = nI (d i)) : zMet l yX0_hueOfDrops mX0_hueOfDrops [.ref (zGa G r), .ref (zGa G rr), .int (nI a)] G (zW G σ) (zFn G (some (.int (nI (hueD Q d)))) σ) := by
  have hall : sumN d (Q 56) ≤ 5 * 99 := sumN_ltb hn hd99
  have hb : ∀ x c, x < 3 → c ≤ Q 56 → sumN (fun c => d c * Q (5 + 5 * x + c)) c ≤ 5 * 891 := fun x c hx hc => sumN_ltb (by omega) (fun i hi => by
    have h1 := hd99 i (by omega)
    have h2 := hlt (5 * x + i) (by omega)
    have h3 : d i * Q (5 + 5 * x + i) ≤ 99 * 9 := Nat.mul_le_mul h1 (by rw [Nat.add_assoc]; omega)
    omega)
  refine zMet.of (by decide) rfl (Nat.le_of_ble_eq_true rfl) (Or.inr rfl) fun X hX hq => ?_
  subst hX
  show Y G X mX0_hueOfDrops σ 0 [some (.ref (zGa G r)), some (.ref (zGa G rr)), some (.int (nI a)), none, none, none, none, none] []
  rcases Nat.eq_zero_or_pos (sumN d (Q 56)) with h0 | hpos
  · skip
    refine z_aload_n 1 dX0_hueOfDrops_0 rfl rfl ?_
    refine z_iload_n 2 dX0_hueOfDrops_1 rfl rfl ?_
    refine z_aload_n 3 dX0_hueOfDrops_2 rfl rfl ?_
    refine h_get 6 hk hQ rfl fl_X0_30 dX0_hueOfDrops_3 rfl ?_
    refine y_cNs 9 (c_sum d hr (by omega) (by omega) hf) cn_X0_56 ⟨by decide, by decide, rfl, rfl⟩ (Nat.le_of_ble_eq_true rfl) dX0_hueOfDrops_6 rfl rfl ?_
    refine z_istore_n 10 [_, _, _, _, _, _, _, _] dX0_hueOfDrops_9 (by decide) rfl rfl rfl ?_
    refine z_iload_n 11 dX0_hueOfDrops_10 rfl rfl ?_
    refine z_if_gt_f 14 16 dX0_hueOfDrops_11 rfl (by rw [h0]; decide) rfl ?_
    refine z_iconst 15 dX0_hueOfDrops_14 vi0 rfl ?_
    refine z_iret hq rfl dX0_hueOfDrops_15 rfl rfl ?_
    exact ⟨by simp only [hueD, h0, Nat.div_zero]; rfl, rfl⟩
  let hue : Nat → Nat := fun x => match x with | 0 => 0 | 1 => 10 * 0 + sumN (fun c => d c * Q (5 + 5 * 0 + c)) (Q 56) / sumN d (Q 56) | 2 => 10 * (10 * 0 + sumN (fun c => d c * Q (5 + 5 * 0 + c)) (Q 56) / sumN d (Q 56)) + sumN (fun c => d c * Q (5 + 5 * 1 + c)) (Q 56) / sumN d (Q 56) | _ => hueD Q d
  refine z_aload_n 1 dX0_hueOfDrops_0 rfl rfl ?_
  refine z_iload_n 2 dX0_hueOfDrops_1 rfl rfl ?_
  refine z_aload_n 3 dX0_hueOfDrops_2 rfl rfl ?_
  refine h_get 6 hk hQ rfl fl_X0_30 dX0_hueOfDrops_3 rfl ?_
  refine y_cNs 9 (c_sum d hr (by omega) (by omega) hf) cn_X0_56 ⟨by decide, by decide, rfl, rfl⟩ (Nat.le_of_ble_eq_true rfl) dX0_hueOfDrops_6 rfl rfl ?_
  refine z_istore_n 10 [_, _, _, _, _, _, _, _] dX0_hueOfDrops_9 (by decide) rfl rfl rfl ?_
  refine z_iload_n 11 dX0_hueOfDrops_10 rfl rfl ?_
  refine z_if_gt_t 16 dX0_hueOfDrops_11 rfl (nI_lt (a := 0) hpos (by omega)) ?_
  refine z_iconst 17 dX0_hueOfDrops_16 vi0 rfl ?_
  refine z_istore 19 [_, _, _, _, _, _, _, _] dX0_hueOfDrops_17 (by decide) rfl rfl rfl ?_
  refine z_iconst 20 dX0_hueOfDrops_19 vi0 rfl ?_
  refine z_istore 22 [_, _, _, _, _, _, _, _] dX0_hueOfDrops_20 (by decide) rfl rfl rfl ?_
  refine zup (P := fun x => ∀ u v, Y G X mX0_hueOfDrops σ 22 [some (.ref (zGa G r)), some (.ref (zGa G rr)), some (.int (nI a)), some (.int (nI (sumN d (Q 56)))), some (.int (nI (hue x))), some (.int (nI x)), u, v] []) 3 ?_ (fun x hx ihx => ?_) 0 (Nat.zero_le _) none none
  · intro u v
    refine z_iload 24 dX0_hueOfDrops_22 rfl rfl ?_
    refine z_iconst 25 dX0_hueOfDrops_24 vi3 rfl ?_
    refine z_icmp_ge_t 91 dX0_hueOfDrops_25 rfl (Int32.le_refl _) ?_
    refine z_iload 93 dX0_hueOfDrops_91 rfl rfl ?_
    refine z_iret hq rfl dX0_hueOfDrops_93 rfl rfl ?_
    exact ⟨rfl, rfl⟩
  · intro u v
    refine z_iload 24 dX0_hueOfDrops_22 rfl rfl ?_
    refine z_iconst 25 dX0_hueOfDrops_24 vi3 rfl ?_
    refine z_icmp_ge_f 28 91 dX0_hueOfDrops_25 rfl (nI_ge (b := 3) hx (by decide)) rfl ?_
    refine z_iconst 29 dX0_hueOfDrops_28 vi0 rfl ?_
    refine z_istore 31 [_, _, _, _, _, _, _, _] dX0_hueOfDrops_29 (by decide) rfl rfl rfl ?_
    refine z_iconst 32 dX0_hueOfDrops_31 vi0 rfl ?_
    refine z_istore 34 [_, _, _, _, _, _, _, _] dX0_hueOfDrops_32 (by decide) rfl rfl rfl ?_
    refine zup (P := fun i => Y G X mX0_hueOfDrops σ 34 [some (.ref (zGa G r)), some (.ref (zGa G rr)), some (.int (nI a)), some (.int (nI (sumN d (Q 56)))), some (.int (nI (hue x))), some (.int (nI x)), some (.int (nI (sumN (fun c => d c * Q (5 + 5 * x + c)) i))), some (.int (nI i))] []) (Q 56) ?_ (fun i hi ih => ?_) 0 (Nat.zero_le _)
    · have hbx := hb x (Q 56) hx (Nat.le_refl _)
      have ehue : hue (x + 1) = 10 * hue x + sumN (fun c => d c * Q (5 + 5 * x + c)) (Q 56) / sumN d (Q 56) := by
        rcases (show x = 0 ∨ x = 1 ∨ x = 2 by omega) with e | e | e <;> subst e <;> rfl
      refine z_iload 36 dX0_hueOfDrops_34 rfl rfl ?_
      refine z_aload_n 37 dX0_hueOfDrops_36 rfl rfl ?_
      refine h_get 40 hk hQ rfl fl_X0_30 dX0_hueOfDrops_37 rfl ?_
      refine z_icmp_ge_t 73 dX0_hueOfDrops_40 rfl (Int32.le_refl _) ?_
      refine z_bipush 75 dX0_hueOfDrops_73 vb10 rfl ?_
      refine z_iload 77 dX0_hueOfDrops_75 rfl rfl ?_
      refine z_imulN 78 (show (10 : Int32) = nI 10 from rfl) rfl dX0_hueOfDrops_77 rfl ?_
      refine z_iload 80 dX0_hueOfDrops_78 rfl rfl ?_
      refine z_iload_n 81 dX0_hueOfDrops_80 rfl rfl ?_
      refine z_idivN 82 rfl rfl (by omega) (by omega) dX0_hueOfDrops_81 rfl ?_
      refine z_iaddN 83 rfl rfl dX0_hueOfDrops_82 rfl ?_
      refine z_istore 85 [_, _, _, _, _, _, _, _] dX0_hueOfDrops_83 (by decide) rfl rfl rfl ?_
      refine z_iinc 88 [_, _, _, _, _, _, _, _] dX0_hueOfDrops_85 rfl (show _ + _ = nI (_ + 1) from nI_1 _) (by decide) rfl rfl rfl ?_
      refine z_goto 22 dX0_hueOfDrops_88 rfl ?_
      rw [← ehue]
      exact ihx _ _
    · skip
      refine z_iload 36 dX0_hueOfDrops_34 rfl rfl ?_
      refine z_aload_n 37 dX0_hueOfDrops_36 rfl rfl ?_
      refine h_get 40 hk hQ rfl fl_X0_30 dX0_hueOfDrops_37 rfl ?_
      refine z_icmp_ge_f 43 73 dX0_hueOfDrops_40 rfl (nI_ge hi (by omega)) rfl ?_
      refine z_iload 45 dX0_hueOfDrops_43 rfl rfl ?_
      refine z_aload_n 46 dX0_hueOfDrops_45 rfl rfl ?_
      refine z_iload_n 47 dX0_hueOfDrops_46 rfl rfl ?_
      refine z_iload 49 dX0_hueOfDrops_47 rfl rfl ?_
      refine z_iaddN 50 rfl rfl dX0_hueOfDrops_49 rfl ?_
      refine y_ld 51 _ _ hr rfl (by omega) (by omega) dX0_hueOfDrops_50 rfl ?_
      rw [hf i hi]
      refine z_aload_n 52 dX0_hueOfDrops_51 rfl rfl ?_
      refine y_getr 55 _ (bk0 hk) rfl fl_X0_15 dX0_hueOfDrops_52 rfl ?_
      refine z_iconst 56 dX0_hueOfDrops_55 vi3 rfl ?_
      refine z_iload 58 dX0_hueOfDrops_56 rfl rfl ?_
      refine z_imulN 59 (show (3 : Int32) = nI 3 from rfl) rfl dX0_hueOfDrops_58 rfl ?_
      refine z_iload 61 dX0_hueOfDrops_59 rfl rfl ?_
      refine z_iaddN 62 rfl rfl dX0_hueOfDrops_61 rfl ?_
      refine h_ldL 63 _ hQ (bk2 hk) rfl (by omega) dX0_hueOfDrops_62 rfl ?_
      rw [show 5 + (5 * ((3 * i + x) % 3) + (3 * i + x) / 3) = 5 + 5 * x + i by omega]
      refine z_imulN 64 rfl rfl dX0_hueOfDrops_63 rfl ?_
      refine z_iaddN 65 rfl rfl dX0_hueOfDrops_64 rfl ?_
      refine z_istore 67 [_, _, _, _, _, _, _, _] dX0_hueOfDrops_65 (by decide) rfl rfl rfl ?_
      refine z_iinc 70 [_, _, _, _, _, _, _, _] dX0_hueOfDrops_67 rfl (show _ + _ = nI (_ + 1) from nI_1 _) (by decide) rfl rfl rfl ?_
      refine z_goto 34 dX0_hueOfDrops_70 rfl ?_
      exact ih
set_option maxRecDepth 100000 in
theorem c_hueOfOne {l : Launch} {G : zG} {σ : Nat → Int32} {r p : Nat} {Q : Pg} (hk : zBk r) (hQ : hds σ r Q) (ok : okQ Q) (hp : p < 4) : zMet l yX0_hueOfOne mX0_hueOfOne [.ref (zGa G r), .int (nI p)] G (zW G σ) (zFn G (some (.int (nI (hueQ Q p)))) σ) := by
  refine zMet.of (by decide) rfl (Nat.le_of_ble_eq_true rfl) (Or.inr rfl) fun X hX hq => ?_
  subst hX
  show Y G X mX0_hueOfOne σ 0 [some (.ref (zGa G r)), some (.int (nI p))] []
  refine z_aload_n 1 dX0_hueOfOne_0 rfl rfl ?_
  refine z_aload_n 2 dX0_hueOfOne_1 rfl rfl ?_
  refine y_getr 5 _ (bk0 hk) rfl fl_X0_27 dX0_hueOfOne_2 rfl ?_
  refine z_iload_n 6 dX0_hueOfOne_5 rfl rfl ?_
  refine z_iconst 7 dX0_hueOfOne_6 vi5 rfl ?_
  refine z_imulN 8 rfl (show (5 : Int32) = nI 5 from rfl) dX0_hueOfOne_7 rfl ?_
  refine y_cVs 11 _ (c_hueOfDrops (fun c => Q (33 + 5 * p + c)) hk hQ ok.2.2.2.2.2.2.1 ok.2.1 (bk6 hk) (by omega) (by omega) (fun i hi => by have h8 := ok.2.2.2.2.2.2.1; have h9 := ok.2.2.2.2.2.1 (5 * p + i) (by omega); rw [Nat.add_assoc]; exact h9) (fun i hi => by have h8 := ok.2.2.2.2.2.2.1; rw [show 400 * r + 33 + (p * 5 + i) = 400 * r + (33 + 5 * p + i) by omega]; exact hQ _ (by omega))) (bk0 hk) cv_X0_67 ⟨by decide, by decide, rfl, rfl⟩ (Nat.le_of_ble_eq_true rfl) dX0_hueOfOne_8 rfl rfl ?_
  refine z_iret hq rfl dX0_hueOfOne_11 rfl rfl ?_
  exact ⟨rfl, rfl⟩

