/-! ===== mix, cheap of the reference ===== -/
theorem pre_lt {d : Nat → Nat} : ∀ c, (∀ i, i < c → d i < 7) → pre d c < 7 ^ c
  | 0, _ => by rw [pre]; exact Nat.one_pos
  | c + 1, h => by
    have h1 := pre_lt c (fun i hi => h i (by omega))
    have h2 := h c (by omega)
    rw [pre, Nat.pow_succ]; omega
theorem pow7_le {c : Nat} (h : c ≤ 5) : 7 ^ c ≤ 16807 := Nat.pow_le_pow_right (n := 7) (by decide) h
set_option maxRecDepth 100000 in
theorem c_powerOf {l : Launch} {G : zG} {σ : Nat → Int32} {n : Nat} (hn : n < 1000) : zMet l yX7_powerOf mX7_powerOf [.int 7, .int (nI n)] G (zW G σ) (zFn G (some (.int (nI (7 ^ n)))) σ) := by
  refine zMet.of (by decide) rfl (Nat.le_of_ble_eq_true rfl) (Or.inr rfl) fun X hX hq => ?_
  subst hX
  show Y G X mX7_powerOf σ 0 [some (.int 7), some (.int (nI n)), none, none] []
  refine z_iconst 1 dX7_powerOf_0 vi1 rfl ?_
  refine z_istore_n 2 [_, _, _, _] dX7_powerOf_1 (by decide) rfl rfl rfl ?_
  refine z_iconst 3 dX7_powerOf_2 vi0 rfl ?_
  refine z_istore_n 4 [_, _, _, _] dX7_powerOf_3 (by decide) rfl rfl rfl ?_
  refine zup (P := fun i => Y G X mX7_powerOf σ 4 [some (.int 7), some (.int (nI n)), some (.int (nI (7 ^ i))), some (.int (nI i))] []) n ?_ (fun i hi ih => ?_) 0 (Nat.zero_le _)
  · skip
    refine z_iload_n 5 dX7_powerOf_4 rfl rfl ?_
    refine z_iload_n 6 dX7_powerOf_5 rfl rfl ?_
    refine z_icmp_ge_t 19 dX7_powerOf_6 rfl (Int32.le_refl _) ?_
    refine z_iload_n 20 dX7_powerOf_19 rfl rfl ?_
    refine z_iret hq rfl dX7_powerOf_20 rfl rfl ?_
    exact ⟨rfl, rfl⟩
  · skip
    refine z_iload_n 5 dX7_powerOf_4 rfl rfl ?_
    refine z_iload_n 6 dX7_powerOf_5 rfl rfl ?_
    refine z_icmp_ge_f 9 19 dX7_powerOf_6 rfl (nI_ge hi (by omega)) rfl ?_
    refine z_iload_n 10 dX7_powerOf_9 rfl rfl ?_
    refine z_iload_n 11 dX7_powerOf_10 rfl rfl ?_
    refine z_imulN 12 rfl (show (7 : Int32) = nI 7 from rfl) dX7_powerOf_11 rfl ?_
    refine z_istore_n 13 [_, _, _, _] dX7_powerOf_12 (by decide) rfl rfl rfl ?_
    refine z_iinc 16 [_, _, _, _] dX7_powerOf_13 rfl (show _ + _ = nI (_ + 1) from nI_1 _) (by decide) rfl rfl rfl ?_
    refine z_goto 4 dX7_powerOf_16 rfl ?_
    rw [← Nat.pow_succ]
    exact ih
def hDr (τ : Nat → Int32) (m : Nat) (d : Nat → Nat) : Prop := ∀ c, c < m → τ (400 * 165 + 0 + c) = nI (d c)
theorem sumN_mono {d : Nat → Nat} {a : Nat} : ∀ b, sumN d a ≤ sumN d (a + b)
  | 0 => Nat.le_refl _
  | b + 1 => by have := sumN_mono (d := d) (a := a) b; rw [← Nat.add_assoc, sumN]; omega
set_option maxRecDepth 100000 in
set_option maxHeartbeats 2000000 in
theorem c_areDrops {l : Launch} {G : zG} {σ : Nat → Int32} {N : Pg} {n : Nat} {d : Nat → Nat} (hc : hdk σ 0 N) (ok : okQ N) (hd : ∀ i, i < N 56 → d i < 7) (hn : n ≤ 6) : zMet l yX7_areDrops mX7_areDrops [.ref (zGa G 158), .int (nI (pre d (N 56))), .int (nI n)] G (zW G σ) (zP G (fun v σ' => v = some (.int (bi (okD (fun c => N (20 + c)) d n (N 56)))) ∧ hDr σ' (N 56) d ∧ (∀ a, (a < 66000 ∨ 66005 ≤ a) → σ' a = σ a))) := by
  have b5 := ok.nc
  have bs : sumN d (N 56) ≤ 5 * 6 := sumN_ltb b5 (fun i hi => by have := hd i hi; omega)
  refine zMet.of (by decide) rfl (Nat.le_of_ble_eq_true rfl) (Or.inr rfl) fun X hX hq => ?_
  subst hX
  show Y G X mX7_areDrops σ 0 [some (.ref (zGa G 158)), some (.int (nI (pre d (N 56)))), some (.int (nI n)), none, none, none, none] []
  have key : ∀ x, x ≤ N 56 → ∀ τ, (∀ a, (a < 66000 ∨ 66005 ≤ a) → τ a = σ a) → (∀ i, i < N 56 → x ≤ i → τ (400 * 165 + 0 + i) = nI (d i)) → Y G X mX7_areDrops τ 16 [some (.ref (zGa G 158)), some (.int (nI (pre d (N 56)))), some (.int (nI n)), some (.int (nI (pre d x))), some (.int (nI (sumN d (N 56) - sumN d x))), some (.int (bi (∀ i, i < N 56 → x ≤ i → d i ≤ N (20 + i)))), some (.int (nI x - 1))] [] := by
    intro x
    induction x with
    | zero =>
      intro _ τ ho hdr
      have e0 : sumN d (N 56) - sumN d 0 = sumN d (N 56) := rfl
      rw [e0]
      have nr : (bi (okD (fun c => N (20 + c)) d n (N 56)) = 0 ∨ bi (okD (fun c => N (20 + c)) d n (N 56)) = 1) := by
        by_cases q : okD (fun c => N (20 + c)) d n (N 56)
        · exact Or.inr (bi_t q)
        · exact Or.inl (bi_f q)
      refine z_iload 18 dX7_areDrops_16 rfl rfl ?_
      refine z_if_lt_t 87 dX7_areDrops_18 rfl (by decide) ?_
      refine z_iload 89 dX7_areDrops_87 rfl rfl ?_
      refine z_if_eq 102 92 dX7_areDrops_89 rfl rfl (fun h89 => ?_) (fun h89 => ?_)
      · skip
        have e : bi (okD (fun c => N (20 + c)) d n (N 56)) = 0 := bi_f (fun q => bi0.mp h89 (fun i hi _ => q.1 i hi))
        refine z_iconst 103 dX7_areDrops_102 vi0 rfl ?_
        refine z_zret hq rfl rfl dX7_areDrops_103 rfl rfl ?_
        exact ⟨_, ⟨by rw [e], fun c hc' => hdr c hc' (Nat.zero_le _), ho⟩, rfl⟩
      · skip
        refine z_iload 94 dX7_areDrops_92 rfl rfl ?_
        refine z_iload_n 95 dX7_areDrops_94 rfl rfl ?_
        refine z_icmp_ne 102 98 dX7_areDrops_95 rfl rfl (fun h95 => ?_) (fun h95 => ?_)
        · skip
          have e : bi (okD (fun c => N (20 + c)) d n (N 56)) = 0 := bi_f (fun q => h95 (by rw [q.2]))
          refine z_iconst 103 dX7_areDrops_102 vi0 rfl ?_
          refine z_zret hq rfl rfl dX7_areDrops_103 rfl rfl ?_
          exact ⟨_, ⟨by rw [e], fun c hc' => hdr c hc' (Nat.zero_le _), ho⟩, rfl⟩
        · skip
          have e : bi (okD (fun c => N (20 + c)) d n (N 56)) = 1 := bi_t ⟨fun i hi => bin0.mp h89 i hi (Nat.zero_le _), nI_eqL (by omega) (by omega) h95⟩
          refine z_iconst 99 dX7_areDrops_98 vi1 rfl ?_
          refine z_goto 103 dX7_areDrops_99 rfl ?_
          refine z_zret hq rfl rfl dX7_areDrops_103 rfl rfl ?_
          exact ⟨_, ⟨by rw [e], fun c hc' => hdr c hc' (Nat.zero_le _), ho⟩, rfl⟩
    | succ x ih =>
      intro hx τ ho hdr
      have x5 : x < 5 := by omega
      have dx := hd x (by omega)
      have vx := ok.vt x5
      have pl : pre d (x + 1) < 16807 := Nat.lt_of_lt_of_le (pre_lt (x + 1) (fun i hi => hd i (by omega))) (pow7_le (by omega))
      have p1 : pre d (x + 1) % 7 = d x := by rw [pre]; omega
      have p2 : pre d (x + 1) / 7 = pre d x := by rw [pre]; omega
      have s1 : sumN d (x + 1) ≤ sumN d (N 56) := by
        have := sumN_mono (d := d) (a := x + 1) (N 56 - (x + 1))
        rw [show x + 1 + (N 56 - (x + 1)) = N 56 by omega] at this
        exact this
      have s2 : sumN d (N 56) - sumN d (x + 1) + d x = sumN d (N 56) - sumN d x := by
        have : sumN d (x + 1) = sumN d x + d x := rfl
        omega
      have hcu : hdk (upd τ (400 * 165 + 0 + x) (nI (d x))) 0 N := fun i hi => by
        have : aR 0 i < 65604 := by
          simp only [aR]; repeat' split
          all_goals omega
        rw [pk_un (by omega), ho _ (by omega)]; exact hc i hi
      have ih' := ih (by omega) (upd τ (400 * 165 + 0 + x) (nI (d x))) (fun a ha => (pk_un (by omega)).trans (ho a ha)) (fun i hi hxi => by
        by_cases q : i = x
        · subst q; exact pk_us
        · exact (pk_un (by omega)).trans (hdr i hi (by omega)))
      rw [nI_pred]
      refine z_iload 18 dX7_areDrops_16 rfl rfl ?_
      refine z_if_lt_f 21 87 dX7_areDrops_18 rfl (nI_pos (by omega)) rfl ?_
      refine z_aload_n 22 dX7_areDrops_21 rfl rfl ?_
      refine y_getr 25 _ sh158 rfl fl_X7_28 dX7_areDrops_22 rfl ?_
      refine z_iload 27 dX7_areDrops_25 rfl rfl ?_
      refine z_iload_n 28 dX7_areDrops_27 rfl rfl ?_
      refine z_bipush 30 dX7_areDrops_28 vb7 rfl ?_
      refine z_iremN 31 rfl (show (7 : Int32) = nI 7 from rfl) (by omega) (by omega) dX7_areDrops_30 rfl ?_
      rw [p1]
      refine y_st 32 _ x sh165 rfl (by omega) (by omega) dX7_areDrops_31 rfl ?_
      refine z_iload_n 33 dX7_areDrops_32 rfl rfl ?_
      refine z_bipush 35 dX7_areDrops_33 vb7 rfl ?_
      refine z_idivN 36 rfl (show (7 : Int32) = nI 7 from rfl) (by omega) (by omega) dX7_areDrops_35 rfl ?_
      rw [p2]
      refine z_istore_n 37 [_, _, _, _, _, _, _] dX7_areDrops_36 (by decide) rfl rfl rfl ?_
      refine z_iload 39 dX7_areDrops_37 rfl rfl ?_
      refine z_aload_n 40 dX7_areDrops_39 rfl rfl ?_
      refine y_getr 43 _ sh158 rfl fl_X7_28 dX7_areDrops_40 rfl ?_
      refine z_iload 45 dX7_areDrops_43 rfl rfl ?_
      refine y_ld 46 _ x sh165 rfl (by omega) (by omega) dX7_areDrops_45 rfl ?_
      rw [pk_us]
      refine z_iaddN 47 rfl rfl dX7_areDrops_46 rfl ?_
      rw [s2]
      refine z_istore 49 [_, _, _, _, _, _, _] dX7_areDrops_47 (by decide) rfl rfl rfl ?_
      refine z_iload 51 dX7_areDrops_49 rfl rfl ?_
      refine z_if_eq 78 54 dX7_areDrops_51 rfl rfl (fun h51 => ?_) (fun h51 => ?_)
      · skip
        have e : bi (∀ i, i < N 56 → x ≤ i → d i ≤ N (20 + i)) = 0 := bi_f (fun q => bi0.mp h51 (fun i hi hxi => q i hi (by omega)))
        refine z_iconst 79 dX7_areDrops_78 vi0 rfl ?_
        refine z_istore 81 [_, _, _, _, _, _, _] dX7_areDrops_79 (by decide) rfl rfl rfl ?_
        refine z_iinc 84 [_, _, _, _, _, _, _] dX7_areDrops_81 rfl (show _ + Int32.ofInt (-1) = _ + (-1) from congrArg _ vim1) (by decide) rfl rfl rfl ?_
        refine z_goto 16 dX7_areDrops_84 rfl ?_
        rw [e] at ih'
        rw [show nI x + (-1) = nI x - 1 from (Int32.sub_eq_add_neg _ _).symm]
        exact ih'
      · skip
        refine z_aload_n 55 dX7_areDrops_54 rfl rfl ?_
        refine y_getr 58 _ sh158 rfl fl_X7_28 dX7_areDrops_55 rfl ?_
        refine z_iload 60 dX7_areDrops_58 rfl rfl ?_
        refine y_ld 61 _ x sh165 rfl (by omega) (by omega) dX7_areDrops_60 rfl ?_
        rw [pk_us]
        refine z_aload_n 62 dX7_areDrops_61 rfl rfl ?_
        refine y_getr 65 _ sh158 rfl fl_X7_7 dX7_areDrops_62 rfl ?_
        refine z_bipush 67 dX7_areDrops_65 vb20 rfl ?_
        refine z_iload 69 dX7_areDrops_67 rfl rfl ?_
        refine z_iaddN 70 (show (20 : Int32) = nI 20 from rfl) rfl dX7_areDrops_69 rfl ?_
        refine q_ld 71 (20 + x) hcu rfl (by omega) (by omega) (by omega) dX7_areDrops_70 rfl ?_
        refine z_icmp_gt 78 74 dX7_areDrops_71 rfl rfl (fun h71 => ?_) (fun h71 => ?_)
        · skip
          have e : bi (∀ i, i < N 56 → x ≤ i → d i ≤ N (20 + i)) = 0 := bi_f (fun q => absurd (nI_le (q x (by omega) (Nat.le_refl _)) (by omega)) (Int32.not_le.mpr h71))
          refine z_iconst 79 dX7_areDrops_78 vi0 rfl ?_
          refine z_istore 81 [_, _, _, _, _, _, _] dX7_areDrops_79 (by decide) rfl rfl rfl ?_
          refine z_iinc 84 [_, _, _, _, _, _, _] dX7_areDrops_81 rfl (show _ + Int32.ofInt (-1) = _ + (-1) from congrArg _ vim1) (by decide) rfl rfl rfl ?_
          refine z_goto 16 dX7_areDrops_84 rfl ?_
          rw [e] at ih'
          rw [show nI x + (-1) = nI x - 1 from (Int32.sub_eq_add_neg _ _).symm]
          exact ih'
        · skip
          have e : bi (∀ i, i < N 56 → x ≤ i → d i ≤ N (20 + i)) = 1 := bi_t (fun i hi hxi => by
              by_cases q : i = x
              · subst q
                rcases Nat.lt_or_ge (N (20 + i)) (d i) with z | z
                · exact absurd (nI_lt z (by omega)) h71
                · exact z
              · exact bin0.mp h51 i hi (by omega))
          refine z_iconst 75 dX7_areDrops_74 vi1 rfl ?_
          refine z_goto 79 dX7_areDrops_75 rfl ?_
          refine z_istore 81 [_, _, _, _, _, _, _] dX7_areDrops_79 (by decide) rfl rfl rfl ?_
          refine z_iinc 84 [_, _, _, _, _, _, _] dX7_areDrops_81 rfl (show _ + Int32.ofInt (-1) = _ + (-1) from congrArg _ vim1) (by decide) rfl rfl rfl ?_
          refine z_goto 16 dX7_areDrops_84 rfl ?_
          rw [e] at ih'
          rw [show nI x + (-1) = nI x - 1 from (Int32.sub_eq_add_neg _ _).symm]
          exact ih'
  have k0 := key (N 56) (Nat.le_refl _) σ (fun _ _ => rfl) (fun i hi hxi => by omega)
  rw [Nat.sub_self, bi_t (p := ∀ i, i < N 56 → N 56 ≤ i → d i ≤ N (20 + i)) (fun i hi hxi => by omega)] at k0
  refine z_iload_n 1 dX7_areDrops_0 rfl rfl ?_
  refine z_istore_n 2 [_, _, _, _, _, _, _] dX7_areDrops_1 (by decide) rfl rfl rfl ?_
  refine z_iconst 3 dX7_areDrops_2 vi0 rfl ?_
  refine z_istore 5 [_, _, _, _, _, _, _] dX7_areDrops_3 (by decide) rfl rfl rfl ?_
  refine z_iconst 6 dX7_areDrops_5 vi1 rfl ?_
  refine z_istore 8 [_, _, _, _, _, _, _] dX7_areDrops_6 (by decide) rfl rfl rfl ?_
  refine z_aload_n 9 dX7_areDrops_8 rfl rfl ?_
  refine q_get 12 hc rfl (by decide) fl_X7_142 dX7_areDrops_9 rfl ?_
  refine z_iconst 13 dX7_areDrops_12 vi1 rfl ?_
  refine z_isub 14 dX7_areDrops_13 rfl ?_
  refine z_istore 16 [_, _, _, _, _, _, _] dX7_areDrops_14 (by decide) rfl rfl rfl ?_
  exact k0
set_option maxRecDepth 100000 in
theorem c_hueOfDrops7 {l : Launch} {G : zG} {σ : Nat → Int32} {N : Pg} {n : Nat} {d : Nat → Nat} (hc : hdk σ 0 N) (ok : okQ N) (hD : hDr σ (N 56) d) (hs : sumN d (N 56) = n) (hn1 : 1 ≤ n) (hn : n ≤ 6) (hd : ∀ i, i < N 56 → d i < 7) : zMet l yX7_hueOfDrops mX7_hueOfDrops [.ref (zGa G 158), .int (nI n)] G (zW G σ) (zFn G (some (.int (nI (hueD N d)))) σ) := by
  have b5 := ok.nc
  subst hs
  have hb : ∀ x c, x < 3 → c ≤ N 56 → sumN (fun c => d c * N (5 + 5 * x + c)) c ≤ 5 * 54 := fun x c hx hc => sumN_ltb (by omega) (fun i hi => by
    have h1 := hd i (by omega)
    have h2 := ok.2.1 (5 * x + i) (by omega)
    have h3 : d i * N (5 + 5 * x + i) ≤ 6 * 9 := Nat.mul_le_mul (by omega) (by rw [Nat.add_assoc]; omega)
    omega)
  let hue : Nat → Nat := fun x => match x with | 0 => 0 | 1 => 10 * 0 + sumN (fun c => d c * N (5 + 5 * 0 + c)) (N 56) / sumN d (N 56) | 2 => 10 * (10 * 0 + sumN (fun c => d c * N (5 + 5 * 0 + c)) (N 56) / sumN d (N 56)) + sumN (fun c => d c * N (5 + 5 * 1 + c)) (N 56) / sumN d (N 56) | _ => hueD N d
  refine zMet.of (by decide) rfl (Nat.le_of_ble_eq_true rfl) (Or.inr rfl) fun X hX hq => ?_
  subst hX
  show Y G X mX7_hueOfDrops σ 0 [some (.ref (zGa G 158)), some (.int (nI (sumN d (N 56)))), none, none, none, none] []
  refine z_iconst 1 dX7_hueOfDrops_0 vi0 rfl ?_
  refine z_istore_n 2 [_, _, _, _, _, _] dX7_hueOfDrops_1 (by decide) rfl rfl rfl ?_
  refine z_iconst 3 dX7_hueOfDrops_2 vi0 rfl ?_
  refine z_istore_n 4 [_, _, _, _, _, _] dX7_hueOfDrops_3 (by decide) rfl rfl rfl ?_
  refine zup (P := fun x => ∀ u v, Y G X mX7_hueOfDrops σ 4 [some (.ref (zGa G 158)), some (.int (nI (sumN d (N 56)))), some (.int (nI (hue x))), some (.int (nI (5 * x))), u, v] []) 3 ?_ (fun x hx ihx => ?_) 0 (Nat.zero_le _) none none
  · intro u v
    refine z_iload_n 5 dX7_hueOfDrops_4 rfl rfl ?_
    refine z_bipush 7 dX7_hueOfDrops_5 vb15 rfl ?_
    refine z_icmp_ge_t 71 dX7_hueOfDrops_7 rfl (nI_le (a := 15) (b := 5 * 3) (by decide) (by decide)) ?_
    refine z_iload_n 72 dX7_hueOfDrops_71 rfl rfl ?_
    refine z_iret hq rfl dX7_hueOfDrops_72 rfl rfl ?_
    exact ⟨rfl, rfl⟩
  · intro u v
    refine z_iload_n 5 dX7_hueOfDrops_4 rfl rfl ?_
    refine z_bipush 7 dX7_hueOfDrops_5 vb15 rfl ?_
    refine z_icmp_ge_f 10 71 dX7_hueOfDrops_7 rfl (nI_ge (b := 15) (by omega) (by decide)) rfl ?_
    refine z_iconst 11 dX7_hueOfDrops_10 vi0 rfl ?_
    refine z_istore 13 [_, _, _, _, _, _] dX7_hueOfDrops_11 (by decide) rfl rfl rfl ?_
    refine z_iconst 14 dX7_hueOfDrops_13 vi0 rfl ?_
    refine z_istore 16 [_, _, _, _, _, _] dX7_hueOfDrops_14 (by decide) rfl rfl rfl ?_
    refine zup (P := fun i => Y G X mX7_hueOfDrops σ 16 [some (.ref (zGa G 158)), some (.int (nI (sumN d (N 56)))), some (.int (nI (hue x))), some (.int (nI (5 * x))), some (.int (nI (sumN (fun c => d c * N (5 + 5 * x + c)) i))), some (.int (nI i))] []) (N 56) ?_ (fun i hi ih => ?_) 0 (Nat.zero_le _)
    · have hbx := hb x (N 56) hx (Nat.le_refl _)
      have ehue : hue (x + 1) = 10 * hue x + sumN (fun c => d c * N (5 + 5 * x + c)) (N 56) / sumN d (N 56) := by
        rcases (show x = 0 ∨ x = 1 ∨ x = 2 by omega) with e | e | e <;> subst e <;> rfl
      have ix : nI (5 * x) + 5 = nI (5 * (x + 1)) := zi_add rfl (show (5 : Int32) = nI 5 from rfl)
      refine z_iload 18 dX7_hueOfDrops_16 rfl rfl ?_
      refine z_aload_n 19 dX7_hueOfDrops_18 rfl rfl ?_
      refine q_get 22 hc rfl (by decide) fl_X7_142 dX7_hueOfDrops_19 rfl ?_
      refine z_icmp_ge_t 55 dX7_hueOfDrops_22 rfl (Int32.le_refl _) ?_
      refine z_bipush 57 dX7_hueOfDrops_55 vb10 rfl ?_
      refine z_iload_n 58 dX7_hueOfDrops_57 rfl rfl ?_
      refine z_imulN 59 (show (10 : Int32) = nI 10 from rfl) rfl dX7_hueOfDrops_58 rfl ?_
      refine z_iload 61 dX7_hueOfDrops_59 rfl rfl ?_
      refine z_iload_n 62 dX7_hueOfDrops_61 rfl rfl ?_
      refine z_idivN 63 rfl rfl (by omega) (by omega) dX7_hueOfDrops_62 rfl ?_
      refine z_iaddN 64 rfl rfl dX7_hueOfDrops_63 rfl ?_
      refine z_istore_n 65 [_, _, _, _, _, _] dX7_hueOfDrops_64 (by decide) rfl rfl rfl ?_
      refine z_iinc 68 [_, _, _, _, _, _] dX7_hueOfDrops_65 rfl (show _ + Int32.ofInt (5) = _ + (5) from congrArg _ vi5) (by decide) rfl rfl rfl ?_
      refine z_goto 4 dX7_hueOfDrops_68 rfl ?_
      rw [ix]
      rw [ehue] at ihx
      exact ihx _ _
    · skip
      refine z_iload 18 dX7_hueOfDrops_16 rfl rfl ?_
      refine z_aload_n 19 dX7_hueOfDrops_18 rfl rfl ?_
      refine q_get 22 hc rfl (by decide) fl_X7_142 dX7_hueOfDrops_19 rfl ?_
      refine z_icmp_ge_f 25 55 dX7_hueOfDrops_22 rfl (nI_ge hi (by omega)) rfl ?_
      refine z_iload 27 dX7_hueOfDrops_25 rfl rfl ?_
      refine z_aload_n 28 dX7_hueOfDrops_27 rfl rfl ?_
      refine y_getr 31 _ sh158 rfl fl_X7_28 dX7_hueOfDrops_28 rfl ?_
      refine z_iload 33 dX7_hueOfDrops_31 rfl rfl ?_
      refine y_ld 34 _ i sh165 rfl (by omega) (by omega) dX7_hueOfDrops_33 rfl ?_
      rw [hD i hi]
      refine z_aload_n 35 dX7_hueOfDrops_34 rfl rfl ?_
      refine y_getr 38 _ sh158 rfl fl_X7_7 dX7_hueOfDrops_35 rfl ?_
      refine z_iconst 39 dX7_hueOfDrops_38 vi5 rfl ?_
      refine z_iload_n 40 dX7_hueOfDrops_39 rfl rfl ?_
      refine z_iaddN 41 (show (5 : Int32) = nI 5 from rfl) rfl dX7_hueOfDrops_40 rfl ?_
      refine z_iload 43 dX7_hueOfDrops_41 rfl rfl ?_
      refine z_iaddN 44 rfl rfl dX7_hueOfDrops_43 rfl ?_
      refine q_ld 45 (5 + 5 * x + i) hc rfl (by omega) (by omega) (by omega) dX7_hueOfDrops_44 rfl ?_
      refine z_imulN 46 rfl rfl dX7_hueOfDrops_45 rfl ?_
      refine z_iaddN 47 rfl rfl dX7_hueOfDrops_46 rfl ?_
      refine z_istore 49 [_, _, _, _, _, _] dX7_hueOfDrops_47 (by decide) rfl rfl rfl ?_
      refine z_iinc 52 [_, _, _, _, _, _] dX7_hueOfDrops_49 rfl (show _ + _ = nI (_ + 1) from nI_1 _) (by decide) rfl rfl rfl ?_
      refine z_goto 16 dX7_hueOfDrops_52 rfl ?_
      exact ih
theorem scrD : ∀ i, i < 5 → scr (66000 + i) = true ∧ scr (66400 + i) = true := by decide +kernel
theorem same_dr {σ τ τ' : Nat → Int32} (h : same τ σ) (h2 : ∀ a, (a < 66000 ∨ 66005 ≤ a) → τ' a = τ a) : same τ' σ := fun a ha => by
  by_cases q : a < 66000 ∨ 66005 ≤ a
  · exact (h2 a q).trans (h a ha)
  · have := (scrD (a - 66000) (by omega)).1; rw [show 66000 + (a - 66000) = a by omega, ha] at this; cases this
def lst (s : Mx) : Nat := if s.1 = 28 then 100 else s.1
set_option maxRecDepth 100000 in
set_option maxHeartbeats 4000000 in
theorem r_mix {l : Launch} {G : zG} {σ : Nat → Int32} {N : Pg} {h n w : Int32} (hc : hdk σ 0 N) (ok : okQ N) : zMet l yX7_mix mX7_mix [.ref (zGa G 158), .int h, .int n, .int w] G (zW G σ) (zP G (pQ σ (vMix N h n w))) := by
  have b5 := ok.nc
  have bh : bi ((0 : Int64) ≤ h.toInt64 ∧ h.toInt64 ≤ 999) = bi (inR h 1000) := bi_in7 (n := 999) (by decide)
  have bn : bi ((1 : Int64) ≤ n.toInt64 ∧ n.toInt64 ≤ 6) = bi ((1 : Int32) ≤ n ∧ n ≤ 6) := bi_cg (by
    rw [Int64.le_iff_toInt_le, Int64.le_iff_toInt_le, Int32.toInt_toInt64, Int32.le_iff_toInt_le, Int32.le_iff_toInt_le]
    exact Iff.rfl)
  have bw : bi ((0 : Int64) ≤ w.toInt64 ∧ w.toInt64 ≤ (nI (N 56)).toInt64) = bi (inR w (N 56 + 1)) := bi_in7 (by rw [Int32.toInt_toInt64]; exact nI_toInt (by omega))
  have no : ¬ okMix N h n w → pQ σ (vMix N h n w) (some (.int (-1))) σ := fun h => ⟨by rw [vMix, if_neg h], same.rf⟩
  refine zMet.of (by decide) rfl (Nat.le_of_ble_eq_true rfl) (Or.inr rfl) fun X hX hq => ?_
  subst hX
  show Y G X mX7_mix σ 0 [some (.ref (zGa G 158)), some (.int h), some (.int n), some (.int w), none, none, none] []
  by_cases h1 : inR h 1000
  · by_cases h2 : (1 : Int32) ≤ n ∧ n ≤ 6
    · by_cases h3 : inR w (N 56 + 1)
      · obtain ⟨h', hh', rfl⟩ := inR_of h1 (by decide)
        obtain ⟨n', hn1, hn2, rfl⟩ := le_nI6 h2
        obtain ⟨w', hw', rfl⟩ := inR_of h3 (by omega)
        have val : vMix N (nI h') (nI n') (nI w') = mixV (mxR N h' n' 27) w' := by rw [vMix, if_pos ⟨h1, h2, h3⟩, nN_nI (by omega), nN_nI (by omega), nN_nI (by omega)]
        rw [← mx_codes hn2] at val
        have p7 := pow7_le b5
        have inv0 : ∀ k, (itr (mxG N h' n' 27) k mx0).1 ≤ 28 := by
          intro k
          induction k with
          | zero => exact Nat.le_refl _
          | succ k ih =>
            rw [itr, mxG]; split
            · (simp only [mxF]; split <;> omega)
            · exact ih
        refine z_iload_n 1 dX7_mix_0 rfl rfl ?_
        refine z_i2l 2 dX7_mix_1 rfl ?_
        refine z_lconst 3 dX7_mix_2 vl0 rfl ?_
        refine z_ldc2 6 kc_X7_188 dX7_mix_3 rfl ?_
        refine y_cSs 9 (c_in) cs_X7_55 ⟨by decide, by decide, rfl, rfl⟩ (Nat.le_of_ble_eq_true rfl) dX7_mix_6 rfl rfl ?_
        rw [bh]
        refine z_if_eq_f 12 38 dX7_mix_9 rfl (by rw [bi_t h1]; decide) rfl ?_
        refine z_iload_n 13 dX7_mix_12 rfl rfl ?_
        refine z_i2l 14 dX7_mix_13 rfl ?_
        refine z_lconst 15 dX7_mix_14 vl1 rfl ?_
        refine z_ldc2 18 kc_X7_180 dX7_mix_15 rfl ?_
        refine y_cSs 21 (c_in) cs_X7_55 ⟨by decide, by decide, rfl, rfl⟩ (Nat.le_of_ble_eq_true rfl) dX7_mix_18 rfl rfl ?_
        rw [bn]
        refine z_if_eq_f 24 38 dX7_mix_21 rfl (by rw [bi_t h2]; decide) rfl ?_
        refine z_iload_n 25 dX7_mix_24 rfl rfl ?_
        refine z_i2l 26 dX7_mix_25 rfl ?_
        refine z_lconst 27 dX7_mix_26 vl0 rfl ?_
        refine z_aload_n 28 dX7_mix_27 rfl rfl ?_
        refine q_get 31 hc rfl (by decide) fl_X7_142 dX7_mix_28 rfl ?_
        refine z_i2l 32 dX7_mix_31 rfl ?_
        refine y_cSs 35 (c_in) cs_X7_55 ⟨by decide, by decide, rfl, rfl⟩ (Nat.le_of_ble_eq_true rfl) dX7_mix_32 rfl rfl ?_
        rw [bw]
        refine z_if_ne_t 40 dX7_mix_35 rfl (by rw [bi_t h3]; decide) ?_
        refine z_bipush 42 dX7_mix_40 vb100 rfl ?_
        refine z_istore 44 [_, _, _, _, _, _, _] dX7_mix_42 (by decide) rfl rfl rfl ?_
        refine z_iconst 45 dX7_mix_44 vi0 rfl ?_
        refine z_istore 47 [_, _, _, _, _, _, _] dX7_mix_45 (by decide) rfl rfl rfl ?_
        refine zup (P := fun k => ∀ τ u, same τ σ → ((itr (mxG N h' n' 27) k mx0).1 < 28 → ∀ c, c < N 56 → τ (400 * 166 + 0 + c) = nI ((itr (mxG N h' n' 27) k mx0).2.1 c)) → Y G X mX7_mix τ 47 [some (.ref (zGa G 158)), some (.int (nI h')), some (.int (nI n')), some (.int (nI w')), some (.int (nI (lst (itr (mxG N h' n' 27) k mx0)))), some (.int (nI k)), u] []) (7 ^ N 56) ?_ (fun k hk ih => ?_) 0 (Nat.zero_le _) _ _ same.rf (fun q => absurd (show (28 : Nat) < 28 from q) (by decide))
        · intro τ u hτ hbd
          have i28 := inv0 (7 ^ N 56)
          have hcτ := hdk0 hc hτ
          generalize itr (mxG N h' n' 27) (7 ^ N 56) mx0 = r at hbd val i28 ⊢
          have ll : lst r ≤ 100 := by rw [lst]; split <;> omega
          refine z_iload 49 dX7_mix_47 rfl rfl ?_
          refine z_bipush 51 dX7_mix_49 vb7 rfl ?_
          refine z_aload_n 52 dX7_mix_51 rfl rfl ?_
          refine q_get 55 hcτ rfl (by decide) fl_X7_142 dX7_mix_52 rfl ?_
          refine y_cSs 58 (c_powerOf (by omega)) cs_X7_227 ⟨by decide, by decide, rfl, rfl⟩ (Nat.le_of_ble_eq_true rfl) dX7_mix_55 rfl rfl ?_
          refine z_icmp_ge_t 134 dX7_mix_58 rfl (Int32.le_refl _) ?_
          refine z_iload 136 dX7_mix_134 rfl rfl ?_
          refine z_bipush 138 dX7_mix_136 vb100 rfl ?_
          refine z_icmp_ne 146 141 dX7_mix_138 rfl rfl (fun h138 => ?_) (fun h138 => ?_)
          · skip
            have n28 : r.1 ≠ 28 := fun q => h138 (by rw [lst, if_pos q]; rfl)
            refine z_iload_n 147 dX7_mix_146 rfl rfl ?_
            refine z_if_ne 155 150 dX7_mix_147 rfl rfl (fun h147 => ?_) (fun h147 => ?_)
            · skip
              have w0 : w' ≠ 0 := fun q => h147 (by rw [q]; rfl)
              refine z_aload_n 156 dX7_mix_155 rfl rfl ?_
              refine y_getr 159 _ sh158 rfl fl_X7_31 dX7_mix_156 rfl ?_
              refine z_iload_n 160 dX7_mix_159 rfl rfl ?_
              refine z_iconst 161 dX7_mix_160 vi1 rfl ?_
              refine z_isubN 162 rfl (show (1 : Int32) = nI 1 from rfl) (show 1 ≤ w' by omega) dX7_mix_161 rfl ?_
              refine y_ld 163 _ (w' - 1) sh166 rfl (by omega) (by omega) dX7_mix_162 rfl ?_
              refine z_iret hq rfl dX7_mix_163 rfl rfl ?_
              exact ⟨_, ⟨by rw [val, mixV, if_neg n28, if_neg w0, hbd (by omega) _ (by omega)], hτ⟩, rfl⟩
            · skip
              have w0 : w' = 0 := nI_eqL (b := 0) (by omega) (by decide) h147
              refine z_iload 152 dX7_mix_150 rfl rfl ?_
              refine z_goto 163 dX7_mix_152 rfl ?_
              refine z_iret hq rfl dX7_mix_163 rfl rfl ?_
              exact ⟨_, ⟨by rw [val, mixV, if_neg n28, if_pos w0, lst, if_neg n28], hτ⟩, rfl⟩
          · skip
            have e28 : r.1 = 28 := by
                have h9 := nI_eqL (b := 100) (by omega) (by decide) h138
                rw [lst] at h9
                split at h9 <;> omega
            refine z_bipush 143 dX7_mix_141 vbm4 rfl ?_
            refine z_goto 163 dX7_mix_143 rfl ?_
            refine z_iret hq rfl dX7_mix_163 rfl rfl ?_
            exact ⟨_, ⟨by rw [val, mixV, if_pos e28], hτ⟩, rfl⟩
        · intro τ u hτ hbd
          have i28 := inv0 k
          have hcτ := hdk0 hc hτ
          have hd7 := dgt_lt (N 56) k
          have ep := dgt_pre (N 56) k hk
          have eI : itr (mxG N h' n' 27) (k + 1) mx0 = mxG N h' n' 27 k (itr (mxG N h' n' 27) k mx0) := rfl
          rw [eI] at ih
          generalize itr (mxG N h' n' 27) k mx0 = r at hbd i28 ih ⊢
          have hg1 : okD (fun c => N (20 + c)) (dgt (N 56) k) n' (N 56) → mxG N h' n' 27 k r = mxF N h' 27 (dgt (N 56) k) r := fun q => if_pos q
          have hg0 : ¬ okD (fun c => N (20 + c)) (dgt (N 56) k) n' (N 56) → mxG N h' n' 27 k r = r := fun q => if_neg q
          generalize dgt (N 56) k = d at hd7 ep hg1 hg0
          have ol : offD N h' d ≤ 27 := offD_le ok hh'
          have hul := hueD_lt (d := d) ok
          have off : offN (hueD N d) h' = offD N h' d := rfl
          have ll : lst r ≤ 100 := by rw [lst]; split <;> omega
          have lle : offD N h' d < lst r ↔ offD N h' d < r.1 := by rw [lst]; split <;> omega
          have ca := c_areDrops (l := zXl X) (G := G) (n := n') hcτ ok hd7 hn2
          rw [ep] at ca
          refine z_iload 49 dX7_mix_47 rfl rfl ?_
          refine z_bipush 51 dX7_mix_49 vb7 rfl ?_
          refine z_aload_n 52 dX7_mix_51 rfl rfl ?_
          refine q_get 55 hcτ rfl (by decide) fl_X7_142 dX7_mix_52 rfl ?_
          refine y_cSs 58 (c_powerOf (by omega)) cs_X7_227 ⟨by decide, by decide, rfl, rfl⟩ (Nat.le_of_ble_eq_true rfl) dX7_mix_55 rfl rfl ?_
          refine z_icmp_ge_f 61 134 dX7_mix_58 rfl (nI_ge hk (by omega)) rfl ?_
          refine z_aload_n 62 dX7_mix_61 rfl rfl ?_
          refine z_iload 64 dX7_mix_62 rfl rfl ?_
          refine z_iload_n 65 dX7_mix_64 rfl rfl ?_
          refine y_cVP 68 _ (ca) sh158 cv_X7_230 ⟨by decide, by decide, rfl, rfl⟩ (Nat.le_of_ble_eq_true rfl) dX7_mix_65 rfl rfl (fun v65 σ65 hp65 => ?_)
          obtain ⟨rfl, a1, a2⟩ := hp65
          have s1 := same_dr hτ a2
          have hc1 := hdk0 hc s1
          have b1 : r.1 < 28 → ∀ c, c < N 56 → σ65 (400 * 166 + 0 + c) = nI (r.2.1 c) := fun q c hc' => (a2 _ (by omega)).trans (hbd q c hc')
          clear hbd
          show Y G X mX7_mix _ 68 _ [.int _]
          refine z_if_eq 128 71 dX7_mix_68 rfl rfl (fun h68 => ?_) (fun h68 => ?_)
          · skip
            have e := hg0 (bi0.mp h68)
            refine z_iinc 131 [_, _, _, _, _, _, _] dX7_mix_128 rfl (show _ + _ = nI (_ + 1) from nI_1 _) (by decide) rfl rfl rfl ?_
            refine z_goto 47 dX7_mix_131 rfl ?_
            rw [e] at ih
            exact ih _ _ s1 b1
          · skip
            have okd := bin0.mp h68
            have e := hg1 okd
            skip
            have ch := c_hueOfDrops7 (l := zXl X) (G := G) hc1 ok a1 okd.2 hn1 hn2 hd7
            refine z_aload_n 72 dX7_mix_71 rfl rfl ?_
            refine z_iload_n 73 dX7_mix_72 rfl rfl ?_
            refine y_cVs 76 _ (ch) sh158 cv_X7_234 ⟨by decide, by decide, rfl, rfl⟩ (Nat.le_of_ble_eq_true rfl) dX7_mix_73 rfl rfl ?_
            refine z_iload_n 77 dX7_mix_76 rfl rfl ?_
            refine y_cSs 80 (c_offOf (by omega) (by omega)) cs_X7_190 ⟨by decide, by decide, rfl, rfl⟩ (Nat.le_of_ble_eq_true rfl) dX7_mix_77 rfl rfl ?_
            rw [off]
            refine z_iload 82 dX7_mix_80 rfl rfl ?_
            refine z_icmp_ge 128 85 dX7_mix_82 rfl rfl (fun h82 => ?_) (fun h82 => ?_)
            · skip
              have nl : ¬ offD N h' d < r.1 := fun q => absurd (nI_lt (lle.mpr q) (by omega)) (Int32.not_lt.mpr h82)
              refine z_iinc 131 [_, _, _, _, _, _, _] dX7_mix_128 rfl (show _ + _ = nI (_ + 1) from nI_1 _) (by decide) rfl rfl rfl ?_
              refine z_goto 47 dX7_mix_131 rfl ?_
              have e1 : (mxF N h' 27 d r).1 = r.1 := if_neg nl
              have e2 : (mxF N h' 27 d r).2.1 = r.2.1 := if_neg nl
              rw [e, lst, e1, e2] at ih
              exact ih _ _ s1 b1
            · skip
              have yl : offD N h' d < r.1 := by
                  refine lle.mp ?_
                  rcases Nat.lt_or_ge (offD N h' d) (lst r) with q | q
                  · exact q
                  · exact absurd (nI_le q (by omega)) h82
              refine z_aload_n 86 dX7_mix_85 rfl rfl ?_
              refine z_iload_n 87 dX7_mix_86 rfl rfl ?_
              refine y_cVs 90 _ (ch) sh158 cv_X7_234 ⟨by decide, by decide, rfl, rfl⟩ (Nat.le_of_ble_eq_true rfl) dX7_mix_87 rfl rfl ?_
              refine z_iload_n 91 dX7_mix_90 rfl rfl ?_
              refine y_cSs 94 (c_offOf (by omega) (by omega)) cs_X7_190 ⟨by decide, by decide, rfl, rfl⟩ (Nat.le_of_ble_eq_true rfl) dX7_mix_91 rfl rfl ?_
              rw [off]
              refine z_istore 96 [_, _, _, _, _, _, _] dX7_mix_94 (by decide) rfl rfl rfl ?_
              refine z_iconst 97 dX7_mix_96 vi0 rfl ?_
              refine z_istore 99 [_, _, _, _, _, _, _] dX7_mix_97 (by decide) rfl rfl rfl ?_
              have e1 : (mxF N h' 27 d r).1 = offD N h' d := if_pos yl
              have e2 : (mxF N h' 27 d r).2.1 = (fun c => if c < N 56 then d c else 0) := if_pos yl
              rw [e, lst, e1, e2, if_neg (by omega)] at ih
              refine zup (P := fun c => ∀ τ1, same τ1 σ → hDr τ1 (N 56) d → (∀ j, j < c → τ1 (400 * 166 + 0 + j) = nI (d j)) → Y G X mX7_mix τ1 99 [some (.ref (zGa G 158)), some (.int (nI h')), some (.int (nI n')), some (.int (nI w')), some (.int (nI (offD N h' d))), some (.int (nI k)), some (.int (nI c))] []) (N 56) ?_ (fun c hcc ih2 => ?_) 0 (Nat.zero_le _) _ s1 a1 (fun j hj => by omega)
              · intro τ1 t1 t2 t3
                have hct := hdk0 hc t1
                refine z_iload 101 dX7_mix_99 rfl rfl ?_
                refine z_aload_n 102 dX7_mix_101 rfl rfl ?_
                refine q_get 105 hct rfl (by decide) fl_X7_142 dX7_mix_102 rfl ?_
                refine z_icmp_ge_t 128 dX7_mix_105 rfl (Int32.le_refl _) ?_
                refine z_iinc 131 [_, _, _, _, _, _, _] dX7_mix_128 rfl (show _ + _ = nI (_ + 1) from nI_1 _) (by decide) rfl rfl rfl ?_
                refine z_goto 47 dX7_mix_131 rfl ?_
                exact ih _ _ t1 (fun _ j hj => (t3 j hj).trans (by show nI (d j) = nI (if j < N 56 then d j else 0); rw [if_pos hj]))
              · intro τ1 t1 t2 t3
                have hct := hdk0 hc t1
                refine z_iload 101 dX7_mix_99 rfl rfl ?_
                refine z_aload_n 102 dX7_mix_101 rfl rfl ?_
                refine q_get 105 hct rfl (by decide) fl_X7_142 dX7_mix_102 rfl ?_
                refine z_icmp_ge_f 108 128 dX7_mix_105 rfl (nI_ge hcc (by omega)) rfl ?_
                refine z_aload_n 109 dX7_mix_108 rfl rfl ?_
                refine y_getr 112 _ sh158 rfl fl_X7_31 dX7_mix_109 rfl ?_
                refine z_iload 114 dX7_mix_112 rfl rfl ?_
                refine z_aload_n 115 dX7_mix_114 rfl rfl ?_
                refine y_getr 118 _ sh158 rfl fl_X7_28 dX7_mix_115 rfl ?_
                refine z_iload 120 dX7_mix_118 rfl rfl ?_
                refine y_ld 121 _ c sh165 rfl (by omega) (by omega) dX7_mix_120 rfl ?_
                rw [t2 c hcc]
                refine y_st 122 _ c sh166 rfl (by omega) (by omega) dX7_mix_121 rfl ?_
                refine z_iinc 125 [_, _, _, _, _, _, _] dX7_mix_122 rfl (show _ + _ = nI (_ + 1) from nI_1 _) (by decide) rfl rfl rfl ?_
                refine z_goto 99 dX7_mix_125 rfl ?_
                exact ih2 _ (same_upd t1 (by have := (scrD c (by omega)).2; exact this)) (fun j hj => (pk_un (by omega)).trans (t2 j hj)) (fun j hj => by
                    by_cases q : j = c
                    · subst q; exact pk_us
                    · exact (pk_un (by omega)).trans (t3 j (by omega)))
      · have no := no (fun q => h3 q.2.2)
        refine z_iload_n 1 dX7_mix_0 rfl rfl ?_
        refine z_i2l 2 dX7_mix_1 rfl ?_
        refine z_lconst 3 dX7_mix_2 vl0 rfl ?_
        refine z_ldc2 6 kc_X7_188 dX7_mix_3 rfl ?_
        refine y_cSs 9 (c_in) cs_X7_55 ⟨by decide, by decide, rfl, rfl⟩ (Nat.le_of_ble_eq_true rfl) dX7_mix_6 rfl rfl ?_
        rw [bh]
        refine z_if_eq_f 12 38 dX7_mix_9 rfl (by rw [bi_t h1]; decide) rfl ?_
        refine z_iload_n 13 dX7_mix_12 rfl rfl ?_
        refine z_i2l 14 dX7_mix_13 rfl ?_
        refine z_lconst 15 dX7_mix_14 vl1 rfl ?_
        refine z_ldc2 18 kc_X7_180 dX7_mix_15 rfl ?_
        refine y_cSs 21 (c_in) cs_X7_55 ⟨by decide, by decide, rfl, rfl⟩ (Nat.le_of_ble_eq_true rfl) dX7_mix_18 rfl rfl ?_
        rw [bn]
        refine z_if_eq_f 24 38 dX7_mix_21 rfl (by rw [bi_t h2]; decide) rfl ?_
        refine z_iload_n 25 dX7_mix_24 rfl rfl ?_
        refine z_i2l 26 dX7_mix_25 rfl ?_
        refine z_lconst 27 dX7_mix_26 vl0 rfl ?_
        refine z_aload_n 28 dX7_mix_27 rfl rfl ?_
        refine q_get 31 hc rfl (by decide) fl_X7_142 dX7_mix_28 rfl ?_
        refine z_i2l 32 dX7_mix_31 rfl ?_
        refine y_cSs 35 (c_in) cs_X7_55 ⟨by decide, by decide, rfl, rfl⟩ (Nat.le_of_ble_eq_true rfl) dX7_mix_32 rfl rfl ?_
        rw [bw]
        refine z_if_ne_f 38 40 dX7_mix_35 rfl (bi_f h3) rfl ?_
        refine z_iconst 39 dX7_mix_38 vim1 rfl ?_
        refine z_iret hq rfl dX7_mix_39 rfl rfl ?_
        exact ⟨_, no, rfl⟩
    · have no := no (fun q => h2 q.2.1)
      refine z_iload_n 1 dX7_mix_0 rfl rfl ?_
      refine z_i2l 2 dX7_mix_1 rfl ?_
      refine z_lconst 3 dX7_mix_2 vl0 rfl ?_
      refine z_ldc2 6 kc_X7_188 dX7_mix_3 rfl ?_
      refine y_cSs 9 (c_in) cs_X7_55 ⟨by decide, by decide, rfl, rfl⟩ (Nat.le_of_ble_eq_true rfl) dX7_mix_6 rfl rfl ?_
      rw [bh]
      refine z_if_eq_f 12 38 dX7_mix_9 rfl (by rw [bi_t h1]; decide) rfl ?_
      refine z_iload_n 13 dX7_mix_12 rfl rfl ?_
      refine z_i2l 14 dX7_mix_13 rfl ?_
      refine z_lconst 15 dX7_mix_14 vl1 rfl ?_
      refine z_ldc2 18 kc_X7_180 dX7_mix_15 rfl ?_
      refine y_cSs 21 (c_in) cs_X7_55 ⟨by decide, by decide, rfl, rfl⟩ (Nat.le_of_ble_eq_true rfl) dX7_mix_18 rfl rfl ?_
      rw [bn]
      refine z_if_eq_t 38 dX7_mix_21 rfl (bi_f h2) ?_
      refine z_iconst 39 dX7_mix_38 vim1 rfl ?_
      refine z_iret hq rfl dX7_mix_39 rfl rfl ?_
      exact ⟨_, no, rfl⟩
  · have no := no (fun q => h1 q.1)
    refine z_iload_n 1 dX7_mix_0 rfl rfl ?_
    refine z_i2l 2 dX7_mix_1 rfl ?_
    refine z_lconst 3 dX7_mix_2 vl0 rfl ?_
    refine z_ldc2 6 kc_X7_188 dX7_mix_3 rfl ?_
    refine y_cSs 9 (c_in) cs_X7_55 ⟨by decide, by decide, rfl, rfl⟩ (Nat.le_of_ble_eq_true rfl) dX7_mix_6 rfl rfl ?_
    rw [bh]
    refine z_if_eq_t 38 dX7_mix_9 rfl (bi_f h1) ?_
    refine z_iconst 39 dX7_mix_38 vim1 rfl ?_
    refine z_iret hq rfl dX7_mix_39 rfl rfl ?_
    exact ⟨_, no, rfl⟩

