/-! ===== ask ===== -/
def alikeN (f : Nat → Bool) (h : Nat → Nat) (k : Nat) : Nat → Nat
  | 0 => 0
  | j + 1 => if f k = true ∧ f j = true ∧ h j = h k then alikeN f h k j + 1 else alikeN f h k j
def worstN (f : Nat → Bool) (h : Nat → Nat) : Nat → Nat
  | 0 => 0
  | k + 1 => max (worstN f h k) (alikeN f h k 4)
theorem alikeN_le {f : Nat → Bool} {h : Nat → Nat} {k : Nat} : ∀ j, alikeN f h k j ≤ j
  | 0 => Nat.le_refl _
  | j + 1 => by have := alikeN_le (f := f) (h := h) (k := k) j; rw [alikeN]; split <;> omega
theorem worstN_le {f : Nat → Bool} {h : Nat → Nat} : ∀ k, worstN f h k ≤ 4
  | 0 => Nat.zero_le _
  | k + 1 => by
    have h1 := worstN_le (f := f) (h := h) k
    have h2 := alikeN_le (f := f) (h := h) (k := k) 4
    rw [worstN]; omega
theorem alikeN_0 {f : Nat → Bool} {h : Nat → Nat} {k : Nat} (hf : ¬ f k = true) : ∀ j, alikeN f h k j = 0
  | 0 => rfl
  | j + 1 => by rw [alikeN, if_neg (fun q => hf q.1), alikeN_0 hf j]
theorem alikeN_cg {f : Nat → Bool} {h g : Nat → Nat} {k : Nat} (hk : h k = g k) : ∀ n, (∀ j, j < n → h j = g j) → alikeN f h k n = alikeN f g k n
  | 0, _ => rfl
  | n + 1, e => by rw [alikeN, alikeN, alikeN_cg hk n (fun j hj => e j (by omega)), e n (by omega), hk]
set_option maxRecDepth 100000 in
set_option maxHeartbeats 2000000 in
theorem c_worstLeft {l : Launch} {G : zG} {σ : Nat → Int32} {f : Nat → Bool} {p : Nat} {W : Nat → Pg} (hW : ∀ k, k < 4 → hds σ (122 + 7 * k) (W k)) (oW : ∀ k, k < 4 → okQ (W k)) (p4 : p < 4) : zMet l yX6_worstLeft mX6_worstLeft [.ref (zGa G 0), .int (kB f 4), .int (nI p)] G (zW G σ) (zP G (fun v σ' => v = some (.int (nI (worstN f (fun k => hueQ (W k) p) 4))) ∧ ∀ a, (a < 7200 ∨ 7204 ≤ a) → σ' a = σ a)) := by
  refine zMet.of (by decide) rfl (Nat.le_of_ble_eq_true rfl) (Or.inr rfl) fun X hX hq => ?_
  subst hX
  show Y G X mX6_worstLeft σ 0 [some (.ref (zGa G 0)), some (.int (kB f 4)), some (.int (nI p)), none, none, none, none] []
  refine z_iconst 1 dX6_worstLeft_0 vi0 rfl ?_
  refine z_istore_n 2 [_, _, _, _, _, _, _] dX6_worstLeft_1 (by decide) rfl rfl rfl ?_
  refine zup (P := fun k => ∀ τ, (∀ a, (a < 7200 ∨ 7204 ≤ a) → τ a = σ a) → (∀ j, j < k → τ (400 * 18 + 0 + j) = nI (hueQ (W j) p)) → Y G X mX6_worstLeft τ 2 [some (.ref (zGa G 0)), some (.int (kB f 4)), some (.int (nI p)), some (.int (nI k)), none, none, none] []) 4 ?_ (fun k hk ih => ?_) 0 (Nat.zero_le _) _ (fun _ _ => rfl) (fun j hj => by omega)
  · intro τ hτ hh
    have hu : ∀ k, k < 4 → hueQ (W k) p < 1000 := fun k hk => hueQ_lt (oW k hk) p4
    refine z_iload_n 3 dX6_worstLeft_2 rfl rfl ?_
    refine z_iconst 4 dX6_worstLeft_3 vi4 rfl ?_
    refine z_icmp_ge_t 29 dX6_worstLeft_4 rfl (Int32.le_refl _) ?_
    refine z_iconst 30 dX6_worstLeft_29 vi0 rfl ?_
    refine z_istore_n 31 [_, _, _, _, _, _, _] dX6_worstLeft_30 (by decide) rfl rfl rfl ?_
    refine z_iconst 32 dX6_worstLeft_31 vi0 rfl ?_
    refine z_istore 34 [_, _, _, _, _, _, _] dX6_worstLeft_32 (by decide) rfl rfl rfl ?_
    refine zup (P := fun k => ∀ u v, Y G X mX6_worstLeft τ 34 [some (.ref (zGa G 0)), some (.int (kB f 4)), some (.int (nI p)), some (.int (nI (worstN f (fun k => hueQ (W k) p) k))), some (.int (nI k)), u, v] []) 4 ?_ (fun k hk ih => ?_) 0 (Nat.zero_le _) _ _
    · intro u v
      refine z_iload 36 dX6_worstLeft_34 rfl rfl ?_
      refine z_iconst 37 dX6_worstLeft_36 vi4 rfl ?_
      refine z_icmp_ge_t 109 dX6_worstLeft_37 rfl (Int32.le_refl _) ?_
      refine z_iload_n 110 dX6_worstLeft_109 rfl rfl ?_
      refine z_iret hq rfl dX6_worstLeft_110 rfl rfl ?_
      exact ⟨_, ⟨rfl, hτ⟩, rfl⟩
    · intro u v
      refine z_iload 36 dX6_worstLeft_34 rfl rfl ?_
      refine z_iconst 37 dX6_worstLeft_36 vi4 rfl ?_
      refine z_icmp_ge_f 40 109 dX6_worstLeft_37 rfl (nI_ge (b := 4) hk (by decide)) rfl ?_
      refine z_iconst 41 dX6_worstLeft_40 vi0 rfl ?_
      refine z_istore 43 [_, _, _, _, _, _, _] dX6_worstLeft_41 (by decide) rfl rfl rfl ?_
      refine z_iconst 44 dX6_worstLeft_43 vi0 rfl ?_
      refine z_istore 46 [_, _, _, _, _, _, _] dX6_worstLeft_44 (by decide) rfl rfl rfl ?_
      refine zup (P := fun j => Y G X mX6_worstLeft τ 46 [some (.ref (zGa G 0)), some (.int (kB f 4)), some (.int (nI p)), some (.int (nI (worstN f (fun k => hueQ (W k) p) k))), some (.int (nI k)), some (.int (nI (alikeN f (fun k => hueQ (W k) p) k j))), some (.int (nI j))] []) 4 ?_ (fun j hj ih2 => ?_) 0 (Nat.zero_le _)
      · have w1 := worstN_le (f := f) (h := fun k => hueQ (W k) p) k
        have w2 := alikeN_le (f := f) (h := fun k => hueQ (W k) p) (k := k) 4
        have e := nI_max (a := worstN f (fun k => hueQ (W k) p) k) (b := alikeN f (fun k => hueQ (W k) p) k 4) (by omega) (by omega)
        refine z_iload 48 dX6_worstLeft_46 rfl rfl ?_
        refine z_iconst 49 dX6_worstLeft_48 vi4 rfl ?_
        refine z_icmp_ge_t 96 dX6_worstLeft_49 rfl (Int32.le_refl _) ?_
        refine z_iload_n 97 dX6_worstLeft_96 rfl rfl ?_
        refine z_iload 99 dX6_worstLeft_97 rfl rfl ?_
        refine y_mx 102 kl_X6_298 (by decide) (Nat.le_of_ble_eq_true rfl) dX6_worstLeft_99 rfl ?_
        rw [e]
        refine z_istore_n 103 [_, _, _, _, _, _, _] dX6_worstLeft_102 (by decide) rfl rfl rfl ?_
        refine z_iinc 106 [_, _, _, _, _, _, _] dX6_worstLeft_103 rfl (show _ + _ = nI (_ + 1) from nI_1 _) (by decide) rfl rfl rfl ?_
        refine z_goto 34 dX6_worstLeft_106 rfl ?_
        exact ih _ _
      · have u1 := hu k hk
        have u2 := hu j hj
        refine z_iload 48 dX6_worstLeft_46 rfl rfl ?_
        refine z_iconst 49 dX6_worstLeft_48 vi4 rfl ?_
        refine z_icmp_ge_f 52 96 dX6_worstLeft_49 rfl (nI_ge (b := 4) hj (by decide)) rfl ?_
        refine z_iload_n 53 dX6_worstLeft_52 rfl rfl ?_
        refine z_iload 55 dX6_worstLeft_53 rfl rfl ?_
        refine y_cSs 58 (c_hasBit (by omega)) cs_X6_294 ⟨by decide, by decide, rfl, rfl⟩ (Nat.le_of_ble_eq_true rfl) dX6_worstLeft_55 rfl rfl ?_
        refine z_if_eq 90 61 dX6_worstLeft_58 rfl rfl (fun h58 => ?_) (fun h58 => ?_)
        · skip
          have e : alikeN f (fun k => hueQ (W k) p) k (j + 1) = alikeN f (fun k => hueQ (W k) p) k j := if_neg (fun q => bi0.mp h58 ((kB_hb f hk).mpr q.1))
          refine z_iinc 93 [_, _, _, _, _, _, _] dX6_worstLeft_90 rfl (show _ + _ = nI (_ + 1) from nI_1 _) (by decide) rfl rfl rfl ?_
          refine z_goto 46 dX6_worstLeft_93 rfl ?_
          rw [e] at ih2
          exact ih2
        · skip
          refine z_iload_n 62 dX6_worstLeft_61 rfl rfl ?_
          refine z_iload 64 dX6_worstLeft_62 rfl rfl ?_
          refine y_cSs 67 (c_hasBit (by omega)) cs_X6_294 ⟨by decide, by decide, rfl, rfl⟩ (Nat.le_of_ble_eq_true rfl) dX6_worstLeft_64 rfl rfl ?_
          refine z_if_eq 90 70 dX6_worstLeft_67 rfl rfl (fun h67 => ?_) (fun h67 => ?_)
          · skip
            have e : alikeN f (fun k => hueQ (W k) p) k (j + 1) = alikeN f (fun k => hueQ (W k) p) k j := if_neg (fun q => bi0.mp h67 ((kB_hb f hj).mpr q.2.1))
            refine z_iinc 93 [_, _, _, _, _, _, _] dX6_worstLeft_90 rfl (show _ + _ = nI (_ + 1) from nI_1 _) (by decide) rfl rfl rfl ?_
            refine z_goto 46 dX6_worstLeft_93 rfl ?_
            rw [e] at ih2
            exact ih2
          · skip
            refine z_aload_n 71 dX6_worstLeft_70 rfl rfl ?_
            refine y_getr 74 _ sh0 rfl fl_X6_30 dX6_worstLeft_71 rfl ?_
            refine z_iload 76 dX6_worstLeft_74 rfl rfl ?_
            refine y_ld 77 _ j sh18 rfl hj (by omega) dX6_worstLeft_76 rfl ?_
            rw [hh j hj]
            refine z_aload_n 78 dX6_worstLeft_77 rfl rfl ?_
            refine y_getr 81 _ sh0 rfl fl_X6_30 dX6_worstLeft_78 rfl ?_
            refine z_iload 83 dX6_worstLeft_81 rfl rfl ?_
            refine y_ld 84 _ k sh18 rfl hk (by omega) dX6_worstLeft_83 rfl ?_
            rw [hh k hk]
            refine z_icmp_ne 90 87 dX6_worstLeft_84 rfl rfl (fun h84 => ?_) (fun h84 => ?_)
            · skip
              have e : alikeN f (fun k => hueQ (W k) p) k (j + 1) = alikeN f (fun k => hueQ (W k) p) k j := if_neg (fun q => h84 (congrArg nI q.2.2))
              refine z_iinc 93 [_, _, _, _, _, _, _] dX6_worstLeft_90 rfl (show _ + _ = nI (_ + 1) from nI_1 _) (by decide) rfl rfl rfl ?_
              refine z_goto 46 dX6_worstLeft_93 rfl ?_
              rw [e] at ih2
              exact ih2
            · skip
              have e : alikeN f (fun k => hueQ (W k) p) k (j + 1) = alikeN f (fun k => hueQ (W k) p) k j + 1 := if_pos ⟨(kB_hb f hk).mp (bin0.mp h58), (kB_hb f hj).mp (bin0.mp h67), nI_eqL (a := hueQ (W j) p) (b := hueQ (W k) p) (by omega) (by omega) h84⟩
              refine z_iinc 90 [_, _, _, _, _, _, _] dX6_worstLeft_87 rfl (show _ + _ = nI (_ + 1) from nI_1 _) (by decide) rfl rfl rfl ?_
              refine z_iinc 93 [_, _, _, _, _, _, _] dX6_worstLeft_90 rfl (show _ + _ = nI (_ + 1) from nI_1 _) (by decide) rfl rfl rfl ?_
              refine z_goto 46 dX6_worstLeft_93 rfl ?_
              rw [e] at ih2
              exact ih2
  · intro τ hτ hh
    have hWk : hds τ (122 + 7 * k) (W k) := fun i hi => (hτ _ (by omega)).trans (hW k hk i hi)
    refine z_iload_n 3 dX6_worstLeft_2 rfl rfl ?_
    refine z_iconst 4 dX6_worstLeft_3 vi4 rfl ?_
    refine z_icmp_ge_f 7 29 dX6_worstLeft_4 rfl (nI_ge (b := 4) hk (by decide)) rfl ?_
    refine z_aload_n 8 dX6_worstLeft_7 rfl rfl ?_
    refine y_getr 11 _ sh0 rfl fl_X6_30 dX6_worstLeft_8 rfl ?_
    refine z_iload_n 12 dX6_worstLeft_11 rfl rfl ?_
    refine z_aload_n 13 dX6_worstLeft_12 rfl rfl ?_
    refine y_getr 16 _ sh0 rfl fl_X6_27 dX6_worstLeft_13 rfl ?_
    refine z_iload_n 17 dX6_worstLeft_16 rfl rfl ?_
    refine y_aaB 18 _ k sh17 rfl hk (by decide) (aa17 hk) dX6_worstLeft_17 rfl ?_
    refine z_iload_n 19 dX6_worstLeft_18 rfl rfl ?_
    refine y_cVs 22 _ (c_hueOfOne (bka17 hk) hWk (oW k hk) p4) (bk0 (bka17 hk)) cv_X6_150 ⟨by decide, by decide, rfl, rfl⟩ (Nat.le_of_ble_eq_true rfl) dX6_worstLeft_19 rfl rfl ?_
    refine y_st 23 _ k sh18 rfl hk (by omega) dX6_worstLeft_22 rfl ?_
    refine z_iinc 26 [_, _, _, _, _, _, _] dX6_worstLeft_23 rfl (show _ + _ = nI (_ + 1) from nI_1 _) (by decide) rfl rfl rfl ?_
    refine z_goto 2 dX6_worstLeft_26 rfl ?_
    exact ih _ (fun a ha => (pk_un (by omega)).trans (hτ a ha)) (fun j hj => by
        by_cases q : j = k
        · subst q; exact pk_us
        · exact (pk_un (by omega)).trans (hh j (by omega)))
def askS (w n p : Nat) (st : Int32 × Int32) : Int32 × Int32 := if nI w < st.2 then (nI (10 * n + p), nI w) else st
def wF (N : Pg) (f : Nat → Bool) (c n p : Nat) : Nat := worstN f (fun k => hueQ (daysA (kindQ N c k) n) p) 4
def askI (N : Pg) (f : Nat → Bool) (c n : Nat) (st : Int32 × Int32) : Nat → Int32 × Int32
  | 0 => st
  | p + 1 => askS (wF N f c n p) n p (askI N f c n st p)
def askO (N : Pg) (f : Nat → Bool) (c : Nat) : Nat → Int32 × Int32
  | 0 => (-4, nI (cntN f 4))
  | n + 1 => askI N f c n (askO N f c n) (N 57)
def vAsk (N : Pg) (sn : Nat) (s : Nat → Nat) (c w : Int32) : Int32 := if inR c (N 56) ∧ inR w 2 then (if (askO N (fitK sn s N (nN c)) (nN c) 21).1 = -4 ∨ w = 0 then (askO N (fitK sn s N (nN c)) (nN c) 21).1 else (askO N (fitK sn s N (nN c)) (nN c) 21).2) else -1
theorem scrW : ∀ j, j < 4 → ∀ i, i < 62 → scr (400 * (122 + 7 * j) + i) = true := by decide +kernel
theorem same_W {σ τ : Nat → Int32} {j : Nat} {Q : Pg} (h : same τ σ) (hj : j < 4) : same (sp τ (122 + 7 * j) Q) σ := same_sp h (scrW j hj)
theorem scrHu : ∀ i, i < 4 → scr (7200 + i) = true := by decide +kernel
theorem same_hu {σ τ τ' : Nat → Int32} (h : same τ σ) (h2 : ∀ a, (a < 7200 ∨ 7204 ≤ a) → τ' a = τ a) : same τ' σ := fun a ha => by
  by_cases q : a < 7200 ∨ 7204 ≤ a
  · exact (h2 a q).trans (h a ha)
  · have := scrHu (a - 7200) (by omega); rw [show 7200 + (a - 7200) = a by omega, ha] at this; cases this
set_option maxRecDepth 100000 in
set_option maxHeartbeats 4000000 in
theorem x_ask {l : Launch} {G : zG} {σ : Nat → Int32} {N : Pg} {sn : Nat} {s : Nat → Nat} {c w : Int32} (hc : hdc σ 1 N) (ok : okQ N) (hS : hSC σ sn s) (os : okS sn s) : zMet l yX6_ask mX6_ask [.ref (zGa G 0), .int c, .int w] G (zW G σ) (zP G (pQ σ (vAsk N sn s c w))) := by
  have b5 := ok.nc
  have b4 := ok.np
  have bw : bi ((0 : Int32) ≤ w ∧ w ≤ 1) = bi (inR w 2) := bi_cg (le_inR (n := 1) (by decide))
  have no : ¬ (inR c (N 56) ∧ inR w 2) → pQ σ (vAsk N sn s c w) (some (.int (-1))) σ := fun h => ⟨by rw [vAsk, if_neg h], same.rf⟩
  refine zMet.of (by decide) rfl (Nat.le_of_ble_eq_true rfl) (Or.inr rfl) fun X hX hq => ?_
  subst hX
  show Y G X mX6_ask σ 0 [some (.ref (zGa G 0)), some (.int c), some (.int w), none, none, none, none, none, none] []
  by_cases hi : inR c (N 56)
  · by_cases hw : inR w 2
    · obtain ⟨c', hc', rfl⟩ := inR_of hi (by omega)
      have c5 : c' < 5 := by omega
      have val : vAsk N sn s (nI c') w = if (askO N (fitK sn s N c') c' 21).1 = -4 ∨ w = 0 then (askO N (fitK sn s N c') c' 21).1 else (askO N (fitK sn s N c') c' 21).2 := by rw [vAsk, if_pos ⟨hi, hw⟩, nN_nI (by omega)]
      generalize hf : fitK sn s N c' = f at val
      have oK : ∀ k, k < 4 → okQ (kindQ N c' k) := fun k hk => okQ_kind ok c5 hk
      refine z_aload_n 1 dX6_ask_0 rfl rfl ?_
      refine y_getr 4 _ sh0 rfl fl_X6_10 dX6_ask_1 rfl ?_
      refine z_iload_n 5 dX6_ask_4 rfl rfl ?_
      refine y_cVs 8 _ (n_hasColour bkm1 hc ok) (bk0 bkm1) cv_X6_121 ⟨by decide, by decide, rfl, rfl⟩ (Nat.le_of_ble_eq_true rfl) dX6_ask_5 rfl rfl ?_
      refine z_if_eq_f 11 20 dX6_ask_8 rfl (by rw [bi_t hi]; decide) rfl ?_
      refine z_iload_n 12 dX6_ask_11 rfl rfl ?_
      refine z_iconst 13 dX6_ask_12 vi0 rfl ?_
      refine z_iconst 14 dX6_ask_13 vi1 rfl ?_
      refine y_cSs 17 (c_within) cs_X6_73 ⟨by decide, by decide, rfl, rfl⟩ (Nat.le_of_ble_eq_true rfl) dX6_ask_14 rfl rfl ?_
      rw [bw]
      refine z_if_ne_t 22 dX6_ask_17 rfl (by rw [bi_t hw]; decide) ?_
      refine z_aload_n 23 dX6_ask_22 rfl rfl ?_
      refine z_iload_n 24 dX6_ask_23 rfl rfl ?_
      refine y_cVP 27 _ (c_kindsLeft hc ok hS os c5) sh0 cv_X6_250 ⟨by decide, by decide, rfl, rfl⟩ (Nat.le_of_ble_eq_true rfl) dX6_ask_24 rfl rfl (fun v24 σ24 hp24 => ?_)
      obtain ⟨rfl, hs⟩ := hp24
      rw [hf]
      show Y G X mX6_ask _ 27 _ [.int (kB f 4)]
      refine z_istore_n 28 [_, _, _, _, _, _, _, _, _] dX6_ask_27 (by decide) rfl rfl rfl ?_
      refine z_iload_n 29 dX6_ask_28 rfl rfl ?_
      refine y_cSs 32 (c_bitCount) cs_X6_257 ⟨by decide, by decide, rfl, rfl⟩ (Nat.le_of_ble_eq_true rfl) dX6_ask_29 rfl rfl ?_
      rw [kB_bc]
      refine z_istore 34 [_, _, _, _, _, _, _, _, _] dX6_ask_32 (by decide) rfl rfl rfl ?_
      refine z_bipush 36 dX6_ask_34 vbm4 rfl ?_
      refine z_istore 38 [_, _, _, _, _, _, _, _, _] dX6_ask_36 (by decide) rfl rfl rfl ?_
      refine z_iconst 39 dX6_ask_38 vi0 rfl ?_
      refine z_istore 41 [_, _, _, _, _, _, _, _, _] dX6_ask_39 (by decide) rfl rfl rfl ?_
      refine zup (P := fun i => ∀ τ, same τ σ → (∀ j, j < i → hds τ (122 + 7 * j) (kindQ N c' j)) → Y G X mX6_ask τ 41 [some (.ref (zGa G 0)), some (.int (nI c')), some (.int w), some (.int (kB f 4)), some (.int (nI (cntN f 4))), some (.int (-4)), some (.int (nI i)), none, none] []) 4 ?_ (fun i hi ih => ?_) 0 (Nat.zero_le _) _ hs (fun j hj => by omega)
      · intro τ hτ hk
        refine z_iload 43 dX6_ask_41 rfl rfl ?_
        refine z_iconst 44 dX6_ask_43 vi4 rfl ?_
        refine z_icmp_ge_t 81 dX6_ask_44 rfl (Int32.le_refl _) ?_
        refine z_iconst 82 dX6_ask_81 vi0 rfl ?_
        refine z_istore 84 [_, _, _, _, _, _, _, _, _] dX6_ask_82 (by decide) rfl rfl rfl ?_
        refine zup (P := fun n => ∀ τ, same τ σ → (∀ j, j < 4 → hds τ (122 + 7 * j) (daysA (kindQ N c' j) n)) → ∀ u v, Y G X mX6_ask τ 84 [some (.ref (zGa G 0)), some (.int (nI c')), some (.int w), some (.int (kB f 4)), some (.int (askO N f c' n).2), some (.int (askO N f c' n).1), some (.int (nI n)), u, v] []) 21 ?_ (fun n hn ih => ?_) 0 (Nat.zero_le _) _ hτ hk _ _
        · intro τ hτ hk u v
          refine z_iload 86 dX6_ask_84 rfl rfl ?_
          refine z_bipush 88 dX6_ask_86 vb20 rfl ?_
          refine z_icmp_gt_t 174 dX6_ask_88 rfl (by decide) ?_
          refine z_iload 176 dX6_ask_174 rfl rfl ?_
          refine z_bipush 178 dX6_ask_176 vbm4 rfl ?_
          refine z_icmp_eq 185 181 dX6_ask_178 rfl rfl (fun h178 => ?_) (fun h178 => ?_)
          · skip
            have e : vAsk N sn s (nI c') w = (askO N f c' 21).1 := by rw [val, if_pos (Or.inl h178)]
            refine z_iload 187 dX6_ask_185 rfl rfl ?_
            refine z_goto 192 dX6_ask_187 rfl ?_
            refine z_iret hq rfl dX6_ask_192 rfl rfl ?_
            exact ⟨_, ⟨by rw [e], hτ⟩, rfl⟩
          · skip
            refine z_iload_n 182 dX6_ask_181 rfl rfl ?_
            refine z_if_ne 190 185 dX6_ask_182 rfl rfl (fun h182 => ?_) (fun h182 => ?_)
            · skip
              have e : vAsk N sn s (nI c') w = (askO N f c' 21).2 := by rw [val, if_neg (fun q => q.elim h178 h182)]
              refine z_iload 192 dX6_ask_190 rfl rfl ?_
              refine z_iret hq rfl dX6_ask_192 rfl rfl ?_
              exact ⟨_, ⟨by rw [e], hτ⟩, rfl⟩
            · skip
              have e : vAsk N sn s (nI c') w = (askO N f c' 21).1 := by rw [val, if_pos (Or.inr h182)]
              refine z_iload 187 dX6_ask_185 rfl rfl ?_
              refine z_goto 192 dX6_ask_187 rfl ?_
              refine z_iret hq rfl dX6_ask_192 rfl rfl ?_
              exact ⟨_, ⟨by rw [e], hτ⟩, rfl⟩
        · intro τ hτ hk u v
          refine z_iload 86 dX6_ask_84 rfl rfl ?_
          refine z_bipush 88 dX6_ask_86 vb20 rfl ?_
          refine z_icmp_gt_f 91 174 dX6_ask_88 rfl (nI_nlt (a := 20) (b := n) (by omega) (by omega)) rfl ?_
          refine z_iconst 92 dX6_ask_91 vi0 rfl ?_
          refine z_istore 94 [_, _, _, _, _, _, _, _, _] dX6_ask_92 (by decide) rfl rfl rfl ?_
          refine zup (P := fun p => ∀ τ, same τ σ → (∀ j, j < 4 → hds τ (122 + 7 * j) (daysA (kindQ N c' j) n)) → ∀ v, Y G X mX6_ask τ 94 [some (.ref (zGa G 0)), some (.int (nI c')), some (.int w), some (.int (kB f 4)), some (.int (askI N f c' n (askO N f c' n) p).2), some (.int (askI N f c' n (askO N f c' n) p).1), some (.int (nI n)), some (.int (nI p)), v] []) (N 57) ?_ (fun p hp ih2 => ?_) 0 (Nat.zero_le _) τ hτ hk _
          · intro τ hτ hk v
            have hcτ := hdc1 hc hτ
            refine z_iload 96 dX6_ask_94 rfl rfl ?_
            refine z_aload_n 97 dX6_ask_96 rfl rfl ?_
            refine y_getr 100 _ sh0 rfl fl_X6_10 dX6_ask_97 rfl ?_
            refine k_get 103 bkm1 hcτ rfl (by decide) fl_X6_106 dX6_ask_100 rfl ?_
            refine z_icmp_ge_t 142 dX6_ask_103 rfl (Int32.le_refl _) ?_
            refine z_iconst 143 dX6_ask_142 vi0 rfl ?_
            refine z_istore 145 [_, _, _, _, _, _, _, _, _] dX6_ask_143 (by decide) rfl rfl rfl ?_
            refine zup (P := fun i => ∀ τ, same τ σ → (∀ j, j < i → hds τ (122 + 7 * j) (daysA (kindQ N c' j) (n + 1))) → (∀ j, i ≤ j → j < 4 → hds τ (122 + 7 * j) (daysA (kindQ N c' j) n)) → Y G X mX6_ask τ 145 [some (.ref (zGa G 0)), some (.int (nI c')), some (.int w), some (.int (kB f 4)), some (.int (askO N f c' (n + 1)).2), some (.int (askO N f c' (n + 1)).1), some (.int (nI n)), some (.int (nI i)), v] []) 4 ?_ (fun i hi ih3 => ?_) 0 (Nat.zero_le _) τ hτ (fun j hj => by omega) (fun j _ hj => hk j hj)
            · intro τ hτ hk _
              refine z_iload 147 dX6_ask_145 rfl rfl ?_
              refine z_iconst 148 dX6_ask_147 vi4 rfl ?_
              refine z_icmp_ge_t 168 dX6_ask_148 rfl (Int32.le_refl _) ?_
              refine z_iinc 171 [_, _, _, _, _, _, _, _, _] dX6_ask_168 rfl (show _ + _ = nI (_ + 1) from nI_1 _) (by decide) rfl rfl rfl ?_
              refine z_goto 84 dX6_ask_171 rfl ?_
              exact ih τ hτ hk _ _
            · intro τ hτ hk hk2
              refine z_iload 147 dX6_ask_145 rfl rfl ?_
              refine z_iconst 148 dX6_ask_147 vi4 rfl ?_
              refine z_icmp_ge_f 151 168 dX6_ask_148 rfl (nI_ge (b := 4) hi (by decide)) rfl ?_
              refine z_aload_n 152 dX6_ask_151 rfl rfl ?_
              refine y_getr 155 _ sh0 rfl fl_X6_27 dX6_ask_152 rfl ?_
              refine z_iload 157 dX6_ask_155 rfl rfl ?_
              refine y_aaB 158 _ i sh17 rfl hi (by decide) (aa17 hi) dX6_ask_157 rfl ?_
              refine z_iconst 159 dX6_ask_158 vi1 rfl ?_
              refine y_cVv 162 _ (c_passDay (t := 1) (bka17 hi) (hk2 i (Nat.le_refl _) hi) (okQ_daysA (oK i hi) n) (by decide)) (bk0 (bka17 hi)) cv_X6_191 ⟨by decide, by decide, rfl, rfl⟩ (Nat.le_of_ble_eq_true rfl) dX6_ask_159 rfl rfl ?_
              refine z_iinc 165 [_, _, _, _, _, _, _, _, _] dX6_ask_162 rfl (show _ + _ = nI (_ + 1) from nI_1 _) (by decide) rfl rfl rfl ?_
              refine z_goto 145 dX6_ask_165 rfl ?_
              exact ih3 _ (same_W hτ hi) (fun j hj => by
                  by_cases q : j = i
                  · subst q; exact hds_sp
                  · exact hds_off (hk j (by omega)) (by omega)) (fun j h1 h2 => hds_off (hk2 j (by omega) h2) (by omega))
          · intro τ hτ hk v
            have hcτ := hdc1 hc hτ
            have wl := worstN_le (f := f) (h := fun k => hueQ (daysA (kindQ N c' k) n) p) 4
            have e0 : askI N f c' n (askO N f c' n) (p + 1) = askS (wF N f c' n p) n p (askI N f c' n (askO N f c' n) p) := rfl
            refine z_iload 96 dX6_ask_94 rfl rfl ?_
            refine z_aload_n 97 dX6_ask_96 rfl rfl ?_
            refine y_getr 100 _ sh0 rfl fl_X6_10 dX6_ask_97 rfl ?_
            refine k_get 103 bkm1 hcτ rfl (by decide) fl_X6_106 dX6_ask_100 rfl ?_
            refine z_icmp_ge_f 106 142 dX6_ask_103 rfl (nI_ge hp (by omega)) rfl ?_
            refine z_aload_n 107 dX6_ask_106 rfl rfl ?_
            refine z_iload_n 108 dX6_ask_107 rfl rfl ?_
            refine z_iload 110 dX6_ask_108 rfl rfl ?_
            refine y_cVP 113 _ (c_worstLeft hk (fun k hk => okQ_daysA (oK k hk) n) (by omega)) sh0 cv_X6_262 ⟨by decide, by decide, rfl, rfl⟩ (Nat.le_of_ble_eq_true rfl) dX6_ask_110 rfl rfl (fun v110 σ110 hp110 => ?_)
            obtain ⟨rfl, ho⟩ := hp110
            have s1 := same_hu hτ ho
            have k1 : ∀ j, j < 4 → hds σ110 (122 + 7 * j) (daysA (kindQ N c' j) n) := fun j hj i hi => (ho _ (by omega)).trans (hk j hj i hi)
            show Y G X mX6_ask _ 113 _ [.int (nI (wF N f c' n p))]
            refine z_istore 115 [_, _, _, _, _, _, _, _, _] dX6_ask_113 (by decide) rfl rfl rfl ?_
            refine z_iload 117 dX6_ask_115 rfl rfl ?_
            refine z_iload 119 dX6_ask_117 rfl rfl ?_
            refine z_icmp_ge 136 122 dX6_ask_119 rfl rfl (fun h119 => ?_) (fun h119 => ?_)
            · skip
              have e : askI N f c' n (askO N f c' n) (p + 1) = askI N f c' n (askO N f c' n) p := by rw [e0, askS, if_neg (Int32.not_lt.mpr h119)]
              refine z_iinc 139 [_, _, _, _, _, _, _, _, _] dX6_ask_136 rfl (show _ + _ = nI (_ + 1) from nI_1 _) (by decide) rfl rfl rfl ?_
              refine z_goto 94 dX6_ask_139 rfl ?_
              rw [e] at ih2
              exact ih2 _ s1 k1 _
            · skip
              have e : askI N f c' n (askO N f c' n) (p + 1) = (nI (10 * n + p), nI (wF N f c' n p)) := by rw [e0, askS, if_pos (Int32.not_le.mp h119)]
              refine z_iload 124 dX6_ask_122 rfl rfl ?_
              refine z_istore 126 [_, _, _, _, _, _, _, _, _] dX6_ask_124 (by decide) rfl rfl rfl ?_
              refine z_bipush 128 dX6_ask_126 vb10 rfl ?_
              refine z_iload 130 dX6_ask_128 rfl rfl ?_
              refine z_imulN 131 (show (10 : Int32) = nI 10 from rfl) rfl dX6_ask_130 rfl ?_
              refine z_iload 133 dX6_ask_131 rfl rfl ?_
              refine z_iaddN 134 rfl rfl dX6_ask_133 rfl ?_
              refine z_istore 136 [_, _, _, _, _, _, _, _, _] dX6_ask_134 (by decide) rfl rfl rfl ?_
              refine z_iinc 139 [_, _, _, _, _, _, _, _, _] dX6_ask_136 rfl (show _ + _ = nI (_ + 1) from nI_1 _) (by decide) rfl rfl rfl ?_
              refine z_goto 94 dX6_ask_139 rfl ?_
              rw [e] at ih2
              exact ih2 _ s1 k1 _
      · intro τ hτ hk
        have hcτ := hdc1 hc hτ
        refine z_iload 43 dX6_ask_41 rfl rfl ?_
        refine z_iconst 44 dX6_ask_43 vi4 rfl ?_
        refine z_icmp_ge_f 47 81 dX6_ask_44 rfl (nI_ge (b := 4) hi (by decide)) rfl ?_
        refine z_aload_n 48 dX6_ask_47 rfl rfl ?_
        refine y_getr 51 _ sh0 rfl fl_X6_27 dX6_ask_48 rfl ?_
        refine z_iload 53 dX6_ask_51 rfl rfl ?_
        refine y_aaB 54 _ i sh17 rfl hi (by decide) (aa17 hi) dX6_ask_53 rfl ?_
        refine z_aload_n 55 dX6_ask_54 rfl rfl ?_
        refine y_getr 58 _ sh0 rfl fl_X6_10 dX6_ask_55 rfl ?_
        refine y_cVv 61 _ (n_takeFrom (bka17 hi) bkm1 (by omega) hcτ) (bk0 (bka17 hi)) cv_X6_96 ⟨by decide, by decide, rfl, rfl⟩ (Nat.le_of_ble_eq_true rfl) dX6_ask_58 rfl rfl ?_
        refine z_aload_n 62 dX6_ask_61 rfl rfl ?_
        refine y_getr 65 _ sh0 rfl fl_X6_27 dX6_ask_62 rfl ?_
        refine z_iload 67 dX6_ask_65 rfl rfl ?_
        refine y_aaB 68 _ i sh17 rfl hi (by decide) (aa17 hi) dX6_ask_67 rfl ?_
        refine y_getr 71 _ (bk0 (bka17 hi)) rfl fl_X6_125 dX6_ask_68 rfl ?_
        refine z_iload_n 72 dX6_ask_71 rfl rfl ?_
        refine z_iload 74 dX6_ask_72 rfl rfl ?_
        refine p_st 75 c' (bk1 (bka17 hi)) rfl (by omega) rfl (by decide) dX6_ask_74 rfl ?_
        refine z_iinc 78 [_, _, _, _, _, _, _, _, _] dX6_ask_75 rfl (show _ + _ = nI (_ + 1) from nI_1 _) (by decide) rfl rfl rfl ?_
        refine z_goto 41 dX6_ask_78 rfl ?_
        rw [Nat.zero_add]
        exact ih _ (same_W (Q := kindQ N c' i) hτ hi) (fun j hj => by
            by_cases q : j = i
            · subst q; exact hds_sp (Q := kindQ N c' j)
            · exact hds_off (hk j (by omega)) (by omega))
    · have no := no (fun h => hw h.2)
      refine z_aload_n 1 dX6_ask_0 rfl rfl ?_
      refine y_getr 4 _ sh0 rfl fl_X6_10 dX6_ask_1 rfl ?_
      refine z_iload_n 5 dX6_ask_4 rfl rfl ?_
      refine y_cVs 8 _ (n_hasColour bkm1 hc ok) (bk0 bkm1) cv_X6_121 ⟨by decide, by decide, rfl, rfl⟩ (Nat.le_of_ble_eq_true rfl) dX6_ask_5 rfl rfl ?_
      refine z_if_eq_f 11 20 dX6_ask_8 rfl (by rw [bi_t hi]; decide) rfl ?_
      refine z_iload_n 12 dX6_ask_11 rfl rfl ?_
      refine z_iconst 13 dX6_ask_12 vi0 rfl ?_
      refine z_iconst 14 dX6_ask_13 vi1 rfl ?_
      refine y_cSs 17 (c_within) cs_X6_73 ⟨by decide, by decide, rfl, rfl⟩ (Nat.le_of_ble_eq_true rfl) dX6_ask_14 rfl rfl ?_
      rw [bw]
      refine z_if_ne_f 20 22 dX6_ask_17 rfl (bi_f hw) rfl ?_
      refine z_iconst 21 dX6_ask_20 vim1 rfl ?_
      refine z_iret hq rfl dX6_ask_21 rfl rfl ?_
      exact ⟨_, no, rfl⟩
  · have no := no (fun h => hi h.1)
    refine z_aload_n 1 dX6_ask_0 rfl rfl ?_
    refine y_getr 4 _ sh0 rfl fl_X6_10 dX6_ask_1 rfl ?_
    refine z_iload_n 5 dX6_ask_4 rfl rfl ?_
    refine y_cVs 8 _ (n_hasColour bkm1 hc ok) (bk0 bkm1) cv_X6_121 ⟨by decide, by decide, rfl, rfl⟩ (Nat.le_of_ble_eq_true rfl) dX6_ask_5 rfl rfl ?_
    refine z_if_eq_t 20 dX6_ask_8 rfl (bi_f hi) ?_
    refine z_iconst 21 dX6_ask_20 vim1 rfl ?_
    refine z_iret hq rfl dX6_ask_21 rfl rfl ?_
    exact ⟨_, no, rfl⟩

