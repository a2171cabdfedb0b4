/-! ===== more (reference), need ===== -/
theorem sum_one {f g : Nat → Nat} {p : Nat} : ∀ m, p < m → (∀ q, q < m → q ≠ p → f q = g q) → (sumN f m ≤ sumN g m ↔ f p ≤ g p)
  | 0, h, _ => by omega
  | m + 1, hp, h => by
    simp only [sumN]
    by_cases e : p = m
    · subst e
      rw [sumN_cg (f := f) (g := g) (fun i hi => h i (by omega) (by omega))]; omega
    · have ih := sum_one m (show p < m by omega) (fun q hq hne => h q (by omega) hne)
      rw [h m (by omega) (fun q => e q.symm)]; omega
theorem hdk_c56 {σ : Nat → Int32} {N R : Pg} (h : hdk σ 0 N) (e : eqc R N) : σ 63201 = nI (R 56) ∧ σ 63202 = nI (R 57) := ⟨by rw [e 56 (by decide)]; exact h 56 (by decide), by rw [e 57 (by decide)]; exact h 57 (by decide)⟩
theorem rsp_56 {τ : Nat → Int32} {o : Nat} {Q : Pg} (ho : o ≤ 275) : rsp τ o Q 63201 = nI (Q 56) ∧ rsp τ o Q 63202 = nI (Q 57) := ⟨ov_at (pR_at (i := 56) ho (by decide)), ov_at (pR_at (i := 57) ho (by decide))⟩
def lent2 (N : Pg) (p c n : Nat) : Pg := un (un N (20 + c) (N (20 + c) - n)) (33 + 5 * p + c) (N (33 + 5 * p + c) + n)
theorem lend_nat {N : Pg} {p c n : Nat} (ok : okQ N) (hp : p < N 57) (hc : c < N 56) (hn : 1 ≤ n ∧ n ≤ 99) : lendV N (nI p) (nI c) (nI n) = (if N (20 + c) < n ∨ 99 < N (33 + 5 * p + c) + n then -2 else nI (N (33 + 5 * p + c) + n)) ∧ lendQ N (nI p) (nI c) (nI n) = (if N (20 + c) < n ∨ 99 < N (33 + 5 * p + c) + n then N else lent2 N p c n) := by
  have h5 := ok.nc
  have h4 := ok.np
  have ep : nN (nI p) = p := nN_nI (by omega)
  have ec : nN (nI c) = c := nN_nI (by omega)
  have en : nN (nI n) = n := nN_nI (by omega)
  have yes : lendOk N (nI p) (nI c) (nI n) := ⟨(inR_nI (by omega)).mpr hp, (inR_nI (by omega)).mpr hc, nI_le (a := 1) hn.1 (by omega), nI_le (b := 99) hn.2 (by decide)⟩
  have e : lendNo N (nI p) (nI c) (nI n) ↔ (N (20 + c) < n ∨ 99 < N (33 + 5 * p + c) + n) := by simp only [lendNo, ep, ec, en]
  constructor
  · rw [lendV, if_pos yes]
    by_cases h : N (20 + c) < n ∨ 99 < N (33 + 5 * p + c) + n
    · rw [if_pos h, if_pos (e.mpr h)]
    · rw [if_neg h, if_neg (fun q => h (e.mp q)), ep, ec, en]
  · rw [lendQ]
    by_cases h : N (20 + c) < n ∨ 99 < N (33 + 5 * p + c) + n
    · rw [if_pos h, if_neg (fun q => q.2 (e.mpr h))]
    · rw [if_neg h, if_pos ⟨yes, fun q => h (e.mp q)⟩, ep, ec, en]; rfl
theorem more_iff {N E : Pg} {p c n : Nat} (ok : okQ N) (eE : eqc E N) (hp : p < N 57) (hc : c < 5) (hn : N (33 + 5 * p + c) + n ≤ 99) : daysA (nrm (lent2 E p c n)) 10 54 - N 54 ≤ daysA (nrm N) 10 54 - N 54 ↔ sz (lentQ N p c n) p 10 ≤ sz (nrm N) p 10 := by
  have h4 := ok.np
  have p4 : p < 4 := by omega
  have okn := okQ_nrm ok
  have h9 : E (33 + 5 * p + c) = N (33 + 5 * p + c) := eE _ (by omega)
  have okE := ok.eqc eE
  have okl : okQ (lent2 E p c n) := okQ_un (okQ_un okE (fun _ => by rw [bnd_v hc]; have := okE.vt hc; omega)) (fun _ => by rw [bnd_h' p4 hc]; omega)
  have oknl := okQ_nrm okl
  have l54 : nrm (lent2 E p c n) 54 = N 54 := by rw [nrm_c (by decide), lent2, un_n (by omega), un_n (by omega)]; exact eE 54 (by decide)
  have l57 : nrm (lent2 E p c n) 57 = N 57 := by rw [nrm_c (by decide), lent2, un_n (by omega), un_n (by omega)]; exact eE 57 (by decide)
  have n54 : nrm N 54 = N 54 := nrm_c (by decide)
  have n57 : nrm N 57 = N 57 := nrm_c (by decide)
  rw [daysA_sz oknl, daysA_sz okn, l54, l57, n54, n57, Nat.add_sub_cancel_left, Nat.add_sub_cancel_left]
  have hx : ∀ q, q < 4 → q ≠ p → eqS (pS q) (nrm (lent2 E p c n)) (nrm N) := fun q hq hne i hi => by
    unfold pS at hi
    rw [nrm_c (by omega), nrm_c (by omega), lent2, un_n (by omega), un_n (by omega)]; exact eE i (by omega)
  have hy : eqS (pS p) (nrm (lent2 E p c n)) (lentQ N p c n) := fun i hi => by
    unfold pS at hi
    rw [nrm_c (by omega), lent2, lentQ]
    by_cases e : i = 33 + 5 * p + c
    · subst e; rw [un_s, un_s, h9]
    · rw [un_n e, un_n (by omega), un_n e, nrm_c (by omega)]; exact eE i (by omega)
  rw [sum_one (N 57) hp (fun q hq hne => (sz_S (hx q (by omega) hne) oknl okn (by omega) 10).2), (sz_S hy oknl (okQ_lent ok p4 hc hn) p4 10).2]
set_option maxRecDepth 100000 in
set_option maxHeartbeats 2000000 in
theorem r_more {l : Launch} {G : zG} {σ : Nat → Int32} {N : Pg} {p c : Int32} (hc : hdk σ 0 N) (ok : okQ N) (hs : N 54 ≤ 1000000) : zMet l yX7_more mX7_more [.ref (zGa G 158), .int p, .int c] G (zW G σ) (zP G (pQ σ (vMore N p c))) := by
  have b5 := ok.nc
  have b4 := ok.np
  have no : ¬ (inR p (N 57) ∧ inR c (N 56)) → pQ σ (vMore N p c) (some (.int (-1))) σ := fun h => ⟨by rw [vMore, if_neg h], same.rf⟩
  refine zMet.of (by decide) rfl (Nat.le_of_ble_eq_true rfl) (Or.inr rfl) fun X hX hq => ?_
  subst hX
  show Y G X mX7_more σ 0 [some (.ref (zGa G 158)), some (.int p), some (.int c), none, none, none] []
  by_cases hp : inR p (N 57)
  · by_cases hi : inR c (N 56)
    · obtain ⟨p', hp', rfl⟩ := inR_of hp (by omega)
      obtain ⟨c', hc', rfl⟩ := inR_of hi (by omega)
      have p4 : p' < 4 := by omega
      have c5 : c' < 5 := by omega
      have b3 := ok.vt c5
      have b9 := ok.he p4 c5
      have okn := okQ_nrm ok
      have bB := (daysA_54 okn 10).2
      rw [nrm_c (show cor 54 by decide)] at bB
      have cnt : daysA (nrm N) 10 56 = N 56 ∧ daysA (nrm N) 10 57 = N 57 := ⟨(daysA_56 okn 10).1.trans (nrm_c (by decide)), (daysA_56 okn 10).2.1.trans (nrm_c (by decide))⟩
      have s0 : ∀ x, same (rsp (upd σ (400 * 158 + 22) x) 220 (daysA (nrm N) 10)) σ := fun x => same_dg hc cnt.1 cnt.2
      let g' : Nat → Bool := fun n => decide (n ≤ min (N (20 + c')) (99 - N (33 + 5 * p' + c'))) && moreB N p' c' n
      have cut : mostG g' 99 = moreV N p' c' := mostG_cut (m := min (N (20 + c')) (99 - N (33 + 5 * p' + c'))) (fun n _ h => by simp only [g', decide_eq_true h, Bool.true_and]) (fun n h => by simp only [g', decide_eq_false (Nat.not_le.mpr h), Bool.false_and]) 99 (by omega)
      have val : vMore N (nI p') (nI c') = nI (mostG g' 99) := by rw [cut, vMore, if_pos ⟨hp, hi⟩, nN_nI (by omega), nN_nI (by omega)]
      refine z_aload_n 1 dX7_more_0 rfl rfl ?_
      refine z_iload_n 2 dX7_more_1 rfl rfl ?_
      refine y_cVs 5 _ (q_isOne (o := 0) hc ok) sh158 cv_X7_182 ⟨by decide, by decide, rfl, rfl⟩ (Nat.le_of_ble_eq_true rfl) dX7_more_2 rfl rfl ?_
      refine z_if_eq_f 8 16 dX7_more_5 rfl (by rw [bi_t hp]; decide) rfl ?_
      refine z_aload_n 9 dX7_more_8 rfl rfl ?_
      refine z_iload_n 10 dX7_more_9 rfl rfl ?_
      refine y_cVs 13 _ (q_isColour (o := 0) hc ok) sh158 cv_X7_176 ⟨by decide, by decide, rfl, rfl⟩ (Nat.le_of_ble_eq_true rfl) dX7_more_10 rfl rfl ?_
      refine z_if_ne_t 18 dX7_more_13 rfl (by rw [bi_t hi]; decide) ?_
      refine z_aload_n 19 dX7_more_18 rfl rfl ?_
      refine z_iconst 20 dX7_more_19 vi0 rfl ?_
      refine z_bipush 22 dX7_more_20 vb10 rfl ?_
      refine y_cVs 25 _ (c_daysGo (o := 0) (n := 10) hc (by decide) ok (by decide) hs) sh158 cv_X7_222 ⟨by decide, by decide, rfl, rfl⟩ (Nat.le_of_ble_eq_true rfl) dX7_more_22 rfl rfl ?_
      refine z_istore_n 26 [_, _, _, _, _, _] dX7_more_25 (by decide) rfl rfl rfl ?_
      refine z_iconst 27 dX7_more_26 vi0 rfl ?_
      refine z_istore 29 [_, _, _, _, _, _] dX7_more_27 (by decide) rfl rfl rfl ?_
      refine z_iconst 30 dX7_more_29 vi1 rfl ?_
      refine z_istore 32 [_, _, _, _, _, _] dX7_more_30 (by decide) rfl rfl rfl ?_
      refine zup (P := fun k => ∀ τ, same τ σ → Y G X mX7_more τ 32 [some (.ref (zGa G 158)), some (.int (nI p')), some (.int (nI c')), some (.int (nI (daysA (nrm N) 10 54 - N 54))), some (.int (nI (mostG g' k))), some (.int (nI (k + 1)))] []) 99 ?_ (fun k hk ih => ?_) 0 (Nat.zero_le _) _ (s0 _)
      · intro τ hτ
        refine z_iload 34 dX7_more_32 rfl rfl ?_
        refine z_bipush 36 dX7_more_34 vb99 rfl ?_
        refine z_icmp_gt_t 84 dX7_more_36 rfl (by decide) ?_
        refine z_iload 86 dX7_more_84 rfl rfl ?_
        refine z_iret hq rfl dX7_more_86 rfl rfl ?_
        exact ⟨_, ⟨by rw [val], hτ⟩, rfl⟩
      · intro τ hτ
        have hcτ := hdk0 hc hτ
        have eE : eqc (exq τ 275 N) N := exq_c
        have cpe := cp_rsp hcτ (t := 275) (by decide) (by decide) (by decide)
        generalize exq τ 275 N = E at eE cpe
        have okE := ok.eqc eE
        have q8 : E (20 + c') = N (20 + c') := eE _ (by omega)
        have q9 : E (33 + 5 * p' + c') = N (33 + 5 * p' + c') := eE _ (by omega)
        obtain ⟨v1, v2⟩ := lend_nat (n := k + 1) okE (show p' < E 57 by rw [eE 57 (by decide)]; exact hp') (show c' < E 56 by rw [eE 56 (by decide)]; exact hc') ⟨by omega, by omega⟩
        rw [q8, q9] at v1 v2
        by_cases hno : N (20 + c') < k + 1 ∨ 99 < N (33 + 5 * p' + c') + (k + 1)
        · rw [if_pos hno] at v1 v2
          have hg : g' (k + 1) = false := by simp only [g', decide_eq_false (show ¬ (k + 1 ≤ min (N (20 + c')) (99 - N (33 + 5 * p' + c'))) by omega), Bool.false_and]
          have em : mostG g' (k + 1) = mostG g' k := by rw [mostG, hg]; rfl
          rw [em] at ih
          have s2 : same (rsp τ 275 E) σ := same_rsp hτ (by decide) (hdk_c56 hcτ eE).1 (hdk_c56 hcτ eE).2
          refine z_iload 34 dX7_more_32 rfl rfl ?_
          refine z_bipush 36 dX7_more_34 vb99 rfl ?_
          refine z_icmp_gt_f 39 84 dX7_more_36 rfl (nI_nlt (a := 99) (b := k + 1) (by omega) (by omega)) rfl ?_
          refine z_aload_n 40 dX7_more_39 rfl rfl ?_
          refine z_iconst 41 dX7_more_40 vi0 rfl ?_
          refine z_sipush 44 dX7_more_41 vs275 rfl ?_
          refine y_cVv 47 _ (c_copies (f := 0) (t := 275) (by decide) (by decide) (by decide)) sh158 cv_X7_212 ⟨by decide, by decide, rfl, rfl⟩ (Nat.le_of_ble_eq_true rfl) dX7_more_44 rfl rfl ?_
          rw [cpe]
          refine z_aload_n 48 dX7_more_47 rfl rfl ?_
          refine z_sipush 51 dX7_more_48 vs275 rfl ?_
          refine z_iload_n 52 dX7_more_51 rfl rfl ?_
          refine z_iload_n 53 dX7_more_52 rfl rfl ?_
          refine z_iload 55 dX7_more_53 rfl rfl ?_
          refine y_cVs 58 _ (c_lendsOn (o := 275) (hdr_rsp' (by decide)) (by decide) okE) sh158 cv_X7_199 ⟨by decide, by decide, rfl, rfl⟩ (Nat.le_of_ble_eq_true rfl) dX7_more_55 rfl rfl ?_
          rw [v1, v2, rsp_rsp]
          refine z_if_le_t 78 dX7_more_58 rfl (by decide) ?_
          refine z_iinc 81 [_, _, _, _, _, _] dX7_more_78 rfl (show _ + _ = nI (_ + 1) from nI_1 _) (by decide) rfl rfl rfl ?_
          refine z_goto 32 dX7_more_81 rfl ?_
          exact ih _ s2
        · rw [if_neg hno] at v1 v2
          have okl : okQ (lent2 E p' c' (k + 1)) := okQ_un (okQ_un okE (fun _ => by rw [bnd_v c5]; omega)) (fun _ => by rw [bnd_h' p4 c5]; omega)
          have l54 : lent2 E p' c' (k + 1) 54 = N 54 := by rw [lent2, un_n (by omega), un_n (by omega)]; exact eE 54 (by decide)
          have l56 : lent2 E p' c' (k + 1) 56 = N 56 := by rw [lent2, un_n (by omega), un_n (by omega)]; exact eE 56 (by decide)
          have l57 : lent2 E p' c' (k + 1) 57 = N 57 := by rw [lent2, un_n (by omega), un_n (by omega)]; exact eE 57 (by decide)
          have hm := more_iff (n := k + 1) ok eE hp' c5 (by omega)
          have okd := okQ_nrm okl
          have bD := (daysA_54 okd 10).2
          rw [nrm_c (show cor 54 by decide), l54] at bD
          have s1 : same (rsp τ 275 (lent2 E p' c' (k + 1))) σ := same_rsp hτ (by decide) (by rw [l56]; exact hcτ 56 (by decide)) (by rw [l57]; exact hcτ 57 (by decide))
          have s2 : ∀ x, same (rsp (upd (rsp τ 275 (lent2 E p' c' (k + 1))) (400 * 158 + 22) x) 220 (daysA (nrm (lent2 E p' c' (k + 1))) 10)) σ := fun x => same_d220 s1 (by rw [(rsp_56 (by decide)).1, (daysA_56 okd 10).1, nrm_c (by decide)]) (by rw [(rsp_56 (by decide)).2, (daysA_56 okd 10).2.1, nrm_c (by decide)])
          refine z_iload 34 dX7_more_32 rfl rfl ?_
          refine z_bipush 36 dX7_more_34 vb99 rfl ?_
          refine z_icmp_gt_f 39 84 dX7_more_36 rfl (nI_nlt (a := 99) (b := k + 1) (by omega) (by omega)) rfl ?_
          refine z_aload_n 40 dX7_more_39 rfl rfl ?_
          refine z_iconst 41 dX7_more_40 vi0 rfl ?_
          refine z_sipush 44 dX7_more_41 vs275 rfl ?_
          refine y_cVv 47 _ (c_copies (f := 0) (t := 275) (by decide) (by decide) (by decide)) sh158 cv_X7_212 ⟨by decide, by decide, rfl, rfl⟩ (Nat.le_of_ble_eq_true rfl) dX7_more_44 rfl rfl ?_
          rw [cpe]
          refine z_aload_n 48 dX7_more_47 rfl rfl ?_
          refine z_sipush 51 dX7_more_48 vs275 rfl ?_
          refine z_iload_n 52 dX7_more_51 rfl rfl ?_
          refine z_iload_n 53 dX7_more_52 rfl rfl ?_
          refine z_iload 55 dX7_more_53 rfl rfl ?_
          refine y_cVs 58 _ (c_lendsOn (o := 275) (hdr_rsp' (by decide)) (by decide) okE) sh158 cv_X7_199 ⟨by decide, by decide, rfl, rfl⟩ (Nat.le_of_ble_eq_true rfl) dX7_more_55 rfl rfl ?_
          rw [v1, v2, rsp_rsp]
          refine z_if_le_f 61 78 dX7_more_58 rfl (fun q => absurd ((nI_leI (b := 0) (by omega) (by decide)).mp q) (by omega)) rfl ?_
          refine z_aload_n 62 dX7_more_61 rfl rfl ?_
          refine z_sipush 65 dX7_more_62 vs275 rfl ?_
          refine z_bipush 67 dX7_more_65 vb10 rfl ?_
          refine y_cVs 70 _ (c_daysGo (o := 275) (n := 10) (hdr_rsp' (by decide)).k (by decide) okl (by decide) (by omega)) sh158 cv_X7_222 ⟨by decide, by decide, rfl, rfl⟩ (Nat.le_of_ble_eq_true rfl) dX7_more_67 rfl rfl ?_
          refine z_iload_n 71 dX7_more_70 rfl rfl ?_
          rw [l54]
          refine z_icmp_gt 78 74 dX7_more_71 rfl rfl (fun h71 => ?_) (fun h71 => ?_)
          · skip
            have hb : moreB N p' c' (k + 1) = false := by
                have q := (nI_ltI (by omega) (by omega)).mp h71
                exact decide_eq_false (fun z => absurd (hm.mpr z) (by omega))
            have em : mostG g' (k + 1) = mostG g' k := by rw [mostG, show g' (k + 1) = false by simp only [g', hb, Bool.and_false]]; rfl
            refine z_iinc 81 [_, _, _, _, _, _] dX7_more_78 rfl (show _ + _ = nI (_ + 1) from nI_1 _) (by decide) rfl rfl rfl ?_
            refine z_goto 32 dX7_more_81 rfl ?_
            rw [em] at ih
            exact ih _ (s2 _)
          · skip
            have hb : moreB N p' c' (k + 1) = true := by
                refine decide_eq_true (hm.mp ?_)
                rcases Nat.lt_or_ge (daysA (nrm N) 10 54 - N 54) (daysA (nrm (lent2 E p' c' (k + 1))) 10 54 - N 54) with q | q
                · exact absurd (nI_lt q (by omega)) h71
                · exact q
            have em : mostG g' (k + 1) = k + 1 := by rw [mostG, show g' (k + 1) = true by simp only [g', hb, Bool.and_true]; exact decide_eq_true (by omega)]; rfl
            refine z_iload 76 dX7_more_74 rfl rfl ?_
            refine z_istore 78 [_, _, _, _, _, _] dX7_more_76 (by decide) rfl rfl rfl ?_
            refine z_iinc 81 [_, _, _, _, _, _] dX7_more_78 rfl (show _ + _ = nI (_ + 1) from nI_1 _) (by decide) rfl rfl rfl ?_
            refine z_goto 32 dX7_more_81 rfl ?_
            rw [em] at ih
            exact ih _ (s2 _)
    · have no := no (fun h => hi h.2)
      refine z_aload_n 1 dX7_more_0 rfl rfl ?_
      refine z_iload_n 2 dX7_more_1 rfl rfl ?_
      refine y_cVs 5 _ (q_isOne (o := 0) hc ok) sh158 cv_X7_182 ⟨by decide, by decide, rfl, rfl⟩ (Nat.le_of_ble_eq_true rfl) dX7_more_2 rfl rfl ?_
      refine z_if_eq_f 8 16 dX7_more_5 rfl (by rw [bi_t hp]; decide) rfl ?_
      refine z_aload_n 9 dX7_more_8 rfl rfl ?_
      refine z_iload_n 10 dX7_more_9 rfl rfl ?_
      refine y_cVs 13 _ (q_isColour (o := 0) hc ok) sh158 cv_X7_176 ⟨by decide, by decide, rfl, rfl⟩ (Nat.le_of_ble_eq_true rfl) dX7_more_10 rfl rfl ?_
      refine z_if_ne_f 16 18 dX7_more_13 rfl (bi_f hi) rfl ?_
      refine z_iconst 17 dX7_more_16 vim1 rfl ?_
      refine z_iret hq rfl dX7_more_17 rfl rfl ?_
      exact ⟨_, no, rfl⟩
  · have no := no (fun h => hp h.1)
    refine z_aload_n 1 dX7_more_0 rfl rfl ?_
    refine z_iload_n 2 dX7_more_1 rfl rfl ?_
    refine y_cVs 5 _ (q_isOne (o := 0) hc ok) sh158 cv_X7_182 ⟨by decide, by decide, rfl, rfl⟩ (Nat.le_of_ble_eq_true rfl) dX7_more_2 rfl rfl ?_
    refine z_if_eq_t 16 dX7_more_5 rfl (bi_f hp) ?_
    refine z_iconst 17 dX7_more_16 vim1 rfl ?_
    refine z_iret hq rfl dX7_more_17 rfl rfl ?_
    exact ⟨_, no, rfl⟩

