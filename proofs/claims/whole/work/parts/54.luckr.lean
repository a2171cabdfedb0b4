/-! ===== luck, mean of the reference ===== -/
def smA (v : Nat) (p : Option Nat) (h : Nat) : Nat → Pg → Nat
  | 0, Q => lk p h Q
  | k + 1, Q => v * smA v p h k (dayA Q 2) + (10 - v) * smA v p h k (dayA Q 1)
theorem smA_n {v h : Nat} : ∀ k Q, smA v none h k Q = sm v none h k Q
  | 0, _ => rfl
  | k + 1, Q => by rw [smA, sm, smA_n k, smA_n k]; rfl
theorem smA_s {v h p : Nat} (hp : p < 4) : ∀ k {Q R : Pg}, eqS (pS p) Q R → okQ Q → okQ R → p < Q 57 → smA v (some p) h k Q = sm v (some p) h k R
  | 0, _, _, e, _, or_, _ => by simp only [smA, sm, lk]; rw [hueQ_S e or_.nc]
  | k + 1, Q, R, e, oq, or_, h57 => by
    have st : ∀ t, smA v (some p) h k (dayA Q t) = sm v (some p) h k (stp (some p) R t) := fun t =>
      smA_s hp k ((dayA_S (t := t) oq h57).trans (dayO_S e hp or_.nc).1) (okQ_dayA oq) (okQ_dayO or_ hp) (by rw [(dayA_56 oq).2.1]; exact h57)
    rw [smA, sm, st, st]
def wt (v : Nat) : Nat → Nat → Nat
  | 0, _ => 1
  | n + 1, s => (if s % 2 = 1 then v else 10 - v) * wt v n (s / 2)
def pgs : Nat → Nat → Pg → Pg
  | 0, _, Q => Q
  | n + 1, s, Q => pgs n (s / 2) (dayA Q (if s % 2 = 1 then 2 else 1))
theorem sumN_two {f : Nat → Nat} : ∀ m, sumN f (2 * m) = sumN (fun i => f (2 * i) + f (2 * i + 1)) m
  | 0 => rfl
  | m + 1 => by rw [show 2 * (m + 1) = 2 * m + 1 + 1 by omega, sumN, sumN, sumN, sumN_two m]; omega
theorem sumN_pl {f g : Nat → Nat} : ∀ m, sumN (fun i => f i + g i) m = sumN f m + sumN g m
  | 0 => rfl
  | m + 1 => by rw [sumN, sumN, sumN, sumN_pl m]; omega
theorem sumN_mu {f : Nat → Nat} {c : Nat} : ∀ m, sumN (fun i => c * f i) m = c * sumN f m
  | 0 => rfl
  | m + 1 => by rw [sumN, sumN, sumN_mu m, Nat.mul_add]
theorem sum_wt {v h : Nat} {p : Option Nat} : ∀ n Q, sumN (fun s => wt v n s * lk p h (pgs n s Q)) (2 ^ n) = smA v p h n Q
  | 0, Q => by
    show 0 + 1 * lk p h Q = lk p h Q
    omega
  | n + 1, Q => by
    rw [Nat.pow_succ, Nat.mul_comm, sumN_two, smA, ← sum_wt n, ← sum_wt n, ← sumN_mu, ← sumN_mu, ← sumN_pl]
    refine sumN_cg fun i _ => ?_
    have e1 : wt v (n + 1) (2 * i) = (10 - v) * wt v n i := by rw [wt, if_neg (by omega), show 2 * i / 2 = i by omega]
    have e2 : wt v (n + 1) (2 * i + 1) = v * wt v n i := by rw [wt, if_pos (by omega), show (2 * i + 1) / 2 = i by omega]
    have e3 : pgs (n + 1) (2 * i) Q = pgs n i (dayA Q 1) := by rw [pgs, if_neg (by omega), show 2 * i / 2 = i by omega]
    have e4 : pgs (n + 1) (2 * i + 1) Q = pgs n i (dayA Q 2) := by rw [pgs, if_pos (by omega), show (2 * i + 1) / 2 = i by omega]
    rw [e1, e2, e3, e4, Nat.mul_assoc, Nat.mul_assoc, Nat.add_comm]
theorem okQ_pgs : ∀ n s {Q : Pg}, okQ Q → okQ (pgs n s Q)
  | 0, _, _, ok => ok
  | n + 1, s, _, ok => okQ_pgs n (s / 2) (okQ_dayA ok)
theorem pgs_c : ∀ n s {Q R : Pg}, eqc Q R → okQ R → eqc (pgs n s Q) (pgs n s R)
  | 0, _, _, _, e, _ => e
  | n + 1, s, _, _, e, ok => pgs_c n (s / 2) (dayA_c e ok) (okQ_dayA ok)
set_option maxRecDepth 100000 in
theorem c_lowest {l : Launch} {G : zG} {σ : Nat → Int32} {a b w : Nat} (ha : a < 2 ^ 62) (hb : b ≤ 100000000) (hb0 : 0 < b) (hw : w < 2) : zMet l yX7_lowest mX7_lowest [.long (lN a), .long (lN b), .int (nI w)] G (zW G σ) (zFn G (some (.long (lowV a b w))) σ) := by
  have g0 : 0 < Nat.gcd a b := Nat.gcd_pos_of_pos_right _ hb0
  have gl : Nat.gcd a b ≤ b := Nat.gcd_le_right _ hb0
  refine zMet.of (by decide) rfl (Nat.le_of_ble_eq_true rfl) (Or.inr rfl) fun X hX hq => ?_
  subst hX
  show Y G X mX7_lowest σ 0 [some (.long (lN a)), none, some (.long (lN b)), none, some (.int (nI w)), none, none, none, none, none, none] []
  have key : ∀ m y x u, y ≤ m → Nat.gcd x y = Nat.gcd a b → x < 2 ^ 62 → y ≤ 100000000 → Y G X mX7_lowest σ 6 [some (.long (lN a)), none, some (.long (lN b)), none, some (.int (nI w)), some (.long (lN x)), none, some (.long (lN y)), none, u, none] [] := by
    intro m
    induction m with
    | zero =>
      intro y x u hm hg hx hy
      obtain rfl : y = 0 := Nat.le_zero.mp hm
      rw [Nat.gcd_zero_right] at hg
      subst hg
      have ng : ¬ lN (Nat.gcd a b) = 0 := fun z => absurd ((pk_lEQ (b := 0) (by omega) (by omega)).mp z) (by omega)
      have hd := pk_lDiv (a := a) (b := Nat.gcd a b) (by omega) g0 (by omega)
      have hd2 := pk_lDiv (a := b) (b := Nat.gcd a b) (by omega) g0 (by omega)
      refine z_lload 8 dX7_lowest_6 rfl rfl ?_
      refine z_lconst 9 dX7_lowest_8 vl0 rfl ?_
      refine z_lcmp 10 dX7_lowest_9 rfl ?_
      refine z_if_eq_t 31 dX7_lowest_10 rfl (lgc_eq.mpr rfl) ?_
      refine z_iload 33 dX7_lowest_31 rfl rfl ?_
      refine z_if_ne 40 36 dX7_lowest_33 rfl rfl (fun h33 => ?_) (fun h33 => ?_)
      · skip
        have w0 : w ≠ 0 := fun q => h33 (by rw [q]; rfl)
        refine z_lload_n 41 dX7_lowest_40 rfl rfl ?_
        refine z_lload 43 dX7_lowest_41 rfl rfl ?_
        refine z_ldiv 44 dX7_lowest_43 ng rfl ?_
        refine z_lret hq rfl dX7_lowest_44 rfl rfl ?_
        exact ⟨by rw [hd2, lowV, if_neg w0], rfl⟩
      · skip
        have w0 : w = 0 := nI_eqL (b := 0) (by omega) (by decide) h33
        refine z_lload_n 37 dX7_lowest_36 rfl rfl ?_
        refine z_goto 41 dX7_lowest_37 rfl ?_
        refine z_lload 43 dX7_lowest_41 rfl rfl ?_
        refine z_ldiv 44 dX7_lowest_43 ng rfl ?_
        refine z_lret hq rfl dX7_lowest_44 rfl rfl ?_
        exact ⟨by rw [hd, lowV, if_pos w0], rfl⟩
    | succ m ih =>
      intro y x u hm hg hx hy
      rcases Nat.eq_zero_or_pos y with q | q
      · exact ih y x u (by omega) hg hx hy
      · have e := pk_lRem (a := x) (b := y) (by omega) q (by omega)
        have ny : ¬ lN y = 0 := fun z => absurd ((pk_lEQ (a := y) (b := 0) (by omega) (by omega)).mp z) (by omega)
        have ml := Nat.mod_lt x q
        refine z_lload 8 dX7_lowest_6 rfl rfl ?_
        refine z_lconst 9 dX7_lowest_8 vl0 rfl ?_
        refine z_lcmp 10 dX7_lowest_9 rfl ?_
        refine z_if_eq_f 13 31 dX7_lowest_10 rfl (fun z => ny (lgc_eq.mp z)) rfl ?_
        refine z_lload 15 dX7_lowest_13 rfl rfl ?_
        refine z_lload 17 dX7_lowest_15 rfl rfl ?_
        refine z_lrem 18 dX7_lowest_17 ny rfl ?_
        rw [e]
        refine z_lstore 20 [_, _, _, _, _, _, _, _, _, _, _] dX7_lowest_18 (by decide) rfl rfl rfl ?_
        refine z_lload 22 dX7_lowest_20 rfl rfl ?_
        refine z_lstore 24 [_, _, _, _, _, _, _, _, _, _, _] dX7_lowest_22 (by decide) rfl rfl rfl ?_
        refine z_lload 26 dX7_lowest_24 rfl rfl ?_
        refine z_lstore 28 [_, _, _, _, _, _, _, _, _, _, _] dX7_lowest_26 (by decide) rfl rfl rfl ?_
        refine z_goto 6 dX7_lowest_28 rfl ?_
        exact ih (x % y) y _ (by omega) ((gcd_st q).trans hg) (by omega) (by omega)
  refine z_lload_n 1 dX7_lowest_0 rfl rfl ?_
  refine z_lstore 3 [_, _, _, _, _, _, _, _, _, _, _] dX7_lowest_1 (by decide) rfl rfl rfl ?_
  refine z_lload_n 4 dX7_lowest_3 rfl rfl ?_
  refine z_lstore 6 [_, _, _, _, _, _, _, _, _, _, _] dX7_lowest_4 (by decide) rfl rfl rfl ?_
  exact key b b a _ (Nat.le_refl _) rfl ha hb
theorem sh1 : ∀ n, n < 9 → (1 : Int32) <<< (nI n &&& 31) = nI (2 ^ n) := by decide +kernel
def whR (p : Option Nat) : Int32 := match p with
  | none => -4
  | some p => nI p
theorem nI_ne_m4 {a : Nat} (h : a < 2 ^ 31) : ¬ nI a = -4 := fun q => by
  have := congrArg Int32.toInt q
  rw [nI_toInt h, show (-4 : Int32).toInt = -4 from rfl] at this
  omega
set_option maxRecDepth 100000 in
set_option maxHeartbeats 4000000 in
theorem c_bySun {l : Launch} {G : zG} {σ : Nat → Int32} {N : Pg} {p : Option Nat} {h v n w : Nat} (hc : hdk σ 0 N) (ok : okQ N) (op : okp p) (hh : h < 1000) (hv : v ≤ 10) (hn : n ≤ 8) (hw : w < 2) : zMet l yX7_bySun mX7_bySun [.ref (zGa G 158), .int (nI v), .int (whR p), .int (nI n), .int (nI h), .int (nI w)] G (zW G σ) (zP G (pQL σ (lowV (smA v p h n N) (10 ^ n) w))) := by
  have p8 := pow10_le hn
  have p0 : 0 < 10 ^ n := Nat.pow_pos (by decide)
  have sle : ∀ k Q, okQ Q → smA v p h k Q ≤ 10 ^ k * 1980 := by
    intro k
    induction k with
    | zero => intro Q oq; rw [smA, Nat.pow_zero, Nat.one_mul]; exact lk_le oq
    | succ k ih =>
      intro Q oq
      have e1 := Nat.mul_le_mul_left v (ih _ (okQ_dayA (t := 2) oq))
      have e2 := Nat.mul_le_mul_left (10 - v) (ih _ (okQ_dayA (t := 1) oq))
      have e3 : v * (10 ^ k * 1980) + (10 - v) * (10 ^ k * 1980) = 10 * (10 ^ k * 1980) := by rw [← Nat.add_mul]; congr 1; omega
      have e4 : 10 ^ (k + 1) * 1980 = 10 * (10 ^ k * 1980) := by rw [Nat.pow_succ, Nat.mul_comm (10 ^ k) 10, Nat.mul_assoc]
      rw [smA, e4]; omega
  have sl2 : smA v p h n N ≤ 100000000 * 1980 := Nat.le_trans (sle n N ok) (Nat.mul_le_mul_right _ p8)
  have n2 : 2 ^ n ≤ 256 := Nat.pow_le_pow_right (n := 2) (by decide) hn
  have hdr_rsp : ∀ {τ : Nat → Int32} {R : Pg}, hdr (rsp τ 220 R) 220 R := hdr_rsp' (by decide)
  have sh := sh1 n (by omega)
  have tot := sum_wt (v := v) (h := h) (p := p) n N
  generalize hf : (fun s => wt v n s * lk p h (pgs n s N)) = f at tot
  refine zMet.of (by decide) rfl (Nat.le_of_ble_eq_true rfl) (Or.inr rfl) fun X hX hq => ?_
  subst hX
  show Y G X mX7_bySun σ 0 [some (.ref (zGa G 158)), some (.int (nI v)), some (.int (whR p)), some (.int (nI n)), some (.int (nI h)), some (.int (nI w)), none, none, none, none, none, none, none, none, none] []
  refine z_lconst 1 dX7_bySun_0 vl0 rfl ?_
  refine z_lstore 3 [_, _, _, _, _, _, _, _, _, _, _, _, _, _, _] dX7_bySun_1 (by decide) rfl rfl rfl ?_
  refine z_lconst 4 dX7_bySun_3 vl1 rfl ?_
  refine z_lstore 6 [_, _, _, _, _, _, _, _, _, _, _, _, _, _, _] dX7_bySun_4 (by decide) rfl rfl rfl ?_
  refine z_iconst 7 dX7_bySun_6 vi0 rfl ?_
  refine z_istore 9 [_, _, _, _, _, _, _, _, _, _, _, _, _, _, _] dX7_bySun_7 (by decide) rfl rfl rfl ?_
  refine zup (P := fun i => Y G X mX7_bySun σ 9 [some (.ref (zGa G 158)), some (.int (nI v)), some (.int (whR p)), some (.int (nI n)), some (.int (nI h)), some (.int (nI w)), some (.long (lN 0)), none, some (.long (lN (10 ^ i))), none, some (.int (nI i)), none, none, none, none] []) n ?_ (fun i hi ih => ?_) 0 (Nat.zero_le _)
  · skip
    refine z_iload 11 dX7_bySun_9 rfl rfl ?_
    refine z_iload_n 12 dX7_bySun_11 rfl rfl ?_
    refine z_icmp_ge_t 29 dX7_bySun_12 rfl (Int32.le_refl _) ?_
    refine z_iconst 30 dX7_bySun_29 vi0 rfl ?_
    refine z_istore 32 [_, _, _, _, _, _, _, _, _, _, _, _, _, _, _] dX7_bySun_30 (by decide) rfl rfl rfl ?_
    refine zup (P := fun s => ∀ τ u1 u2 u3, same τ σ → Y G X mX7_bySun τ 32 [some (.ref (zGa G 158)), some (.int (nI v)), some (.int (whR p)), some (.int (nI n)), some (.int (nI h)), some (.int (nI w)), some (.long (lN (sumN f s))), none, some (.long (lN (10 ^ n))), none, some (.int (nI s)), u1, none, u2, u3] []) (2 ^ n) ?_ (fun s hs ih => ?_) 0 (Nat.zero_le _) _ _ _ _ same.rf
    · intro τ u1 u2 u3 hτ
      rw [tot]
      refine z_iload 34 dX7_bySun_32 rfl rfl ?_
      refine z_iconst 35 dX7_bySun_34 vi1 rfl ?_
      refine z_iload_n 36 dX7_bySun_35 rfl rfl ?_
      refine z_ishl 37 dX7_bySun_36 rfl ?_
      rw [sh]
      refine z_icmp_ge_t 170 dX7_bySun_37 rfl (Int32.le_refl _) ?_
      refine z_lload 172 dX7_bySun_170 rfl rfl ?_
      refine z_lload 174 dX7_bySun_172 rfl rfl ?_
      refine z_iload 176 dX7_bySun_174 rfl rfl ?_
      refine y_cSs 179 (c_lowest (by omega) p8 p0 hw) cs_X7_241 ⟨by decide, by decide, rfl, rfl⟩ (Nat.le_of_ble_eq_true rfl) dX7_bySun_176 rfl rfl ?_
      refine z_lret hq rfl dX7_bySun_179 rfl rfl ?_
      exact ⟨_, ⟨rfl, hτ⟩, rfl⟩
    · intro τ u1 u2 u3 hτ
      have hcτ := hdk0 hc hτ
      have eE : eqc (exq τ 220 N) N := exq_c
      have cpe := cp_rsp hcτ (t := 220) (by decide) (by decide) (by decide)
      generalize exq τ 220 N = E at eE cpe
      have okE := ok.eqc eE
      have fs : f s = wt v n s * lk p h (pgs n s N) := by rw [← hf]
      refine z_iload 34 dX7_bySun_32 rfl rfl ?_
      refine z_iconst 35 dX7_bySun_34 vi1 rfl ?_
      refine z_iload_n 36 dX7_bySun_35 rfl rfl ?_
      refine z_ishl 37 dX7_bySun_36 rfl ?_
      rw [sh]
      refine z_icmp_ge_f 40 170 dX7_bySun_37 rfl (nI_ge hs (by omega)) rfl ?_
      refine z_lconst 41 dX7_bySun_40 vl1 rfl ?_
      refine z_lstore 43 [_, _, _, _, _, _, _, _, _, _, _, _, _, _, _] dX7_bySun_41 (by decide) rfl rfl rfl ?_
      refine z_aload_n 44 dX7_bySun_43 rfl rfl ?_
      refine z_iconst 45 dX7_bySun_44 vi0 rfl ?_
      refine z_sipush 48 dX7_bySun_45 vs220 rfl ?_
      refine y_cVv 51 _ (c_copies (f := 0) (t := 220) (by decide) (by decide) (by decide)) sh158 cv_X7_212 ⟨by decide, by decide, rfl, rfl⟩ (Nat.le_of_ble_eq_true rfl) dX7_bySun_48 rfl rfl ?_
      rw [cpe]
      refine z_iconst 52 dX7_bySun_51 vi0 rfl ?_
      refine z_istore 54 [_, _, _, _, _, _, _, _, _, _, _, _, _, _, _] dX7_bySun_52 (by decide) rfl rfl rfl ?_
      refine zup (P := fun k => ∀ R o u3, o * wt v (n - k) (s / 2 ^ k) = wt v n s → lk p h (pgs (n - k) (s / 2 ^ k) R) = lk p h (pgs n s N) → okQ R → R 56 = N 56 → R 57 = N 57 → Y G X mX7_bySun (rsp τ 220 R) 54 [some (.ref (zGa G 158)), some (.int (nI v)), some (.int (whR p)), some (.int (nI n)), some (.int (nI h)), some (.int (nI w)), some (.long (lN (sumN f s))), none, some (.long (lN (10 ^ n))), none, some (.int (nI s)), some (.long (lN o)), none, some (.int (nI k)), u3] []) n ?_ (fun k hk ih2 => ?_) 0 (Nat.zero_le _) E 1 _ (by rw [Nat.pow_zero, Nat.div_one, Nat.one_mul]; rfl) (by rw [Nat.pow_zero, Nat.div_one]; exact lk_c (pgs_c n s eE ok) (okQ_pgs n s ok) op) okE (eE 56 (by decide)) (eE 57 (by decide))
      · intro R o u3 g1 g2 g3 g4 g5
        rw [Nat.sub_self, wt, Nat.mul_one] at g1
        rw [Nat.sub_self, pgs] at g2
        have s2 : same (rsp τ 220 R) σ := same_rsp hτ (by decide) (by rw [g4]; exact hcτ 56 (by decide)) (by rw [g5]; exact hcτ 57 (by decide))
        have fin : lN (sumN f s) + lN o * lN (lk p h R) = lN (sumN f (s + 1)) := by rw [lN_mul, lN_add, sumN, fs, g1, g2]
        have ih' := ih (rsp τ 220 R) (some (.long (lN o))) (some (.int (nI n))) u3 s2
        rw [← fin] at ih'
        cases p with
        | none =>
          have hl := heldA_le g3
          have el : (nI (heldA R)).toInt64 = lN (lk none h R) := nI_l (by omega)
          refine z_iload 56 dX7_bySun_54 rfl rfl ?_
          refine z_iload_n 57 dX7_bySun_56 rfl rfl ?_
          refine z_icmp_ge_t 121 dX7_bySun_57 rfl (Int32.le_refl _) ?_
          refine z_lload 123 dX7_bySun_121 rfl rfl ?_
          refine z_lload 125 dX7_bySun_123 rfl rfl ?_
          refine z_iload_n 126 dX7_bySun_125 rfl rfl ?_
          refine z_bipush 128 dX7_bySun_126 vbm4 rfl ?_
          refine z_icmp_ne_f 131 141 dX7_bySun_128 rfl (rfl) rfl ?_
          refine z_aload_n 132 dX7_bySun_131 rfl rfl ?_
          refine z_sipush 135 dX7_bySun_132 vs220 rfl ?_
          refine y_cVs 138 _ (c_heldByAll7 (o := 220) hdr_rsp (by decide) g3.nc g3.np) sh158 cv_X7_173 ⟨by decide, by decide, rfl, rfl⟩ (Nat.le_of_ble_eq_true rfl) dX7_bySun_135 rfl rfl ?_
          refine z_goto 159 dX7_bySun_138 rfl ?_
          refine z_i2l 160 dX7_bySun_159 rfl ?_
          rw [el]
          refine z_lmul 161 dX7_bySun_160 rfl ?_
          refine z_ladd 162 dX7_bySun_161 rfl ?_
          refine z_lstore 164 [_, _, _, _, _, _, _, _, _, _, _, _, _, _, _] dX7_bySun_162 (by decide) rfl rfl rfl ?_
          refine z_iinc 167 [_, _, _, _, _, _, _, _, _, _, _, _, _, _, _] dX7_bySun_164 rfl (show _ + _ = nI (_ + 1) from nI_1 _) (by decide) rfl rfl rfl ?_
          refine z_goto 32 dX7_bySun_167 rfl ?_
          exact ih'
        | some q =>
          have q4 := op q rfl
          have hl := hueQ_lt g3 q4
          refine z_iload 56 dX7_bySun_54 rfl rfl ?_
          refine z_iload_n 57 dX7_bySun_56 rfl rfl ?_
          refine z_icmp_ge_t 121 dX7_bySun_57 rfl (Int32.le_refl _) ?_
          refine z_lload 123 dX7_bySun_121 rfl rfl ?_
          refine z_lload 125 dX7_bySun_123 rfl rfl ?_
          refine z_iload_n 126 dX7_bySun_125 rfl rfl ?_
          refine z_bipush 128 dX7_bySun_126 vbm4 rfl ?_
          refine z_icmp_ne_t 141 dX7_bySun_128 rfl (nI_ne_m4 (by omega)) ?_
          refine z_aload_n 142 dX7_bySun_141 rfl rfl ?_
          refine z_sipush 145 dX7_bySun_142 vs220 rfl ?_
          refine z_iload_n 146 dX7_bySun_145 rfl rfl ?_
          refine y_cVs 149 _ (c_hueOn (o := 220) hdr_rsp (by decide) g3 q4) sh158 cv_X7_185 ⟨by decide, by decide, rfl, rfl⟩ (Nat.le_of_ble_eq_true rfl) dX7_bySun_146 rfl rfl ?_
          refine z_iload 151 dX7_bySun_149 rfl rfl ?_
          refine z_icmp_ne 158 154 dX7_bySun_151 rfl rfl (fun h151 => ?_) (fun h151 => ?_)
          · skip
            have e : lk (some q) h R = 0 := if_neg (fun z => h151 (by rw [z]))
            refine z_iconst 159 dX7_bySun_158 vi0 rfl ?_
            refine z_i2l 160 dX7_bySun_159 rfl ?_
            refine z_lmul 161 dX7_bySun_160 rfl ?_
            refine z_ladd 162 dX7_bySun_161 rfl ?_
            refine z_lstore 164 [_, _, _, _, _, _, _, _, _, _, _, _, _, _, _] dX7_bySun_162 (by decide) rfl rfl rfl ?_
            refine z_iinc 167 [_, _, _, _, _, _, _, _, _, _, _, _, _, _, _] dX7_bySun_164 rfl (show _ + _ = nI (_ + 1) from nI_1 _) (by decide) rfl rfl rfl ?_
            refine z_goto 32 dX7_bySun_167 rfl ?_
            rw [e] at ih'
            exact ih'
          · skip
            have e : lk (some q) h R = 1 := if_pos (nI_eqL (by omega) (by omega) h151)
            refine z_iconst 155 dX7_bySun_154 vi1 rfl ?_
            refine z_goto 159 dX7_bySun_155 rfl ?_
            refine z_i2l 160 dX7_bySun_159 rfl ?_
            refine z_lmul 161 dX7_bySun_160 rfl ?_
            refine z_ladd 162 dX7_bySun_161 rfl ?_
            refine z_lstore 164 [_, _, _, _, _, _, _, _, _, _, _, _, _, _, _] dX7_bySun_162 (by decide) rfl rfl rfl ?_
            refine z_iinc 167 [_, _, _, _, _, _, _, _, _, _, _, _, _, _, _] dX7_bySun_164 rfl (show _ + _ = nI (_ + 1) from nI_1 _) (by decide) rfl rfl rfl ?_
            refine z_goto 32 dX7_bySun_167 rfl ?_
            rw [e] at ih'
            exact ih'
      · intro R o u3 g1 g2 g3 g4 g5
        have nk : n - k = (n - (k + 1)) + 1 := by omega
        have sk : s / 2 ^ k / 2 = s / 2 ^ (k + 1) := by rw [Nat.pow_succ, Nat.div_div_eq_div_mul]
        rw [nk, wt, sk, ← Nat.mul_assoc] at g1
        rw [nk, pgs, sk] at g2
        have sb : (nI s >>> (nI k &&& 31)) &&& 1 = nI (s / 2 ^ k % 2) := by
          rw [pk_shrN (by omega) _ k (sh_k k (by omega))]
          exact pk_andN (Nat.lt_of_le_of_lt (Nat.div_le_self _ _) (by omega)) 1 (by decide)
        have l1 : (nI v).toInt64 = lN v := nI_l (by omega)
        have l2 : (nI (10 - v)).toInt64 = lN (10 - v) := nI_l (by omega)
        have c6 : ∀ t, dayA R t 56 = N 56 ∧ dayA R t 57 = N 57 := fun t => ⟨(dayA_56 g3).1.trans g4, (dayA_56 g3).2.1.trans g5⟩
        refine z_iload 56 dX7_bySun_54 rfl rfl ?_
        refine z_iload_n 57 dX7_bySun_56 rfl rfl ?_
        refine z_icmp_ge_f 60 121 dX7_bySun_57 rfl (nI_ge hk (by omega)) rfl ?_
        refine z_iload 62 dX7_bySun_60 rfl rfl ?_
        refine z_iload 64 dX7_bySun_62 rfl rfl ?_
        refine z_ishr 65 dX7_bySun_64 rfl ?_
        refine z_iconst 66 dX7_bySun_65 vi1 rfl ?_
        refine z_iand 67 dX7_bySun_66 rfl ?_
        rw [sb]
        refine z_iconst 68 dX7_bySun_67 vi1 rfl ?_
        refine z_icmp_ne 75 71 dX7_bySun_68 rfl rfl (fun h68 => ?_) (fun h68 => ?_)
        · skip
          have e : ¬ s / 2 ^ k % 2 = 1 := fun z => h68 (by rw [z]; rfl)
          rw [if_neg e] at g1 g2
          refine z_iconst 76 dX7_bySun_75 vi0 rfl ?_
          refine z_istore 78 [_, _, _, _, _, _, _, _, _, _, _, _, _, _, _] dX7_bySun_76 (by decide) rfl rfl rfl ?_
          refine z_lload 80 dX7_bySun_78 rfl rfl ?_
          refine z_iload 82 dX7_bySun_80 rfl rfl ?_
          refine z_if_eq_t 90 dX7_bySun_82 rfl (rfl) ?_
          refine z_bipush 92 dX7_bySun_90 vb10 rfl ?_
          refine z_iload_n 93 dX7_bySun_92 rfl rfl ?_
          refine z_isubN 94 (show (10 : Int32) = nI 10 from rfl) rfl (show v ≤ 10 by omega) dX7_bySun_93 rfl ?_
          refine z_i2l 95 dX7_bySun_94 rfl ?_
          rw [l2]
          refine z_lmul 96 dX7_bySun_95 rfl ?_
          rw [lN_mul]
          refine z_lstore 98 [_, _, _, _, _, _, _, _, _, _, _, _, _, _, _] dX7_bySun_96 (by decide) rfl rfl rfl ?_
          refine z_aload_n 99 dX7_bySun_98 rfl rfl ?_
          refine z_sipush 102 dX7_bySun_99 vs220 rfl ?_
          refine z_iload 104 dX7_bySun_102 rfl rfl ?_
          refine z_if_eq_t 111 dX7_bySun_104 rfl (rfl) ?_
          refine z_iconst 112 dX7_bySun_111 vi1 rfl ?_
          refine y_cVv 115 _ (c_dayOn (o := 220) (t := 1) hdr_rsp (by decide) g3 (by decide)) sh158 cv_X7_208 ⟨by decide, by decide, rfl, rfl⟩ (Nat.le_of_ble_eq_true rfl) dX7_bySun_112 rfl rfl ?_
          rw [rsp_rsp]
          refine z_iinc 118 [_, _, _, _, _, _, _, _, _, _, _, _, _, _, _] dX7_bySun_115 rfl (show _ + _ = nI (_ + 1) from nI_1 _) (by decide) rfl rfl rfl ?_
          refine z_goto 54 dX7_bySun_118 rfl ?_
          exact ih2 _ _ _ g1 g2 (okQ_dayA g3) (c6 _).1 (c6 _).2
        · skip
          have e : s / 2 ^ k % 2 = 1 := nI_eqL (b := 1) (by omega) (by decide) h68
          rw [if_pos e] at g1 g2
          refine z_iconst 72 dX7_bySun_71 vi1 rfl ?_
          refine z_goto 76 dX7_bySun_72 rfl ?_
          refine z_istore 78 [_, _, _, _, _, _, _, _, _, _, _, _, _, _, _] dX7_bySun_76 (by decide) rfl rfl rfl ?_
          refine z_lload 80 dX7_bySun_78 rfl rfl ?_
          refine z_iload 82 dX7_bySun_80 rfl rfl ?_
          refine z_if_eq_f 85 90 dX7_bySun_82 rfl (by decide) rfl ?_
          refine z_iload_n 86 dX7_bySun_85 rfl rfl ?_
          refine z_i2l 87 dX7_bySun_86 rfl ?_
          rw [l1]
          refine z_goto 95 dX7_bySun_87 rfl ?_
          refine z_lmul 96 dX7_bySun_95 rfl ?_
          rw [lN_mul]
          refine z_lstore 98 [_, _, _, _, _, _, _, _, _, _, _, _, _, _, _] dX7_bySun_96 (by decide) rfl rfl rfl ?_
          refine z_aload_n 99 dX7_bySun_98 rfl rfl ?_
          refine z_sipush 102 dX7_bySun_99 vs220 rfl ?_
          refine z_iload 104 dX7_bySun_102 rfl rfl ?_
          refine z_if_eq_f 107 111 dX7_bySun_104 rfl (by decide) rfl ?_
          refine z_iconst 108 dX7_bySun_107 vi2 rfl ?_
          refine z_goto 112 dX7_bySun_108 rfl ?_
          refine y_cVv 115 _ (c_dayOn (o := 220) (t := 2) hdr_rsp (by decide) g3 (by decide)) sh158 cv_X7_208 ⟨by decide, by decide, rfl, rfl⟩ (Nat.le_of_ble_eq_true rfl) dX7_bySun_112 rfl rfl ?_
          rw [rsp_rsp]
          refine z_iinc 118 [_, _, _, _, _, _, _, _, _, _, _, _, _, _, _] dX7_bySun_115 rfl (show _ + _ = nI (_ + 1) from nI_1 _) (by decide) rfl rfl rfl ?_
          refine z_goto 54 dX7_bySun_118 rfl ?_
          exact ih2 _ _ _ g1 g2 (okQ_dayA g3) (c6 _).1 (c6 _).2
  · have e := lN10 i
    refine z_iload 11 dX7_bySun_9 rfl rfl ?_
    refine z_iload_n 12 dX7_bySun_11 rfl rfl ?_
    refine z_icmp_ge_f 15 29 dX7_bySun_12 rfl (nI_ge hi (by omega)) rfl ?_
    refine z_lload 17 dX7_bySun_15 rfl rfl ?_
    refine z_ldc2 20 kc_X7_239 dX7_bySun_17 rfl ?_
    refine z_lmul 21 dX7_bySun_20 rfl ?_
    rw [e]
    refine z_lstore 23 [_, _, _, _, _, _, _, _, _, _, _, _, _, _, _] dX7_bySun_21 (by decide) rfl rfl rfl ?_
    refine z_iinc 26 [_, _, _, _, _, _, _, _, _, _, _, _, _, _, _] dX7_bySun_23 rfl (show _ + _ = nI (_ + 1) from nI_1 _) (by decide) rfl rfl rfl ?_
    refine z_goto 9 dX7_bySun_26 rfl ?_
    exact ih
set_option maxRecDepth 100000 in
theorem r_luck {l : Launch} {G : zG} {σ : Nat → Int32} {N : Pg} {v p n h w : Int32} (hc : hdk σ 0 N) (ok : okQ N) : zMet l yX7_luck mX7_luck [.ref (zGa G 158), .int v, .int p, .int n, .int h, .int w] G (zW G σ) (zP G (pQL σ (vLuck N v p n h w))) := by
  have b4 := ok.np
  have bv : bi ((0 : Int64) ≤ v.toInt64 ∧ v.toInt64 ≤ 10) = bi (inR v 11) := bi_in7 (n := 10) (by decide)
  have bn : bi ((0 : Int64) ≤ n.toInt64 ∧ n.toInt64 ≤ 8) = bi (inR n 9) := bi_in7 (n := 8) (by decide)
  have bh : bi ((0 : Int64) ≤ h.toInt64 ∧ h.toInt64 ≤ 999) = bi (inR h 1000) := bi_in7 (n := 999) (by decide)
  have bw : bi ((0 : Int64) ≤ w.toInt64 ∧ w.toInt64 ≤ 1) = bi (inR w 2) := bi_in7 (n := 1) (by decide)
  have no : ¬ okLuck N v p n h w → pQL σ (vLuck N v p n h w) (some (.long (-1))) σ := fun h => ⟨by rw [vLuck, if_neg h], same.rf⟩
  refine zMet.of (by decide) rfl (Nat.le_of_ble_eq_true rfl) (Or.inr rfl) fun X hX hq => ?_
  subst hX
  show Y G X mX7_luck σ 0 [some (.ref (zGa G 158)), some (.int v), some (.int p), some (.int n), some (.int h), some (.int w)] []
  by_cases h1 : inR v 11
  · by_cases h2 : inR p (N 57)
    · by_cases h3 : inR n 9
      · by_cases h4 : inR h 1000
        · by_cases h5 : inR w 2
          · obtain ⟨v', hv', rfl⟩ := inR_of h1 (by decide)
            obtain ⟨p', hp', rfl⟩ := inR_of h2 (by omega)
            obtain ⟨n', hn', rfl⟩ := inR_of h3 (by decide)
            obtain ⟨h', hh', rfl⟩ := inR_of h4 (by decide)
            obtain ⟨w', hw', rfl⟩ := inR_of h5 (by decide)
            have val : vLuck N (nI v') (nI p') (nI n') (nI h') (nI w') = lowV (sm v' (some p') h' n' N) (10 ^ n') w' := by rw [vLuck, if_pos ⟨h1, h2, h3, h4, h5⟩, nN_nI (by omega), nN_nI (by omega), nN_nI (by omega), nN_nI (by omega), nN_nI (by omega)]
            rw [← smA_s (by omega) n' eqS.rf ok ok hp'] at val
            have op : okp (some p') := fun q hq => by cases hq; omega
            have cb := c_bySun (l := zXl X) (G := G) (p := some p') hc ok op hh' (show v' ≤ 10 by omega) (show n' ≤ 8 by omega) hw'
            refine z_iload_n 1 dX7_luck_0 rfl rfl ?_
            refine z_i2l 2 dX7_luck_1 rfl ?_
            refine z_lconst 3 dX7_luck_2 vl0 rfl ?_
            refine z_ldc2 6 kc_X7_239 dX7_luck_3 rfl ?_
            refine y_cSs 9 (c_in) cs_X7_55 ⟨by decide, by decide, rfl, rfl⟩ (Nat.le_of_ble_eq_true rfl) dX7_luck_6 rfl rfl ?_
            rw [bv]
            refine z_if_eq_f 12 70 dX7_luck_9 rfl (by rw [bi_t h1]; decide) rfl ?_
            refine z_aload_n 13 dX7_luck_12 rfl rfl ?_
            refine z_iload_n 14 dX7_luck_13 rfl rfl ?_
            refine y_cVs 17 _ (q_isOne (o := 0) hc ok) sh158 cv_X7_182 ⟨by decide, by decide, rfl, rfl⟩ (Nat.le_of_ble_eq_true rfl) dX7_luck_14 rfl rfl ?_
            refine z_if_eq_f 20 70 dX7_luck_17 rfl (by rw [bi_t h2]; decide) rfl ?_
            refine z_iload_n 21 dX7_luck_20 rfl rfl ?_
            refine z_i2l 22 dX7_luck_21 rfl ?_
            refine z_lconst 23 dX7_luck_22 vl0 rfl ?_
            refine z_ldc2 26 kc_X7_245 dX7_luck_23 rfl ?_
            refine y_cSs 29 (c_in) cs_X7_55 ⟨by decide, by decide, rfl, rfl⟩ (Nat.le_of_ble_eq_true rfl) dX7_luck_26 rfl rfl ?_
            rw [bn]
            refine z_if_eq_f 32 70 dX7_luck_29 rfl (by rw [bi_t h3]; decide) rfl ?_
            refine z_iload 34 dX7_luck_32 rfl rfl ?_
            refine z_i2l 35 dX7_luck_34 rfl ?_
            refine z_lconst 36 dX7_luck_35 vl0 rfl ?_
            refine z_ldc2 39 kc_X7_188 dX7_luck_36 rfl ?_
            refine y_cSs 42 (c_in) cs_X7_55 ⟨by decide, by decide, rfl, rfl⟩ (Nat.le_of_ble_eq_true rfl) dX7_luck_39 rfl rfl ?_
            rw [bh]
            refine z_if_eq_f 45 70 dX7_luck_42 rfl (by rw [bi_t h4]; decide) rfl ?_
            refine z_iload 47 dX7_luck_45 rfl rfl ?_
            refine z_i2l 48 dX7_luck_47 rfl ?_
            refine z_lconst 49 dX7_luck_48 vl0 rfl ?_
            refine z_lconst 50 dX7_luck_49 vl1 rfl ?_
            refine y_cSs 53 (c_in) cs_X7_55 ⟨by decide, by decide, rfl, rfl⟩ (Nat.le_of_ble_eq_true rfl) dX7_luck_50 rfl rfl ?_
            rw [bw]
            refine z_if_eq_f 56 70 dX7_luck_53 rfl (by rw [bi_t h5]; decide) rfl ?_
            refine z_aload_n 57 dX7_luck_56 rfl rfl ?_
            refine z_iload_n 58 dX7_luck_57 rfl rfl ?_
            refine z_iload_n 59 dX7_luck_58 rfl rfl ?_
            refine z_iload_n 60 dX7_luck_59 rfl rfl ?_
            refine z_iload 62 dX7_luck_60 rfl rfl ?_
            refine z_iload 64 dX7_luck_62 rfl rfl ?_
            refine y_cVP 67 _ (cb) sh158 cv_X7_247 ⟨by decide, by decide, rfl, rfl⟩ (Nat.le_of_ble_eq_true rfl) dX7_luck_64 rfl rfl (fun v64 σ64 hp64 => ?_)
            obtain ⟨rfl, hs⟩ := hp64
            show Y G X mX7_luck _ 67 _ [.long _]
            refine z_goto 73 dX7_luck_67 rfl ?_
            refine z_lret hq rfl dX7_luck_73 rfl rfl ?_
            exact ⟨_, ⟨by rw [val], hs⟩, rfl⟩
          · have no := no (fun q => h5 q.2.2.2.2)
            refine z_iload_n 1 dX7_luck_0 rfl rfl ?_
            refine z_i2l 2 dX7_luck_1 rfl ?_
            refine z_lconst 3 dX7_luck_2 vl0 rfl ?_
            refine z_ldc2 6 kc_X7_239 dX7_luck_3 rfl ?_
            refine y_cSs 9 (c_in) cs_X7_55 ⟨by decide, by decide, rfl, rfl⟩ (Nat.le_of_ble_eq_true rfl) dX7_luck_6 rfl rfl ?_
            rw [bv]
            refine z_if_eq_f 12 70 dX7_luck_9 rfl (by rw [bi_t h1]; decide) rfl ?_
            refine z_aload_n 13 dX7_luck_12 rfl rfl ?_
            refine z_iload_n 14 dX7_luck_13 rfl rfl ?_
            refine y_cVs 17 _ (q_isOne (o := 0) hc ok) sh158 cv_X7_182 ⟨by decide, by decide, rfl, rfl⟩ (Nat.le_of_ble_eq_true rfl) dX7_luck_14 rfl rfl ?_
            refine z_if_eq_f 20 70 dX7_luck_17 rfl (by rw [bi_t h2]; decide) rfl ?_
            refine z_iload_n 21 dX7_luck_20 rfl rfl ?_
            refine z_i2l 22 dX7_luck_21 rfl ?_
            refine z_lconst 23 dX7_luck_22 vl0 rfl ?_
            refine z_ldc2 26 kc_X7_245 dX7_luck_23 rfl ?_
            refine y_cSs 29 (c_in) cs_X7_55 ⟨by decide, by decide, rfl, rfl⟩ (Nat.le_of_ble_eq_true rfl) dX7_luck_26 rfl rfl ?_
            rw [bn]
            refine z_if_eq_f 32 70 dX7_luck_29 rfl (by rw [bi_t h3]; decide) rfl ?_
            refine z_iload 34 dX7_luck_32 rfl rfl ?_
            refine z_i2l 35 dX7_luck_34 rfl ?_
            refine z_lconst 36 dX7_luck_35 vl0 rfl ?_
            refine z_ldc2 39 kc_X7_188 dX7_luck_36 rfl ?_
            refine y_cSs 42 (c_in) cs_X7_55 ⟨by decide, by decide, rfl, rfl⟩ (Nat.le_of_ble_eq_true rfl) dX7_luck_39 rfl rfl ?_
            rw [bh]
            refine z_if_eq_f 45 70 dX7_luck_42 rfl (by rw [bi_t h4]; decide) rfl ?_
            refine z_iload 47 dX7_luck_45 rfl rfl ?_
            refine z_i2l 48 dX7_luck_47 rfl ?_
            refine z_lconst 49 dX7_luck_48 vl0 rfl ?_
            refine z_lconst 50 dX7_luck_49 vl1 rfl ?_
            refine y_cSs 53 (c_in) cs_X7_55 ⟨by decide, by decide, rfl, rfl⟩ (Nat.le_of_ble_eq_true rfl) dX7_luck_50 rfl rfl ?_
            rw [bw]
            refine z_if_eq_t 70 dX7_luck_53 rfl (bi_f h5) ?_
            refine z_ldc2 73 kc_X7_251 dX7_luck_70 rfl ?_
            refine z_lret hq rfl dX7_luck_73 rfl rfl ?_
            exact ⟨_, no, rfl⟩
        · have no := no (fun q => h4 q.2.2.2.1)
          refine z_iload_n 1 dX7_luck_0 rfl rfl ?_
          refine z_i2l 2 dX7_luck_1 rfl ?_
          refine z_lconst 3 dX7_luck_2 vl0 rfl ?_
          refine z_ldc2 6 kc_X7_239 dX7_luck_3 rfl ?_
          refine y_cSs 9 (c_in) cs_X7_55 ⟨by decide, by decide, rfl, rfl⟩ (Nat.le_of_ble_eq_true rfl) dX7_luck_6 rfl rfl ?_
          rw [bv]
          refine z_if_eq_f 12 70 dX7_luck_9 rfl (by rw [bi_t h1]; decide) rfl ?_
          refine z_aload_n 13 dX7_luck_12 rfl rfl ?_
          refine z_iload_n 14 dX7_luck_13 rfl rfl ?_
          refine y_cVs 17 _ (q_isOne (o := 0) hc ok) sh158 cv_X7_182 ⟨by decide, by decide, rfl, rfl⟩ (Nat.le_of_ble_eq_true rfl) dX7_luck_14 rfl rfl ?_
          refine z_if_eq_f 20 70 dX7_luck_17 rfl (by rw [bi_t h2]; decide) rfl ?_
          refine z_iload_n 21 dX7_luck_20 rfl rfl ?_
          refine z_i2l 22 dX7_luck_21 rfl ?_
          refine z_lconst 23 dX7_luck_22 vl0 rfl ?_
          refine z_ldc2 26 kc_X7_245 dX7_luck_23 rfl ?_
          refine y_cSs 29 (c_in) cs_X7_55 ⟨by decide, by decide, rfl, rfl⟩ (Nat.le_of_ble_eq_true rfl) dX7_luck_26 rfl rfl ?_
          rw [bn]
          refine z_if_eq_f 32 70 dX7_luck_29 rfl (by rw [bi_t h3]; decide) rfl ?_
          refine z_iload 34 dX7_luck_32 rfl rfl ?_
          refine z_i2l 35 dX7_luck_34 rfl ?_
          refine z_lconst 36 dX7_luck_35 vl0 rfl ?_
          refine z_ldc2 39 kc_X7_188 dX7_luck_36 rfl ?_
          refine y_cSs 42 (c_in) cs_X7_55 ⟨by decide, by decide, rfl, rfl⟩ (Nat.le_of_ble_eq_true rfl) dX7_luck_39 rfl rfl ?_
          rw [bh]
          refine z_if_eq_t 70 dX7_luck_42 rfl (bi_f h4) ?_
          refine z_ldc2 73 kc_X7_251 dX7_luck_70 rfl ?_
          refine z_lret hq rfl dX7_luck_73 rfl rfl ?_
          exact ⟨_, no, rfl⟩
      · have no := no (fun q => h3 q.2.2.1)
        refine z_iload_n 1 dX7_luck_0 rfl rfl ?_
        refine z_i2l 2 dX7_luck_1 rfl ?_
        refine z_lconst 3 dX7_luck_2 vl0 rfl ?_
        refine z_ldc2 6 kc_X7_239 dX7_luck_3 rfl ?_
        refine y_cSs 9 (c_in) cs_X7_55 ⟨by decide, by decide, rfl, rfl⟩ (Nat.le_of_ble_eq_true rfl) dX7_luck_6 rfl rfl ?_
        rw [bv]
        refine z_if_eq_f 12 70 dX7_luck_9 rfl (by rw [bi_t h1]; decide) rfl ?_
        refine z_aload_n 13 dX7_luck_12 rfl rfl ?_
        refine z_iload_n 14 dX7_luck_13 rfl rfl ?_
        refine y_cVs 17 _ (q_isOne (o := 0) hc ok) sh158 cv_X7_182 ⟨by decide, by decide, rfl, rfl⟩ (Nat.le_of_ble_eq_true rfl) dX7_luck_14 rfl rfl ?_
        refine z_if_eq_f 20 70 dX7_luck_17 rfl (by rw [bi_t h2]; decide) rfl ?_
        refine z_iload_n 21 dX7_luck_20 rfl rfl ?_
        refine z_i2l 22 dX7_luck_21 rfl ?_
        refine z_lconst 23 dX7_luck_22 vl0 rfl ?_
        refine z_ldc2 26 kc_X7_245 dX7_luck_23 rfl ?_
        refine y_cSs 29 (c_in) cs_X7_55 ⟨by decide, by decide, rfl, rfl⟩ (Nat.le_of_ble_eq_true rfl) dX7_luck_26 rfl rfl ?_
        rw [bn]
        refine z_if_eq_t 70 dX7_luck_29 rfl (bi_f h3) ?_
        refine z_ldc2 73 kc_X7_251 dX7_luck_70 rfl ?_
        refine z_lret hq rfl dX7_luck_73 rfl rfl ?_
        exact ⟨_, no, rfl⟩
    · have no := no (fun q => h2 q.2.1)
      refine z_iload_n 1 dX7_luck_0 rfl rfl ?_
      refine z_i2l 2 dX7_luck_1 rfl ?_
      refine z_lconst 3 dX7_luck_2 vl0 rfl ?_
      refine z_ldc2 6 kc_X7_239 dX7_luck_3 rfl ?_
      refine y_cSs 9 (c_in) cs_X7_55 ⟨by decide, by decide, rfl, rfl⟩ (Nat.le_of_ble_eq_true rfl) dX7_luck_6 rfl rfl ?_
      rw [bv]
      refine z_if_eq_f 12 70 dX7_luck_9 rfl (by rw [bi_t h1]; decide) rfl ?_
      refine z_aload_n 13 dX7_luck_12 rfl rfl ?_
      refine z_iload_n 14 dX7_luck_13 rfl rfl ?_
      refine y_cVs 17 _ (q_isOne (o := 0) hc ok) sh158 cv_X7_182 ⟨by decide, by decide, rfl, rfl⟩ (Nat.le_of_ble_eq_true rfl) dX7_luck_14 rfl rfl ?_
      refine z_if_eq_t 70 dX7_luck_17 rfl (bi_f h2) ?_
      refine z_ldc2 73 kc_X7_251 dX7_luck_70 rfl ?_
      refine z_lret hq rfl dX7_luck_73 rfl rfl ?_
      exact ⟨_, no, rfl⟩
  · have no := no (fun q => h1 q.1)
    refine z_iload_n 1 dX7_luck_0 rfl rfl ?_
    refine z_i2l 2 dX7_luck_1 rfl ?_
    refine z_lconst 3 dX7_luck_2 vl0 rfl ?_
    refine z_ldc2 6 kc_X7_239 dX7_luck_3 rfl ?_
    refine y_cSs 9 (c_in) cs_X7_55 ⟨by decide, by decide, rfl, rfl⟩ (Nat.le_of_ble_eq_true rfl) dX7_luck_6 rfl rfl ?_
    rw [bv]
    refine z_if_eq_t 70 dX7_luck_9 rfl (bi_f h1) ?_
    refine z_ldc2 73 kc_X7_251 dX7_luck_70 rfl ?_
    refine z_lret hq rfl dX7_luck_73 rfl rfl ?_
    exact ⟨_, no, rfl⟩
set_option maxRecDepth 100000 in
theorem r_mean {l : Launch} {G : zG} {σ : Nat → Int32} {N : Pg} {v n w : Int32} (hc : hdk σ 0 N) (ok : okQ N) : zMet l yX7_mean mX7_mean [.ref (zGa G 158), .int v, .int n, .int w] G (zW G σ) (zP G (pQL σ (vMean N v n w))) := by
  have bv : bi ((0 : Int64) ≤ v.toInt64 ∧ v.toInt64 ≤ 10) = bi (inR v 11) := bi_in7 (n := 10) (by decide)
  have bn : bi ((0 : Int64) ≤ n.toInt64 ∧ n.toInt64 ≤ 8) = bi (inR n 9) := bi_in7 (n := 8) (by decide)
  have bw : bi ((0 : Int64) ≤ w.toInt64 ∧ w.toInt64 ≤ 1) = bi (inR w 2) := bi_in7 (n := 1) (by decide)
  have no : ¬ okMean v n w → pQL σ (vMean N v n w) (some (.long (-1))) σ := fun h => ⟨by rw [vMean, if_neg h], same.rf⟩
  refine zMet.of (by decide) rfl (Nat.le_of_ble_eq_true rfl) (Or.inr rfl) fun X hX hq => ?_
  subst hX
  show Y G X mX7_mean σ 0 [some (.ref (zGa G 158)), some (.int v), some (.int n), some (.int w)] []
  by_cases h1 : inR v 11
  · by_cases h3 : inR n 9
    · by_cases h5 : inR w 2
      · obtain ⟨v', hv', rfl⟩ := inR_of h1 (by decide)
        obtain ⟨n', hn', rfl⟩ := inR_of h3 (by decide)
        obtain ⟨w', hw', rfl⟩ := inR_of h5 (by decide)
        have val : vMean N (nI v') (nI n') (nI w') = lowV (sm v' none 0 n' N) (10 ^ n') w' := by rw [vMean, if_pos ⟨h1, h3, h5⟩, nN_nI (by omega), nN_nI (by omega), nN_nI (by omega)]
        rw [← smA_n n' N] at val
        have op : okp none := fun q hq => by cases hq
        have cb := c_bySun (l := zXl X) (G := G) (p := none) (h := 0) hc ok op (by decide) (show v' ≤ 10 by omega) (show n' ≤ 8 by omega) hw'
        refine z_iload_n 1 dX7_mean_0 rfl rfl ?_
        refine z_i2l 2 dX7_mean_1 rfl ?_
        refine z_lconst 3 dX7_mean_2 vl0 rfl ?_
        refine z_ldc2 6 kc_X7_239 dX7_mean_3 rfl ?_
        refine y_cSs 9 (c_in) cs_X7_55 ⟨by decide, by decide, rfl, rfl⟩ (Nat.le_of_ble_eq_true rfl) dX7_mean_6 rfl rfl ?_
        rw [bv]
        refine z_if_eq_f 12 47 dX7_mean_9 rfl (by rw [bi_t h1]; decide) rfl ?_
        refine z_iload_n 13 dX7_mean_12 rfl rfl ?_
        refine z_i2l 14 dX7_mean_13 rfl ?_
        refine z_lconst 15 dX7_mean_14 vl0 rfl ?_
        refine z_ldc2 18 kc_X7_245 dX7_mean_15 rfl ?_
        refine y_cSs 21 (c_in) cs_X7_55 ⟨by decide, by decide, rfl, rfl⟩ (Nat.le_of_ble_eq_true rfl) dX7_mean_18 rfl rfl ?_
        rw [bn]
        refine z_if_eq_f 24 47 dX7_mean_21 rfl (by rw [bi_t h3]; decide) rfl ?_
        refine z_iload_n 25 dX7_mean_24 rfl rfl ?_
        refine z_i2l 26 dX7_mean_25 rfl ?_
        refine z_lconst 27 dX7_mean_26 vl0 rfl ?_
        refine z_lconst 28 dX7_mean_27 vl1 rfl ?_
        refine y_cSs 31 (c_in) cs_X7_55 ⟨by decide, by decide, rfl, rfl⟩ (Nat.le_of_ble_eq_true rfl) dX7_mean_28 rfl rfl ?_
        rw [bw]
        refine z_if_eq_f 34 47 dX7_mean_31 rfl (by rw [bi_t h5]; decide) rfl ?_
        refine z_aload_n 35 dX7_mean_34 rfl rfl ?_
        refine z_iload_n 36 dX7_mean_35 rfl rfl ?_
        refine z_bipush 38 dX7_mean_36 vbm4 rfl ?_
        refine z_iload_n 39 dX7_mean_38 rfl rfl ?_
        refine z_iconst 40 dX7_mean_39 vi0 rfl ?_
        refine z_iload_n 41 dX7_mean_40 rfl rfl ?_
        refine y_cVP 44 _ (cb) sh158 cv_X7_247 ⟨by decide, by decide, rfl, rfl⟩ (Nat.le_of_ble_eq_true rfl) dX7_mean_41 rfl rfl (fun v41 σ41 hp41 => ?_)
        obtain ⟨rfl, hs⟩ := hp41
        show Y G X mX7_mean _ 44 _ [.long _]
        refine z_goto 50 dX7_mean_44 rfl ?_
        refine z_lret hq rfl dX7_mean_50 rfl rfl ?_
        exact ⟨_, ⟨by rw [val], hs⟩, rfl⟩
      · have no := no (fun q => h5 q.2.2)
        refine z_iload_n 1 dX7_mean_0 rfl rfl ?_
        refine z_i2l 2 dX7_mean_1 rfl ?_
        refine z_lconst 3 dX7_mean_2 vl0 rfl ?_
        refine z_ldc2 6 kc_X7_239 dX7_mean_3 rfl ?_
        refine y_cSs 9 (c_in) cs_X7_55 ⟨by decide, by decide, rfl, rfl⟩ (Nat.le_of_ble_eq_true rfl) dX7_mean_6 rfl rfl ?_
        rw [bv]
        refine z_if_eq_f 12 47 dX7_mean_9 rfl (by rw [bi_t h1]; decide) rfl ?_
        refine z_iload_n 13 dX7_mean_12 rfl rfl ?_
        refine z_i2l 14 dX7_mean_13 rfl ?_
        refine z_lconst 15 dX7_mean_14 vl0 rfl ?_
        refine z_ldc2 18 kc_X7_245 dX7_mean_15 rfl ?_
        refine y_cSs 21 (c_in) cs_X7_55 ⟨by decide, by decide, rfl, rfl⟩ (Nat.le_of_ble_eq_true rfl) dX7_mean_18 rfl rfl ?_
        rw [bn]
        refine z_if_eq_f 24 47 dX7_mean_21 rfl (by rw [bi_t h3]; decide) rfl ?_
        refine z_iload_n 25 dX7_mean_24 rfl rfl ?_
        refine z_i2l 26 dX7_mean_25 rfl ?_
        refine z_lconst 27 dX7_mean_26 vl0 rfl ?_
        refine z_lconst 28 dX7_mean_27 vl1 rfl ?_
        refine y_cSs 31 (c_in) cs_X7_55 ⟨by decide, by decide, rfl, rfl⟩ (Nat.le_of_ble_eq_true rfl) dX7_mean_28 rfl rfl ?_
        rw [bw]
        refine z_if_eq_t 47 dX7_mean_31 rfl (bi_f h5) ?_
        refine z_ldc2 50 kc_X7_251 dX7_mean_47 rfl ?_
        refine z_lret hq rfl dX7_mean_50 rfl rfl ?_
        exact ⟨_, no, rfl⟩
    · have no := no (fun q => h3 q.2.1)
      refine z_iload_n 1 dX7_mean_0 rfl rfl ?_
      refine z_i2l 2 dX7_mean_1 rfl ?_
      refine z_lconst 3 dX7_mean_2 vl0 rfl ?_
      refine z_ldc2 6 kc_X7_239 dX7_mean_3 rfl ?_
      refine y_cSs 9 (c_in) cs_X7_55 ⟨by decide, by decide, rfl, rfl⟩ (Nat.le_of_ble_eq_true rfl) dX7_mean_6 rfl rfl ?_
      rw [bv]
      refine z_if_eq_f 12 47 dX7_mean_9 rfl (by rw [bi_t h1]; decide) rfl ?_
      refine z_iload_n 13 dX7_mean_12 rfl rfl ?_
      refine z_i2l 14 dX7_mean_13 rfl ?_
      refine z_lconst 15 dX7_mean_14 vl0 rfl ?_
      refine z_ldc2 18 kc_X7_245 dX7_mean_15 rfl ?_
      refine y_cSs 21 (c_in) cs_X7_55 ⟨by decide, by decide, rfl, rfl⟩ (Nat.le_of_ble_eq_true rfl) dX7_mean_18 rfl rfl ?_
      rw [bn]
      refine z_if_eq_t 47 dX7_mean_21 rfl (bi_f h3) ?_
      refine z_ldc2 50 kc_X7_251 dX7_mean_47 rfl ?_
      refine z_lret hq rfl dX7_mean_50 rfl rfl ?_
      exact ⟨_, no, rfl⟩
  · have no := no (fun q => h1 q.1)
    refine z_iload_n 1 dX7_mean_0 rfl rfl ?_
    refine z_i2l 2 dX7_mean_1 rfl ?_
    refine z_lconst 3 dX7_mean_2 vl0 rfl ?_
    refine z_ldc2 6 kc_X7_239 dX7_mean_3 rfl ?_
    refine y_cSs 9 (c_in) cs_X7_55 ⟨by decide, by decide, rfl, rfl⟩ (Nat.le_of_ble_eq_true rfl) dX7_mean_6 rfl rfl ?_
    rw [bv]
    refine z_if_eq_t 47 dX7_mean_9 rfl (bi_f h1) ?_
    refine z_ldc2 50 kc_X7_251 dX7_mean_47 rfl ?_
    refine z_lret hq rfl dX7_mean_50 rfl rfl ?_
    exact ⟨_, no, rfl⟩

