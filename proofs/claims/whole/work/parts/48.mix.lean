/-! ===== all ways to take so many drops ===== -/
abbrev Mx : Type := Nat × (Nat → Nat) × Nat
def itr (g : Nat → Mx → Mx) : Nat → Mx → Mx
  | 0, s => s
  | n + 1, s => g n (itr g n s)
theorem itr_cg {g g' : Nat → Mx → Mx} : ∀ n s, (∀ i, i < n → ∀ s, g i s = g' i s) → itr g n s = itr g' n s
  | 0, _, _ => rfl
  | n + 1, s, h => by rw [itr, itr, h n (by omega), itr_cg n s (fun i hi => h i (by omega))]
theorem itr_add {g : Nat → Mx → Mx} {a : Nat} : ∀ b s, itr g (a + b) s = itr (fun i => g (a + i)) b (itr g a s)
  | 0, _ => rfl
  | b + 1, s => by rw [← Nat.add_assoc, itr, itr, itr_add b s]
theorem itr_mul {g : Nat → Mx → Mx} {b : Nat} : ∀ a s, itr g (a * b) s = itr (fun x => itr (fun r => g (x * b + r)) b) a s
  | 0, s => by rw [Nat.zero_mul]; rfl
  | a + 1, s => by rw [Nat.succ_mul, itr_add, itr_mul a s, itr]
theorem itr_id {g : Nat → Mx → Mx} : ∀ n s, (∀ i, i < n → ∀ s, g i s = s) → itr g n s = s
  | 0, _, _ => rfl
  | n + 1, s, h => by rw [itr, h n (by omega), itr_id n s (fun i hi => h i (by omega))]
theorem itr_cut {g g' : Nat → Mx → Mx} {t n : Nat} (htn : t ≤ n) (s : Mx) (h1 : ∀ i, i < t → ∀ s, g i s = g' i s) (h2 : ∀ i, t ≤ i → i < n → ∀ s, g i s = s) : itr g n s = itr g' t s := by
  obtain ⟨b, rfl⟩ : ∃ b, n = t + b := ⟨n - t, by omega⟩
  rw [itr_add, itr_id b _ (fun i hi => h2 (t + i) (by omega) (by omega)), itr_cg t s h1]
/-- colours c, c + 1 .. (k of them), so many drops left; d: what is taken of those before -/
def pkA (F : (Nat → Nat) → Mx → Mx) (v : Nat → Nat) : Nat → Nat → Nat → (Nat → Nat) → Mx → Mx
  | 0, _, left, d, s => if left = 0 then F d s else s
  | k + 1, c, left, d, s => itr (fun n s => pkA F v k (c + 1) (left - n) (un d c n) s) (min left (v c) + 1) s
def pre (d : Nat → Nat) : Nat → Nat
  | 0 => 0
  | c + 1 => 7 * pre d c + d c
theorem pre_cg {d e : Nat → Nat} : ∀ c, (∀ i, i < c → d i = e i) → pre d c = pre e c
  | 0, _ => rfl
  | c + 1, h => by rw [pre, pre, pre_cg c (fun i hi => h i (by omega)), h c (by omega)]
theorem sumN_cg2 {d e : Nat → Nat} {c : Nat} (h : ∀ i, i < c → d i = e i) : sumN d c = sumN e c := sumN_cg h
abbrev okP (v d : Nat → Nat) (n c : Nat) : Prop := (∀ i, i < c → d i ≤ v i) ∧ sumN d c ≤ n
abbrev okD (v d : Nat → Nat) (n m : Nat) : Prop := (∀ i, i < m → d i ≤ v i) ∧ sumN d m = n
theorem codes {F : (Nat → Nat) → Mx → Mx} {v : Nat → Nat} {G : Nat → Mx → Mx} {m n : Nat} (h6 : n ≤ 6) (hG1 : ∀ d, (∀ i, i < m → d i < 7) → okD v d n m → ∀ s, G (pre d m) s = F d s) (hG0 : ∀ d, (∀ i, i < m → d i < 7) → ¬ okD v d n m → ∀ s, G (pre d m) s = s) : ∀ k c d s, c + k = m → (∀ i, i < c → d i < 7) →
    (okP v d n c → itr (fun r s => G (pre d c * 7 ^ k + r) s) (7 ^ k) s = pkA F v k c (n - sumN d c) d s) ∧ (¬ okP v d n c → itr (fun r s => G (pre d c * 7 ^ k + r) s) (7 ^ k) s = s)
  | 0, c, d, s, hm, hd => by
    obtain rfl : c = m := by omega
    have e : itr (fun r s => G (pre d c * 7 ^ 0 + r) s) (7 ^ 0) s = G (pre d c) s := by
      show G (pre d c * 1 + 0) s = _
      rw [Nat.mul_one, Nat.add_zero]
    rw [e]
    constructor
    · intro h
      rw [pkA]
      by_cases q : n - sumN d c = 0
      · rw [if_pos q, hG1 d hd ⟨h.1, by have := h.2; omega⟩]
      · rw [if_neg q, hG0 d hd (fun z => q (by rw [z.2]; omega))]
    · intro h
      exact hG0 d hd (fun z => h ⟨z.1, by rw [z.2]; exact Nat.le_refl _⟩) s
  | k + 1, c, d, s, hm, hd => by
    have e1 : ∀ x, pre (un d c x) c = pre d c := fun x => pre_cg c (fun i hi => un_n (by omega))
    have e2 : ∀ x, sumN (un d c x) (c + 1) = sumN d c + x := fun x => by
      rw [sumN, sumN_cg (g := d) (fun i hi => un_n (by omega)), un_s]
    have hx : ∀ x, x < 7 → ∀ i, i < c + 1 → un d c x i < 7 := fun x hx i hi => by
      by_cases q : i = c
      · subst q; rw [un_s]; exact hx
      · rw [un_n q]; exact hd i (by omega)
    have split7 : itr (fun r s => G (pre d c * 7 ^ (k + 1) + r) s) (7 ^ (k + 1)) s = itr (fun x => itr (fun r s => G (pre (un d c x) (c + 1) * 7 ^ k + r) s) (7 ^ k)) 7 s := by
      rw [show 7 ^ (k + 1) = 7 * 7 ^ k from Nat.pow_succ' .., itr_mul]
      refine itr_cg 7 s (fun x _ s => itr_cg _ s (fun r _ s => ?_))
      rw [pre, e1, un_s]
      congr 1
      rw [Nat.add_mul, Nat.mul_comm 7 (pre d c), Nat.mul_assoc, Nat.add_assoc]
    have okx : ∀ x, okP v (un d c x) n (c + 1) ↔ (okP v d n c ∧ x ≤ v c ∧ x ≤ n - sumN d c) := fun x => by
      constructor
      · rintro ⟨h1, h2⟩
        rw [e2] at h2
        refine ⟨⟨fun i hi => ?_, by omega⟩, ?_, by omega⟩
        · have := h1 i (by omega); rw [un_n (by omega)] at this; exact this
        · have := h1 c (by omega); rw [un_s] at this; exact this
      · rintro ⟨⟨h1, h2⟩, h3, h4⟩
        refine ⟨fun i hi => ?_, by rw [e2]; omega⟩
        by_cases q : i = c
        · subst q; rw [un_s]; exact h3
        · rw [un_n q]; exact h1 i (by omega)
    rw [split7]
    constructor
    · intro h
      rw [pkA]
      refine itr_cut (by omega) s (fun x hx' s => ?_) (fun x h1 h2 s => ?_)
      · have := (codes h6 hG1 hG0 k (c + 1) (un d c x) s (by omega) (hx x (by omega))).1 ((okx x).mpr ⟨h, by omega, by omega⟩)
        rw [this, e2, Nat.sub_add_eq]
      · exact (codes h6 hG1 hG0 k (c + 1) (un d c x) s (by omega) (hx x (by omega))).2 (fun z => by have := (okx x).mp z; omega)
    · intro h
      exact itr_id 7 s (fun x hx' s => (codes h6 hG1 hG0 k (c + 1) (un d c x) s (by omega) (hx x (by omega))).2 (fun z => h ((okx x).mp z).1))
def dgt : Nat → Nat → Nat → Nat
  | 0, _ => fun _ => 0
  | m + 1, code => un (dgt m (code / 7)) m (code % 7)
theorem dgt_pre : ∀ m code, code < 7 ^ m → pre (dgt m code) m = code
  | 0, code, h => by rw [pre]; have : code < 1 := h; omega
  | m + 1, code, h => by
    have h2 : code / 7 < 7 ^ m := by rw [Nat.pow_succ] at h; omega
    rw [dgt, pre, pre_cg (e := dgt m (code / 7)) m (fun i hi => un_n (by omega)), dgt_pre m _ h2, un_s]; omega
theorem dgt_lt : ∀ m code i, i < m → dgt m code i < 7
  | m + 1, code, i, h => by
    rw [dgt]
    by_cases q : i = m
    · subst q; rw [un_s]; omega
    · rw [un_n q]; exact dgt_lt m _ i (by omega)
theorem dgt_of : ∀ m d, (∀ i, i < m → d i < 7) → ∀ i, i < m → dgt m (pre d m) i = d i
  | m + 1, d, h, i, hi => by
    have h1 := h m (by omega)
    rw [dgt, pre]
    by_cases q : i = m
    · subst q; rw [un_s]; omega
    · rw [un_n q, show (7 * pre d m + d m) / 7 = pre d m by omega]
      exact dgt_of m d (fun i hi => h i (by omega)) i (by omega)
def offD (N : Pg) (h : Nat) (d : Nat → Nat) : Nat := offN (hueD N d) h
def rentD (N : Pg) (d : Nat → Nat) : Nat := sumN (fun c => d c * rentK (N c)) (N 56)
def mxF (N : Pg) (h far : Nat) (d : Nat → Nat) (s : Mx) : Mx := (if offD N h d < s.1 then offD N h d else s.1, if offD N h d < s.1 then (fun c => if c < N 56 then d c else 0) else s.2.1, if offD N h d ≤ far then min s.2.2 (rentD N d) else s.2.2)
def mx0 : Mx := (28, fun _ => 0, 1000)
def mxR (N : Pg) (h n far : Nat) : Mx := pkA (mxF N h far) (fun c => N (20 + c)) (N 56) 0 n (fun _ => 0) mx0
theorem mxF_cg {N : Pg} {h far : Nat} {d e : Nat → Nat} (q : ∀ i, i < N 56 → d i = e i) : mxF N h far d = mxF N h far e := by
  have e1 : offD N h d = offD N h e := by
    rw [offD, offD]; congr 1
    simp only [hueD]
    rw [sumN_cg q]
    have e2 : ∀ l, sumN (fun c => d c * N (5 + 5 * l + c)) (N 56) = sumN (fun c => e c * N (5 + 5 * l + c)) (N 56) := fun l => sumN_cg fun i hi => by rw [q i hi]
    rw [e2, e2, e2]
  have e2 : rentD N d = rentD N e := sumN_cg fun i hi => by rw [q i hi]
  have e3 : (fun c => if c < N 56 then d c else 0) = (fun c => if c < N 56 then e c else 0) := by
    funext c; split
    · rename_i hc; exact q c hc
    · rfl
  funext s
  simp only [mxF, e1, e2, e3]
def mxG (N : Pg) (h n far : Nat) (code : Nat) (s : Mx) : Mx := if okD (fun c => N (20 + c)) (dgt (N 56) code) n (N 56) then mxF N h far (dgt (N 56) code) s else s
theorem mx_codes {N : Pg} {h n far : Nat} (h6 : n ≤ 6) : itr (mxG N h n far) (7 ^ N 56) mx0 = mxR N h n far := by
  have sw : ∀ d, (∀ i, i < N 56 → d i < 7) → (okD (fun c => N (20 + c)) (dgt (N 56) (pre d (N 56))) n (N 56) ↔ okD (fun c => N (20 + c)) d n (N 56)) := fun d hd => by
    have e := dgt_of (N 56) d hd
    simp only [okD]
    rw [sumN_cg e]
    exact ⟨fun q => ⟨fun i hi => by rw [← e i hi]; exact q.1 i hi, q.2⟩, fun q => ⟨fun i hi => by rw [e i hi]; exact q.1 i hi, q.2⟩⟩
  have k := (codes (F := mxF N h far) (v := fun c => N (20 + c)) (G := mxG N h n far) (m := N 56) (n := n) h6
    (fun d hd hk s => by rw [mxG, if_pos ((sw d hd).mpr hk), mxF_cg (dgt_of (N 56) d hd)])
    (fun d hd hk s => by rw [mxG, if_neg (fun z => hk ((sw d hd).mp z))]) (N 56) 0 (fun _ => 0) mx0 (by omega) (fun i hi => by omega)).1 ⟨fun i hi => by omega, Nat.zero_le _⟩
  refine Eq.trans (itr_cg _ _ (fun i _ s => ?_)) k
  rw [pre, Nat.zero_mul, Nat.zero_add]
theorem dst9 {a b : Nat} (ha : a ≤ 9) (hb : b ≤ 9) : dst a b ≤ 9 := by rw [dst]; omega
theorem offN_le {a b : Nat} (ha : a < 1000) (hb : b < 1000) : offN a b ≤ 27 := by
  rw [offN]
  have h1 := dst9 (a := a / 100) (b := b / 100) (by omega) (by omega)
  have h2 := dst9 (a := a / 10 % 10) (b := b / 10 % 10) (by omega) (by omega)
  have h3 := dst9 (a := a % 10) (b := b % 10) (by omega) (by omega)
  omega
theorem hueD_lt {N : Pg} {d : Nat → Nat} (ok : okQ N) : hueD N d < 1000 := by
  have b5 := ok.nc
  have key : ∀ x, x < 3 → sumN (fun c => d c * N (5 + 5 * x + c)) (N 56) / sumN d (N 56) ≤ 9 := fun x hx => by
    rcases Nat.eq_zero_or_pos (sumN d (N 56)) with h0 | hp
    · rw [h0, Nat.div_zero]; omega
    · have hle : ∀ m, m ≤ 5 → sumN (fun c => d c * N (5 + 5 * x + c)) m ≤ 9 * sumN d m := by
        intro m
        induction m with
        | zero => intro _; exact Nat.le_refl _
        | succ m ih =>
          intro hm
          have h1 := ih (by omega)
          have h2 := ok.2.1 (5 * x + m) (by omega)
          rw [← Nat.add_assoc] at h2
          have h3 : d m * N (5 + 5 * x + m) ≤ d m * 9 := Nat.mul_le_mul_left _ (by omega)
          rw [sumN, sumN]; omega
      exact Nat.div_le_of_le_mul (by have := hle _ b5; omega)
  have h0 := key 0 (by omega)
  have h1 := key 1 (by omega)
  have h2 := key 2 (by omega)
  simp only [hueD]; omega
theorem offD_le {N : Pg} {h : Nat} {d : Nat → Nat} (ok : okQ N) (hh : h < 1000) : offD N h d ≤ 27 := offN_le (hueD_lt ok) hh
/-- the class's mixer, and what is known of it -/
def hMx (τ : Nat → Int32) (m h far : Nat) (s : Mx) : Prop := τ (400 * 39 + 0) = nI s.1 ∧ (s.1 < 28 → ∀ c, c < m → τ (400 * 40 + 0 + c) = nI (s.2.1 c)) ∧ τ (400 * 39 + 1) = (if s.2.2 = 1000 then -4 else nI s.2.2) ∧ τ (400 * 39 + 4) = nI h ∧ τ (400 * 39 + 5) = nI far ∧ s.1 ≤ 28 ∧ s.2.2 ≤ 1000
theorem mx_okM {N : Pg} {h far : Nat} {d : Nat → Nat} {s : Mx} (h1 : s.1 ≤ 28) (h2 : s.2.2 ≤ 1000) : (mxF N h far d s).1 ≤ 28 ∧ (mxF N h far d s).2.2 ≤ 1000 := by
  simp only [mxF]
  constructor
  · split <;> omega
  · split <;> omega
set_option maxRecDepth 100000 in
set_option maxHeartbeats 2000000 in
theorem c_weigh {l : Launch} {G : zG} {τ : Nat → Int32} {N : Pg} {h far : Nat} {d : Nat → Nat} {s : Mx} (hc : hdc τ 1 N) (ok : okQ N) (hh : h < 1000) (hfar : far ≤ 27) (hM : hMx τ (N 56) h far s) (hp : ∀ i, i < N 56 → τ (400 * 41 + 0 + i) = nI (d i)) (hd : ∀ i, i < N 56 → d i ≤ 6) : zMet l yX2_weigh mX2_weigh [.ref (zGa G 39), .ref (zGa G 1)] G (zW G τ) (zP G (fun v τ' => v = none ∧ hMx τ' (N 56) h far (mxF N h far d s) ∧ (∀ a, (a < 15600 ∨ (15602 ≤ a ∧ a < 16000) ∨ 16005 ≤ a) → τ' a = τ a))) := by
  have b5 := ok.nc
  obtain ⟨m1, m2, m3, m4, m5, m6, m7⟩ := hM
  have hl := hueD_lt (d := d) ok
  have ol : offD N h d ≤ 27 := offD_le ok hh
  have rl : rentD N d ≤ 5 * 36 := sumN_ltb b5 (fun i hi => by
    have h1 := hd i hi
    have h2 := rentK_le (N i)
    exact Nat.mul_le_mul h1 h2)
  have off : offN (hueD N d) h = offD N h d := rfl
  have mk := mx_okM (N := N) (h := h) (far := far) (d := d) m6 m7
  -- what the second half does, whatever the first half left
  suffices half : ∀ τ1, (∀ a, (a < 15600 ∨ (15601 ≤ a ∧ a < 16000) ∨ 16005 ≤ a) → τ1 a = τ a) → τ1 (400 * 39 + 0) = nI (mxF N h far d s).1 → ((mxF N h far d s).1 < 28 → ∀ c, c < N 56 → τ1 (400 * 40 + 0 + c) = nI ((mxF N h far d s).2.1 c)) → ∀ X : zX, zXl X = l → zRet G X mX2_weigh (zP G (fun v τ' => v = none ∧ hMx τ' (N 56) h far (mxF N h far d s) ∧ (∀ a, (a < 15600 ∨ (15602 ≤ a ∧ a < 16000) ∨ 16005 ≤ a) → τ' a = τ a))) → Y G X mX2_weigh τ1 44 [some (.ref (zGa G 39)), some (.ref (zGa G 1)), some (.int (nI (offD N h d))), none] [] by
    refine zMet.of (by decide) rfl (Nat.le_of_ble_eq_true rfl) (Or.inr rfl) fun X hX hq => ?_
    subst hX
    show Y G X mX2_weigh τ 0 [some (.ref (zGa G 39)), some (.ref (zGa G 1)), none, none] []
    refine z_aload_n 1 dX2_weigh_0 rfl rfl ?_
    refine z_aload_n 2 dX2_weigh_1 rfl rfl ?_
    refine y_getr 5 _ sh39 rfl fl_X2_15 dX2_weigh_2 rfl ?_
    refine z_iconst 6 dX2_weigh_5 vi0 rfl ?_
    refine y_cVs 9 _ (n_hueOfDrops (a := 0) d bkm1 hc ok sh41 (by decide) (by decide) (fun i hi => by have := hd i hi; omega) (fun i hi => by rw [Nat.zero_add]; exact hp i hi)) (bk0 bkm1) cv_X2_53 ⟨by decide, by decide, rfl, rfl⟩ (Nat.le_of_ble_eq_true rfl) dX2_weigh_6 rfl rfl ?_
    refine z_aload_n 10 dX2_weigh_9 rfl rfl ?_
    refine y_get 13 _ sh39 rfl fl_X2_18 dX2_weigh_10 rfl ?_
    rw [m4]
    refine y_cNs 16 (c_offBetween (by omega) (by omega)) cn_X2_57 ⟨by decide, by decide, rfl, rfl⟩ (Nat.le_of_ble_eq_true rfl) dX2_weigh_13 rfl rfl ?_
    rw [off]
    refine z_istore_n 17 [_, _, _, _] dX2_weigh_16 (by decide) rfl rfl rfl ?_
    refine z_iload_n 18 dX2_weigh_17 rfl rfl ?_
    refine z_aload_n 19 dX2_weigh_18 rfl rfl ?_
    refine y_get 22 _ sh39 rfl fl_X2_25 dX2_weigh_19 rfl ?_
    rw [m1]
    refine z_icmp_ge 44 25 dX2_weigh_22 rfl rfl (fun h22 => ?_) (fun h22 => ?_)
    · skip
      have nl : ¬ offD N h d < s.1 := fun q => absurd (nI_lt q (by omega)) (Int32.not_lt.mpr h22)
      exact half τ (fun _ _ => rfl) (by rw [m1]; simp only [mxF]; rw [if_neg nl]) (fun q c hc' => by
          simp only [mxF] at q ⊢
          rw [if_neg nl] at q ⊢
          exact m2 q c hc') X rfl hq
    · skip
      have yl : offD N h d < s.1 := by
          rcases Nat.lt_or_ge (offD N h d) s.1 with q | q
          · exact q
          · exact absurd (nI_le q (by omega)) h22
      refine z_aload_n 26 dX2_weigh_25 rfl rfl ?_
      refine z_iload_n 27 dX2_weigh_26 rfl rfl ?_
      refine y_putI 30 _ sh39 rfl fp_X2_25 dX2_weigh_27 rfl ?_
      refine z_aload_n 31 dX2_weigh_30 rfl rfl ?_
      refine y_getr 34 _ sh39 rfl fl_X2_15 dX2_weigh_31 rfl ?_
      refine z_iconst 35 dX2_weigh_34 vi0 rfl ?_
      refine z_aload_n 36 dX2_weigh_35 rfl rfl ?_
      refine y_getr 39 _ sh39 rfl fl_X2_9 dX2_weigh_36 rfl ?_
      refine z_iconst 40 dX2_weigh_39 vi0 rfl ?_
      refine z_iconst 41 dX2_weigh_40 vi5 rfl ?_
      refine y_copy 44 kl_X2_60 sh41 sh40 (by decide) rfl (by decide) dX2_weigh_41 rfl ?_
      refine half _ (fun a ha => ?_) ?_ (fun q c hc' => ?_) X rfl hq
      · rw [cp_out (by omega), pk_un (by omega)]
      · rw [cp_out (by omega), pk_us]; simp only [mxF]; rw [if_pos yl]
      · rw [cp_in (by omega), pk_un (by omega)]
        simp only [mxF]
        rw [if_pos yl, if_pos hc', ← hp c hc']
        congr 1; omega
  intro τ1 g1 g2 g3 X hX hq
  subst hX
  have hc1 : hdc τ1 1 N := fun i hi => (g1 _ (by omega)).trans (hc i hi)
  have hp1 : ∀ i, i < N 56 → τ1 (400 * 41 + 0 + i) = nI (d i) := fun i hi => (g1 _ (by omega)).trans (hp i hi)
  have n5 : τ1 (400 * 39 + 5) = nI far := (g1 _ (by omega)).trans m5
  have n3 : τ1 (400 * 39 + 1) = (if s.2.2 = 1000 then -4 else nI s.2.2) := (g1 _ (by omega)).trans m3
  have n4 : τ1 (400 * 39 + 4) = nI h := (g1 _ (by omega)).trans m4
  have fin : ∀ x, offD N h d ≤ far → x = (if (min s.2.2 (rentD N d)) = 1000 then -4 else nI (min s.2.2 (rentD N d))) → hMx (upd τ1 (400 * 39 + 1) x) (N 56) h far (mxF N h far d s) ∧ (∀ a, (a < 15600 ∨ (15602 ≤ a ∧ a < 16000) ∨ 16005 ≤ a) → upd τ1 (400 * 39 + 1) x a = τ a) := fun x hf hx => by
    refine ⟨⟨(pk_un (by omega)).trans g2, fun q c hc' => (pk_un (by omega)).trans (g3 q c hc'), ?_, (pk_un (by omega)).trans n4, (pk_un (by omega)).trans n5, mk.1, mk.2⟩, fun a ha => (pk_un (by omega)).trans (g1 a (by omega))⟩
    have e22 : (mxF N h far d s).2.2 = min s.2.2 (rentD N d) := if_pos hf
    rw [pk_us, hx, e22]
  refine z_iload_n 45 dX2_weigh_44 rfl rfl ?_
  refine z_aload_n 46 dX2_weigh_45 rfl rfl ?_
  refine y_get 49 _ sh39 rfl fl_X2_22 dX2_weigh_46 rfl ?_
  rw [n5]
  refine z_icmp_gt 87 52 dX2_weigh_49 rfl rfl (fun h49 => ?_) (fun h49 => ?_)
  · skip
    have nf : ¬ offD N h d ≤ far := fun q => absurd (nI_le q (by omega)) (Int32.not_le.mpr h49)
    refine z_vret hq rfl dX2_weigh_87 rfl rfl ?_
    exact ⟨_, ⟨rfl, ⟨g2, g3, by rw [n3, show (mxF N h far d s).2.2 = s.2.2 from if_neg nf], n4, n5, mk.1, mk.2⟩, fun a ha => g1 a (by omega)⟩, rfl⟩
  · skip
    have yf : offD N h d ≤ far := by
        rcases Nat.lt_or_ge far (offD N h d) with q | q
        · exact absurd (nI_lt q (by omega)) h49
        · exact q
    refine z_aload_n 53 dX2_weigh_52 rfl rfl ?_
    refine z_aload_n 54 dX2_weigh_53 rfl rfl ?_
    refine y_getr 57 _ sh39 rfl fl_X2_15 dX2_weigh_54 rfl ?_
    refine z_iconst 58 dX2_weigh_57 vi0 rfl ?_
    refine y_cVs 61 _ (n_rentOfDrops (a := 0) d bkm1 hc1 ok sh41 (by decide) (by decide) (fun i hi => by rw [Nat.zero_add]; exact hp1 i hi)) (bk0 bkm1) cv_X2_66 ⟨by decide, by decide, rfl, rfl⟩ (Nat.le_of_ble_eq_true rfl) dX2_weigh_58 rfl rfl ?_
    show Y G X mX2_weigh τ1 61 _ [.int (nI (rentD N d))]
    refine z_istore_n 62 [_, _, _, _] dX2_weigh_61 (by decide) rfl rfl rfl ?_
    refine z_aload_n 63 dX2_weigh_62 rfl rfl ?_
    refine z_aload_n 64 dX2_weigh_63 rfl rfl ?_
    refine y_get 67 _ sh39 rfl fl_X2_28 dX2_weigh_64 rfl ?_
    rw [n3]
    refine z_bipush 69 dX2_weigh_67 vbm4 rfl ?_
    refine z_icmp_ne 76 72 dX2_weigh_69 rfl rfl (fun h69 => ?_) (fun h69 => ?_)
    · skip
      have e0 : s.2.2 ≠ 1000 := fun q => h69 (by rw [if_pos q])
      refine z_aload_n 77 dX2_weigh_76 rfl rfl ?_
      refine y_get 80 _ sh39 rfl fl_X2_28 dX2_weigh_77 rfl ?_
      rw [n3]
      refine z_iload_n 81 dX2_weigh_80 rfl rfl ?_
      rw [if_neg e0]
      refine y_mn 84 kl_X2_47 (by decide) (Nat.le_of_ble_eq_true rfl) dX2_weigh_81 rfl ?_
      refine y_putI 87 _ sh39 rfl fp_X2_28 dX2_weigh_84 rfl ?_
      refine z_vret hq rfl dX2_weigh_87 rfl rfl ?_
      exact ⟨_, ⟨rfl, fin _ yf (by
          rw [show (if min s.2.2 (rentD N d) = 1000 then (-4 : Int32) else nI (min s.2.2 (rentD N d))) = nI (min s.2.2 (rentD N d)) from if_neg (by omega)]
          by_cases q : rentD N d < s.2.2
          · rw [if_pos (nI_lt q (by omega)), Nat.min_eq_right (by omega)]
          · rw [if_neg (nI_nlt (by omega) (by omega)), Nat.min_eq_left (by omega)])⟩, rfl⟩
    · skip
      have e0 : s.2.2 = 1000 := by
          refine Decidable.of_not_not (fun q => ?_)
          rw [if_neg q] at h69
          have h9 := congrArg Int32.toInt h69
          rw [nI_toInt (by omega), show (-4 : Int32).toInt = -4 from rfl] at h9
          omega
      refine z_iload_n 73 dX2_weigh_72 rfl rfl ?_
      refine z_goto 84 dX2_weigh_73 rfl ?_
      refine y_putI 87 _ sh39 rfl fp_X2_28 dX2_weigh_84 rfl ?_
      refine z_vret hq rfl dX2_weigh_87 rfl rfl ?_
      exact ⟨_, ⟨rfl, fin _ yf (by rw [show min s.2.2 (rentD N d) = rentD N d from Nat.min_eq_right (by omega)]; exact (if_neg (by omega)).symm)⟩, rfl⟩

