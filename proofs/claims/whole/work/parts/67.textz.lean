theorem hi_cmp : ∀ q, q < 6 → ∀ o, o < 6 → (nI q ≤ nI o - 1 ↔ q < o) := by decide +kernel
theorem nb_hi {Q : Pg} {T : Int32} {o o2 : Nat} (h1 : hiO T o) (h2 : hiC T o2) (b4 : Q 57 ≤ 4) : nbP Q T 4 = true ↔ (Q 57 < o ∨ Q 56 < o2) := by
  obtain ⟨a1, a2, a3⟩ := h1
  obtain ⟨c1, c2, c3⟩ := h2
  constructor
  · intro h
    obtain ⟨p, hp, c, hc, hbt, hn⟩ := nbP_of 4 h
    have e1 := a2 p c hp hc hbt
    have e2 := c2 p c hp hc hbt
    omega
  · rintro (h | h)
    · obtain ⟨c, hc, z⟩ := a3 (by omega)
      exact nbP_t (nbC_t (p := o - 1) (c := c) ⟨z, by omega⟩ hc) (by omega)
    · obtain ⟨p, hp, z⟩ := c3 (by omega)
      exact nbP_t (nbC_t (p := p) (c := o2 - 1) ⟨z, by omega⟩ (by omega)) hp
/-- what text() answers and leaves, of the reference -/
def pTxR (σ : Nat → Int32) (r : Sum (Nat × Nat) (Pg × Nat)) (v : Option Value) (σ' : Nat → Int32) : Prop := match r with
  | .inl (c, s) => v = some (.int (-10 - nI s)) ∧ σ' (400 * 158 + 10) = 0 ∧ σ' (400 * 158 + 11) = nI c ∧ ∀ a, scr a = false → a ≠ 63210 → a ≠ 63211 → σ' a = σ a
  | .inr (Q, n) => v = some (.int (nI n)) ∧ σ' (400 * 158 + 10) = 0 ∧ σ' (400 * 158 + 11) = 0 ∧ hdk σ' 0 Q ∧ σ' (400 * 158 + 26) = 0 ∧ σ' (400 * 169 + 0 + 0) = 0 ∧ σ' (400 * 169 + 0 + 1) = 0 ∧ ∀ a, scr a = false → a ≠ 63210 → a ≠ 63211 → a ≠ 63201 → a ≠ 63202 → a ≠ 63226 → a ≠ 67600 → a ≠ 67601 → (a < 63600 ∨ 63655 ≤ a) → σ' a = σ a
theorem offP_scr {σ τ : Nat → Int32} (h : offP τ σ) : ∀ a, scr a = false → τ a = σ a := fun a ha => by
  have : ¬ ((63204 ≤ a ∧ a ≤ 63208) ∨ (63212 ≤ a ∧ a ≤ 63217) ∨ (63765 ≤ a ∧ a < 64400)) := fun q => by
    have : scr a = true := by simp only [scr, Bool.or_eq_true, Bool.and_eq_true, decide_eq_true_eq, beq_iff_eq]; omega
    rw [this] at ha; cases ha
  exact h a (by omega)
set_option maxRecDepth 100000 in
set_option maxHeartbeats 4000000 in
theorem r_text {l : Launch} {G : zG} {σ : Nat → Int32} {tn : Nat} {B : Nat → Nat} (hT : hRa σ tn B) (ok : okT tn B) (hC : hCu σ) : zMet l yX7_text mX7_text [.ref (zGa G 158)] G (zW G σ) (zP G (pTxR σ (txF tn B))) := by
  have h6 := ok.1
  have hX : txF tn B = txR tn (linF tn B 161 0 Z0 0 0) := rfl
  generalize hR : linF tn B 161 0 Z0 0 0 = R at hX
  refine zMet.of (by decide) rfl (Nat.le_of_ble_eq_true rfl) (Or.inr rfl) fun X hX hq => ?_
  subst hX
  show Y G X mX7_text σ 0 [some (.ref (zGa G 158)), none, none] []
  -- the end: a fault
  have endF : ∀ τ1 x u c s, txF tn B = .inl (c, s) → 1 ≤ c → c ≤ 6 → s ≤ tn → τ1 (400 * 158 + 12) = nI c → τ1 (400 * 158 + 13) = nI s → offP τ1 σ → Y G X mX7_text τ1 121 [some (.ref (zGa G 158)), some (.int x), u] [] := by
    intro τ1 x u c s eR h1 h2 h3 o1 o2 o3
    rw [eR] at hq
    have u1 : upd τ1 (400 * 158 + 10) 0 (400 * 158 + 12) = nI c := (pk_un (by omega)).trans o1
    have u2 : upd (upd τ1 (400 * 158 + 10) 0) (400 * 158 + 11) (nI c) (400 * 158 + 12) = nI c := (pk_un (by omega)).trans u1
    have u3 : upd (upd τ1 (400 * 158 + 10) 0) (400 * 158 + 11) (nI c) (400 * 158 + 13) = nI s := by rw [pk_un (by omega), pk_un (by omega)]; exact o2
    refine z_aload_n 122 dX7_text_121 rfl rfl ?_
    refine z_iconst 123 dX7_text_122 vi0 rfl ?_
    refine y_putI 126 _ sh158 rfl fp_X7_59 dX7_text_123 rfl ?_
    refine z_aload_n 127 dX7_text_126 rfl rfl ?_
    refine z_aload_n 128 dX7_text_127 rfl rfl ?_
    refine y_get 131 _ sh158 rfl fl_X7_63 dX7_text_128 rfl ?_
    rw [u1]
    refine y_putI 134 _ sh158 rfl fp_X7_139 dX7_text_131 rfl ?_
    refine z_aload_n 135 dX7_text_134 rfl rfl ?_
    refine y_get 138 _ sh158 rfl fl_X7_63 dX7_text_135 rfl ?_
    rw [u2]
    refine z_if_le_f 141 149 dX7_text_138 rfl (nI_nle (by omega) (by omega)) rfl ?_
    refine z_bipush 143 dX7_text_141 vbm10 rfl ?_
    refine z_aload_n 144 dX7_text_143 rfl rfl ?_
    refine y_get 147 _ sh158 rfl fl_X7_69 dX7_text_144 rfl ?_
    rw [u3]
    refine z_isub 148 dX7_text_147 rfl ?_
    refine z_iret hq rfl dX7_text_148 rfl rfl ?_
    refine ⟨_, ?_, rfl⟩
    exact ⟨rfl, by rw [pk_un (by omega), pk_us], pk_us, fun a ha g1 g2 => by rw [pk_un g2, pk_un g1]; exact offP_scr o3 a ha⟩
  -- the end: no fault
  have endG : ∀ τ1 n u Q T, txF tn B = .inr (Q, n) → τ1 (400 * 158 + 12) = 0 → hTd τ1 Q T → offP τ1 σ → Y G X mX7_text τ1 121 [some (.ref (zGa G 158)), some (.int (nI n)), u] [] := by
    intro τ1 n u Q T eR o1 hD o3
    rw [eR] at hq
    have u1 : upd τ1 (400 * 158 + 10) 0 (400 * 158 + 12) = 0 := (pk_un (by omega)).trans o1
    have u2 : upd (upd τ1 (400 * 158 + 10) 0) (400 * 158 + 11) 0 (400 * 158 + 12) = 0 := (pk_un (by omega)).trans u1
    generalize hτ2 : upd (upd τ1 (400 * 158 + 10) 0) (400 * 158 + 11) 0 = τ2 at u2
    have o2 : ∀ a, a ≠ 63210 → a ≠ 63211 → τ2 a = τ1 a := fun a g1 g2 => by rw [← hτ2, pk_un g2, pk_un g1]
    have f0 : τ2 (400 * 158 + 10) = 0 := by rw [← hτ2, pk_un (by omega), pk_us]
    have f1 : τ2 (400 * 158 + 11) = 0 := by rw [← hτ2, pk_us]
    refine z_aload_n 122 dX7_text_121 rfl rfl ?_
    refine z_iconst 123 dX7_text_122 vi0 rfl ?_
    refine y_putI 126 _ sh158 rfl fp_X7_59 dX7_text_123 rfl ?_
    refine z_aload_n 127 dX7_text_126 rfl rfl ?_
    refine z_aload_n 128 dX7_text_127 rfl rfl ?_
    refine y_get 131 _ sh158 rfl fl_X7_63 dX7_text_128 rfl ?_
    rw [u1]
    refine y_putI 134 _ sh158 rfl fp_X7_139 dX7_text_131 rfl ?_
    rw [hτ2]
    refine z_aload_n 135 dX7_text_134 rfl rfl ?_
    refine y_get 138 _ sh158 rfl fl_X7_63 dX7_text_135 rfl ?_
    rw [u2]
    refine z_if_le_t 149 dX7_text_138 rfl (by decide) ?_
    refine z_iconst 150 dX7_text_149 vi0 rfl ?_
    refine z_istore_n 151 [_, _, _] dX7_text_150 (by decide) rfl rfl rfl ?_
    refine zup (P := fun k => ∀ τ3, (∀ j, j < k → τ3 (400 * 159 + 0 + j) = nI (Q j)) → (∀ a, (a < 63600 ∨ 63655 ≤ a) → τ3 a = τ2 a) → Y G X mX7_text τ3 151 [some (.ref (zGa G 158)), some (.int (nI n)), some (.int (nI k))] []) 55 ?_ (fun k hk ih => ?_) 0 (Nat.zero_le _) τ2 (fun j hj => by omega) (fun _ _ => rfl)
    · intro τ3 s1 s2
      have e1 : τ3 (400 * 158 + 4) = nI (Q 56) := (s2 _ (by omega)).trans ((o2 _ (by omega) (by omega)).trans hD.1.2.1)
      have e2 : ∀ x, upd τ3 (400 * 158 + 1) x (400 * 158 + 5) = nI (Q 57) := fun x => (pk_un (by omega)).trans ((s2 _ (by omega)).trans ((o2 _ (by omega) (by omega)).trans hD.1.2.2))
      refine z_iload_n 152 dX7_text_151 rfl rfl ?_
      refine z_bipush 154 dX7_text_152 vb55 rfl ?_
      refine z_icmp_ge_t 175 dX7_text_154 rfl (Int32.le_refl _) ?_
      refine z_aload_n 176 dX7_text_175 rfl rfl ?_
      refine z_aload_n 177 dX7_text_176 rfl rfl ?_
      refine y_get 180 _ sh158 rfl fl_X7_100 dX7_text_177 rfl ?_
      rw [e1]
      refine y_putI 183 _ sh158 rfl fp_X7_142 dX7_text_180 rfl ?_
      refine z_aload_n 184 dX7_text_183 rfl rfl ?_
      refine z_aload_n 185 dX7_text_184 rfl rfl ?_
      refine y_get 188 _ sh158 rfl fl_X7_121 dX7_text_185 rfl ?_
      rw [e2]
      refine y_putI 191 _ sh158 rfl fp_X7_145 dX7_text_188 rfl ?_
      refine z_aload_n 192 dX7_text_191 rfl rfl ?_
      refine z_iconst 193 dX7_text_192 vi0 rfl ?_
      refine y_putI 196 _ sh158 rfl fp_X7_148 dX7_text_193 rfl ?_
      refine z_aload_n 197 dX7_text_196 rfl rfl ?_
      refine y_getr 200 _ sh158 rfl fl_X7_40 dX7_text_197 rfl ?_
      refine z_iconst 201 dX7_text_200 vi0 rfl ?_
      refine z_iconst 202 dX7_text_201 vi0 rfl ?_
      refine y_stZ 203 _ 0 sh169 rfl (by decide) (by decide) rfl dX7_text_202 rfl ?_
      refine z_aload_n 204 dX7_text_203 rfl rfl ?_
      refine y_getr 207 _ sh158 rfl fl_X7_40 dX7_text_204 rfl ?_
      refine z_iconst 208 dX7_text_207 vi1 rfl ?_
      refine z_iconst 209 dX7_text_208 vi0 rfl ?_
      refine y_stZ 210 _ 1 sh169 rfl (by decide) (by decide) rfl dX7_text_209 rfl ?_
      skip
      refine z_iload_n 211 dX7_text_210 rfl rfl ?_
      refine z_iret hq rfl dX7_text_211 rfl rfl ⟨_, ?_, rfl⟩
      refine ⟨rfl, ?_, ?_, fun i hi => ?_, ?_, ?_, ?_, fun a ha g1 g2 g3 g4 g5 g6 g7 g8 => ?_⟩
      · rw [pk_un (by omega), pk_un (by omega), pk_un (by omega), pk_un (by omega), pk_un (by omega), s2 _ (by omega)]; exact f0
      · rw [pk_un (by omega), pk_un (by omega), pk_un (by omega), pk_un (by omega), pk_un (by omega), s2 _ (by omega)]; exact f1
      · rcases hi with hi | rfl | rfl
        · have ea : aR 0 i = 63600 + i := by simp only [aR, if_pos hi]
          rw [ea, pk_un (by omega), pk_un (by omega), pk_un (by omega), pk_un (by omega), pk_un (by omega)]
          exact s1 i hi
        · rw [show aR 0 56 = 400 * 158 + 1 from rfl, pk_un (by omega), pk_un (by omega), pk_un (by omega), pk_un (by omega), pk_us]
        · rw [show aR 0 57 = 400 * 158 + 2 from rfl, pk_un (by omega), pk_un (by omega), pk_un (by omega), pk_us]
      · rw [pk_un (by omega), pk_un (by omega), pk_us]
      · rw [pk_un (by omega), pk_us]
      · rw [pk_us]
      · rw [pk_un (by omega), pk_un (by omega), pk_un (by omega), pk_un (by omega), pk_un (by omega), s2 a g8, o2 a g1 g2]; exact offP_scr o3 a ha
    · intro τ3 s1 s2
      have e1 : τ3 (400 * 160 + 0 + k) = nI (Q k) := (s2 _ (by omega)).trans ((o2 _ (by omega) (by omega)).trans (hD.1.1 k hk))
      refine z_iload_n 152 dX7_text_151 rfl rfl ?_
      refine z_bipush 154 dX7_text_152 vb55 rfl ?_
      refine z_icmp_ge_f 157 175 dX7_text_154 rfl (nI_ge (b := 55) hk (by decide)) rfl ?_
      refine z_aload_n 158 dX7_text_157 rfl rfl ?_
      refine y_getr 161 _ sh158 rfl fl_X7_7 dX7_text_158 rfl ?_
      refine z_iload_n 162 dX7_text_161 rfl rfl ?_
      refine z_aload_n 163 dX7_text_162 rfl rfl ?_
      refine y_getr 166 _ sh158 rfl fl_X7_13 dX7_text_163 rfl ?_
      refine z_iload_n 167 dX7_text_166 rfl rfl ?_
      refine y_ld 168 _ k sh160 rfl (by omega) (by omega) dX7_text_167 rfl ?_
      rw [e1]
      refine y_st 169 _ k sh159 rfl (by omega) (by omega) dX7_text_168 rfl ?_
      refine z_iinc 172 [_, _, _] dX7_text_169 rfl (show _ + _ = nI (_ + 1) from nI_1 _) (by decide) rfl rfl rfl ?_
      refine z_goto 151 dX7_text_172 rfl ?_
      exact ih _ (fun j hj => by
          by_cases z : j = k
          · subst z; exact pk_us
          · exact (pk_un (by omega)).trans (s1 j (by omega))) (fun a ha => (pk_un (by omega)).trans (s2 a ha))
  -- behind the lines
  have fin : ∀ τ1 n u Q T s e, R = .inr (Q, T, n) → okL Q T → s = tn → aTkR B τ1 (.inr (0, s, e)) → hTd τ1 Q T → offP τ1 σ → Y G X mX7_text τ1 86 [some (.ref (zGa G 158)), some (.int (nI n)), u] [] := by
    intro τ1 n u Q T s e eR oL hs P1 hD o1
    obtain ⟨p0, p1, p2, p3, -⟩ := P1
    have hD' := hD
    obtain ⟨⟨d1, d2, d3⟩, d4, o, o2, d5, d6, d7, d8⟩ := hD'
    have b5 := oL.1.nc
    have b4 := oL.1.np
    have nb := nb_hi (Q := Q) d5 d6 b4
    have c1 := hi_cmp (Q 57) (by omega) o (by have := d5.1; omega)
    have c2 := hi_cmp (Q 56) (by omega) o2 (by have := d6.1; omega)
    rw [eR, txR_r] at hX
    by_cases hn : nbP Q T 4 = true
    · rw [if_pos hn] at hX
      have cf := c_fails0 (l := zXl X) (G := G) (τ := τ1) (c := 6) p0
      rw [p2, hs] at cf
      have b6 := endF (upd (upd τ1 (400 * 158 + 12) 6) (400 * 158 + 13) (nI tn)) (nI n) u 6 tn hX (by decide) (by decide) (Nat.le_refl _) (by rw [pk_un (by omega), pk_us]; rfl) pk_us (fun a ha => by rw [pk_un (by omega), pk_un (by omega)]; exact o1 a ha)
      rcases nb.mp hn with z | z
      · skip
        refine z_aload_n 87 dX7_text_86 rfl rfl ?_
        refine y_get 90 _ sh158 rfl fl_X7_63 dX7_text_87 rfl ?_
        rw [p0]
        refine z_if_ne_f 93 121 dX7_text_90 rfl (rfl) rfl ?_
        refine z_aload_n 94 dX7_text_93 rfl rfl ?_
        refine y_get 97 _ sh158 rfl fl_X7_107 dX7_text_94 rfl ?_
        rw [d7]
        refine z_aload_n 98 dX7_text_97 rfl rfl ?_
        refine y_get 101 _ sh158 rfl fl_X7_121 dX7_text_98 rfl ?_
        rw [d3]
        refine z_icmp_ge_t 115 dX7_text_101 rfl (c1.mpr z) ?_
        refine z_aload_n 116 dX7_text_115 rfl rfl ?_
        refine z_bipush 118 dX7_text_116 vb6 rfl ?_
        refine y_cVv 121 _ (cf) sh158 cv_X7_93 ⟨by decide, by decide, rfl, rfl⟩ (Nat.le_of_ble_eq_true rfl) dX7_text_118 rfl rfl ?_
        exact b6
      · by_cases z1 : Q 57 < o
        · skip
          refine z_aload_n 87 dX7_text_86 rfl rfl ?_
          refine y_get 90 _ sh158 rfl fl_X7_63 dX7_text_87 rfl ?_
          rw [p0]
          refine z_if_ne_f 93 121 dX7_text_90 rfl (rfl) rfl ?_
          refine z_aload_n 94 dX7_text_93 rfl rfl ?_
          refine y_get 97 _ sh158 rfl fl_X7_107 dX7_text_94 rfl ?_
          rw [d7]
          refine z_aload_n 98 dX7_text_97 rfl rfl ?_
          refine y_get 101 _ sh158 rfl fl_X7_121 dX7_text_98 rfl ?_
          rw [d3]
          refine z_icmp_ge_t 115 dX7_text_101 rfl (c1.mpr z1) ?_
          refine z_aload_n 116 dX7_text_115 rfl rfl ?_
          refine z_bipush 118 dX7_text_116 vb6 rfl ?_
          refine y_cVv 121 _ (cf) sh158 cv_X7_93 ⟨by decide, by decide, rfl, rfl⟩ (Nat.le_of_ble_eq_true rfl) dX7_text_118 rfl rfl ?_
          exact b6
        · skip
          refine z_aload_n 87 dX7_text_86 rfl rfl ?_
          refine y_get 90 _ sh158 rfl fl_X7_63 dX7_text_87 rfl ?_
          rw [p0]
          refine z_if_ne_f 93 121 dX7_text_90 rfl (rfl) rfl ?_
          refine z_aload_n 94 dX7_text_93 rfl rfl ?_
          refine y_get 97 _ sh158 rfl fl_X7_107 dX7_text_94 rfl ?_
          rw [d7]
          refine z_aload_n 98 dX7_text_97 rfl rfl ?_
          refine y_get 101 _ sh158 rfl fl_X7_121 dX7_text_98 rfl ?_
          rw [d3]
          refine z_icmp_ge_f 104 115 dX7_text_101 rfl (fun q => z1 (c1.mp q)) rfl ?_
          refine z_aload_n 105 dX7_text_104 rfl rfl ?_
          refine y_get 108 _ sh158 rfl fl_X7_115 dX7_text_105 rfl ?_
          rw [d8]
          refine z_aload_n 109 dX7_text_108 rfl rfl ?_
          refine y_get 112 _ sh158 rfl fl_X7_100 dX7_text_109 rfl ?_
          rw [d2]
          refine z_icmp_lt_f 115 121 dX7_text_112 rfl (Int32.not_lt.mpr (c2.mpr z)) rfl ?_
          refine z_aload_n 116 dX7_text_115 rfl rfl ?_
          refine z_bipush 118 dX7_text_116 vb6 rfl ?_
          refine y_cVv 121 _ (cf) sh158 cv_X7_93 ⟨by decide, by decide, rfl, rfl⟩ (Nat.le_of_ble_eq_true rfl) dX7_text_118 rfl rfl ?_
          exact b6
    · rw [if_neg hn] at hX
      have z1 : ¬ Q 57 < o := fun z => hn (nb.mpr (Or.inl z))
      have z2 : ¬ Q 56 < o2 := fun z => hn (nb.mpr (Or.inr z))
      refine z_aload_n 87 dX7_text_86 rfl rfl ?_
      refine y_get 90 _ sh158 rfl fl_X7_63 dX7_text_87 rfl ?_
      rw [p0]
      refine z_if_ne_f 93 121 dX7_text_90 rfl (rfl) rfl ?_
      refine z_aload_n 94 dX7_text_93 rfl rfl ?_
      refine y_get 97 _ sh158 rfl fl_X7_107 dX7_text_94 rfl ?_
      rw [d7]
      refine z_aload_n 98 dX7_text_97 rfl rfl ?_
      refine y_get 101 _ sh158 rfl fl_X7_121 dX7_text_98 rfl ?_
      rw [d3]
      refine z_icmp_ge_f 104 115 dX7_text_101 rfl (fun q => z1 (c1.mp q)) rfl ?_
      refine z_aload_n 105 dX7_text_104 rfl rfl ?_
      refine y_get 108 _ sh158 rfl fl_X7_115 dX7_text_105 rfl ?_
      rw [d8]
      refine z_aload_n 109 dX7_text_108 rfl rfl ?_
      refine y_get 112 _ sh158 rfl fl_X7_100 dX7_text_109 rfl ?_
      rw [d2]
      refine z_icmp_lt_t 121 dX7_text_112 rfl (Int32.not_le.mp (fun q => z2 (c2.mp q))) ?_
      exact endG τ1 n u Q T hX p0 hD o1
  -- at a fault: out
  have out : ∀ τ1 x u c s, R = .inl (c, s) → 1 ≤ c → c ≤ 6 → s ≤ tn → τ1 (400 * 158 + 12) = nI c → τ1 (400 * 158 + 13) = nI s → offP τ1 σ → Y G X mX7_text τ1 62 [some (.ref (zGa G 158)), some (.int x), u] [] := by
    intro τ1 x u c s eR h1 h2 h3 o1 o2 o3
    rw [eR, txR_l] at hX
    have ne : ¬ τ1 (400 * 158 + 12) = 0 := by rw [o1]; exact nI_ne0 (by omega) (by omega)
    refine z_aload_n 63 dX7_text_62 rfl rfl ?_
    refine y_get 66 _ sh158 rfl fl_X7_63 dX7_text_63 rfl ?_
    refine z_if_ne_t 86 dX7_text_66 rfl (ne) ?_
    refine z_aload_n 87 dX7_text_86 rfl rfl ?_
    refine y_get 90 _ sh158 rfl fl_X7_63 dX7_text_87 rfl ?_
    refine z_if_ne_t 121 dX7_text_90 rfl (ne) ?_
    exact endF τ1 x u c s hX h1 h2 h3 o1 o2 o3
  have go : ∀ f n a Q T τ1 u, tn - a < f → a ≤ tn → linF tn B f a Q T n = R → okL Q T → n < 1000 → n ≤ a → PS tn B τ1 (.inr a) → hTd τ1 Q T → offP τ1 σ → Y G X mX7_text τ1 62 [some (.ref (zGa G 158)), some (.int (nI n)), u] [] := by
    intro f
    induction f with
    | zero => intro n a Q T τ1 u hf; omega
    | succ f ih =>
      intro n a Q T τ1 u hf ha hL oL hn hna P1 hD o1
      have P1' : aTkR B τ1 (tokF tn B a) := P1
      cases hk : tokF tn B a with
      | inl q =>
        obtain ⟨c, s⟩ := q
        rw [hk] at P1'
        rw [linF_l hk] at hL
        have hb := tokF_l ha hk
        exact out τ1 _ u c s hL.symm (by omega) (by omega) hb.2 P1'.1 P1'.2 o1
      | inr q =>
      obtain ⟨so, s, e⟩ := q
      rw [hk] at P1'
      have k2 := tokF_ok ha hk
      by_cases z : so = 0
      · rw [linF_e hk z] at hL
        subst z
        have hs := k2.2.2.2.2.2.2 rfl
        have P2 := P1'
        obtain ⟨p0, p1, p2, p3, -⟩ := P1'
        refine z_aload_n 63 dX7_text_62 rfl rfl ?_
        refine y_get 66 _ sh158 rfl fl_X7_63 dX7_text_63 rfl ?_
        rw [p0]
        refine z_if_ne_f 69 86 dX7_text_66 rfl (rfl) rfl ?_
        refine z_aload_n 70 dX7_text_69 rfl rfl ?_
        refine y_get 73 _ sh158 rfl fl_X7_72 dX7_text_70 rfl ?_
        rw [p1]
        refine z_if_eq_t 86 dX7_text_73 rfl (rfl) ?_
        exact fin τ1 n u Q T s e hL.symm oL hs P2 hD o1
      · rw [linF_s hk z] at hL
        obtain ⟨p0, p1, p2, p3, -⟩ := P1'
        have cl := c_readLine7 (l := zXl X) (G := G) (hT.offp o1) ok (hCu_off hC o1) ha hk P1 hD oL.1.nc oL.1.np
        refine z_aload_n 63 dX7_text_62 rfl rfl ?_
        refine y_get 66 _ sh158 rfl fl_X7_63 dX7_text_63 rfl ?_
        rw [p0]
        refine z_if_ne_f 69 86 dX7_text_66 rfl (rfl) rfl ?_
        refine z_aload_n 70 dX7_text_69 rfl rfl ?_
        refine y_get 73 _ sh158 rfl fl_X7_72 dX7_text_70 rfl ?_
        rw [p1]
        refine z_if_eq_f 76 86 dX7_text_73 rfl (fun q => z (nI_eqL (b := 0) (by omega) (by decide) q)) rfl ?_
        refine z_aload_n 77 dX7_text_76 rfl rfl ?_
        refine y_cVP 80 _ (cl) sh158 cv_X7_136 ⟨by decide, by decide, rfl, rfl⟩ (Nat.le_of_ble_eq_true rfl) dX7_text_77 rfl rfl (fun v77 σ77 hp77 => ?_)
        obtain ⟨rfl, w1, w2, w3⟩ := hp77
        show Y G X mX7_text _ 80 _ []
        refine z_iinc 83 [_, _, _] dX7_text_80 rfl (show _ + _ = nI (_ + 1) from nI_1 _) (by decide) rfl rfl rfl ?_
        refine z_goto 62 dX7_text_83 rfl ?_
        skip
        have oo := w3.tr o1
        cases hl : lineF tn B (lnK B so s e) s e Q T with
        | inl q =>
          obtain ⟨c, s'⟩ := q
          have w1 : PS tn B σ77 (.inl (c, s')) := by rw [hl] at w1; exact w1
          have hL : (Sum.inl (c, s') : Sum (Nat × Nat) (Pg × Int32 × Nat)) = R := by rw [hl] at hL; exact hL
          have hb := lineF_l (by omega) k2.2.2.1 hl
          exact out σ77 _ _ c s' hL.symm hb.1 hb.2.1 hb.2.2 w1.1 w1.2 oo
        | inr q =>
          obtain ⟨a', Q', T'⟩ := q
          have w1 : PS tn B σ77 (.inr a') := by rw [hl] at w1; exact w1
          have hL : linF tn B f a' Q' T' (n + 1) = R := by rw [hl] at hL; exact hL
          have k3 := lineF_ok k2.2.2.1 lnK_le oL hl
          have k4 := k2.2.2.2.2.1 z
          exact ih (n + 1) a' Q' T' σ77 _ (by omega) k3.2.1 hL k3.2.2 (by omega) (by omega) w1 (w2 _ hl) oo
  -- the beginning
  refine z_aload_n 1 dX7_text_0 rfl rfl ?_
  refine z_iconst 2 dX7_text_1 vi0 rfl ?_
  refine y_putI 5 _ sh158 rfl fp_X7_63 dX7_text_2 rfl ?_
  refine z_aload_n 6 dX7_text_5 rfl rfl ?_
  refine z_iconst 7 dX7_text_6 vi0 rfl ?_
  refine y_putI 10 _ sh158 rfl fp_X7_75 dX7_text_7 rfl ?_
  refine z_aload_n 11 dX7_text_10 rfl rfl ?_
  refine z_iconst 12 dX7_text_11 vi0 rfl ?_
  refine y_putI 15 _ sh158 rfl fp_X7_100 dX7_text_12 rfl ?_
  refine z_aload_n 16 dX7_text_15 rfl rfl ?_
  refine z_iconst 17 dX7_text_16 vi0 rfl ?_
  refine y_putI 20 _ sh158 rfl fp_X7_121 dX7_text_17 rfl ?_
  refine z_aload_n 21 dX7_text_20 rfl rfl ?_
  refine z_iconst 22 dX7_text_21 vi0 rfl ?_
  refine y_putI 25 _ sh158 rfl fp_X7_112 dX7_text_22 rfl ?_
  refine z_aload_n 26 dX7_text_25 rfl rfl ?_
  refine z_iconst 27 dX7_text_26 vim1 rfl ?_
  refine y_putI 30 _ sh158 rfl fp_X7_107 dX7_text_27 rfl ?_
  refine z_aload_n 31 dX7_text_30 rfl rfl ?_
  refine z_iconst 32 dX7_text_31 vim1 rfl ?_
  refine y_putI 35 _ sh158 rfl fp_X7_115 dX7_text_32 rfl ?_
  refine z_iconst 36 dX7_text_35 vi0 rfl ?_
  refine z_istore_n 37 [_, _, _] dX7_text_36 (by decide) rfl rfl rfl ?_
  refine z_iconst 38 dX7_text_37 vi0 rfl ?_
  refine z_istore_n 39 [_, _, _] dX7_text_38 (by decide) rfl rfl rfl ?_
  refine zup (P := fun k => ∀ τ1, (∀ j, j < k → τ1 (400 * 160 + 0 + j) = 0) → (∀ a, (a < 64000 ∨ 64055 ≤ a) → τ1 a = upd (upd (upd (upd (upd (upd (upd σ (400 * 158 + 12) 0) (400 * 158 + 14) 0) (400 * 158 + 4) 0) (400 * 158 + 5) 0) (400 * 158 + 6) 0) (400 * 158 + 7) (-1)) (400 * 158 + 8) (-1) a) → Y G X mX7_text τ1 39 [some (.ref (zGa G 158)), some (.int (nI 0)), some (.int (nI k))] []) 55 ?_ (fun k hk ih => ?_) 0 (Nat.zero_le _) _ (fun j hj => by omega) (fun _ _ => rfl)
  · intro τ1 s1 s2
    have o1 : offP τ1 σ := fun a ha => by
      rw [s2 a (by omega), pk_un (by omega), pk_un (by omega), pk_un (by omega), pk_un (by omega), pk_un (by omega), pk_un (by omega), pk_un (by omega)]
    have r8 : τ1 (400 * 158 + 8) = -1 := by rw [s2 _ (by omega), pk_us]
    have r7 : τ1 (400 * 158 + 7) = -1 := by rw [s2 _ (by omega), pk_un (by omega), pk_us]
    have r6 : τ1 (400 * 158 + 6) = 0 := by rw [s2 _ (by omega), pk_un (by omega), pk_un (by omega), pk_us]
    have r5 : τ1 (400 * 158 + 5) = 0 := by rw [s2 _ (by omega), pk_un (by omega), pk_un (by omega), pk_un (by omega), pk_us]
    have r4 : τ1 (400 * 158 + 4) = 0 := by rw [s2 _ (by omega), pk_un (by omega), pk_un (by omega), pk_un (by omega), pk_un (by omega), pk_us]
    have r14 : τ1 (400 * 158 + 14) = nI 0 := by rw [s2 _ (by omega), pk_un (by omega), pk_un (by omega), pk_un (by omega), pk_un (by omega), pk_un (by omega), pk_us]; rfl
    have r12 : τ1 (400 * 158 + 12) = 0 := by rw [s2 _ (by omega), pk_un (by omega), pk_un (by omega), pk_un (by omega), pk_un (by omega), pk_un (by omega), pk_un (by omega), pk_us]
    have hD : hTd τ1 Z0 0 := ⟨⟨fun i hi => s1 i hi, r4, r5⟩, r6, 0, 0, ⟨by decide, fun p c _ _ z => absurd z hb_0, fun z => absurd rfl z⟩, ⟨by decide, fun p c _ _ z => absurd z hb_0, fun z => absurd rfl z⟩, r7, r8⟩
    have cs := c_step (l := zXl X) (G := G) (hT.offp o1) ok (Nat.zero_le _) r14 r12
    refine z_iload_n 40 dX7_text_39 rfl rfl ?_
    refine z_bipush 42 dX7_text_40 vb55 rfl ?_
    refine z_icmp_ge_t 58 dX7_text_42 rfl (Int32.le_refl _) ?_
    refine z_aload_n 59 dX7_text_58 rfl rfl ?_
    refine y_cVP 62 _ (cs) sh158 cv_X7_97 ⟨by decide, by decide, rfl, rfl⟩ (Nat.le_of_ble_eq_true rfl) dX7_text_59 rfl rfl (fun v59 σ59 hp59 => ?_)
    obtain ⟨rfl, w1, w2⟩ := hp59
    show Y G X mX7_text _ 62 _ []
    exact go 161 0 0 Z0 0 σ59 _ (by omega) (Nat.zero_le _) hR okL_0 (by decide) (Nat.le_refl _) w1 (hD.off w2) (w2.p.tr o1)
  · intro τ1 s1 s2
    refine z_iload_n 40 dX7_text_39 rfl rfl ?_
    refine z_bipush 42 dX7_text_40 vb55 rfl ?_
    refine z_icmp_ge_f 45 58 dX7_text_42 rfl (nI_ge (b := 55) hk (by decide)) rfl ?_
    refine z_aload_n 46 dX7_text_45 rfl rfl ?_
    refine y_getr 49 _ sh158 rfl fl_X7_13 dX7_text_46 rfl ?_
    refine z_iload_n 50 dX7_text_49 rfl rfl ?_
    refine z_iconst 51 dX7_text_50 vi0 rfl ?_
    refine y_st 52 _ k sh160 rfl (by omega) (by omega) dX7_text_51 rfl ?_
    refine z_iinc 55 [_, _, _] dX7_text_52 rfl (show _ + _ = nI (_ + 1) from nI_1 _) (by decide) rfl rfl rfl ?_
    refine z_goto 39 dX7_text_55 rfl ?_
    exact ih _ (fun j hj => by
        by_cases z : j = k
        · subst z; exact pk_us
        · exact (pk_un (by omega)).trans (s1 j (by omega))) (fun a ha => (pk_un (by omega)).trans (s2 a ha))

