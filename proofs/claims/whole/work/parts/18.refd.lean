/-! ===== the reference's days, copies, loans ===== -/
set_option maxRecDepth 100000 in
theorem c_hueOn {l : Launch} {G : zG} {σ : Nat → Int32} {o p : Nat} {Q : Pg} (hQ : hdr σ o Q) (ho : o ≤ 275) (ok : okQ Q) (hp : p < 4) : zMet l yX7_hueOn mX7_hueOn [.ref (zGa G 158), .int (nI o), .int (nI p)] G (zW G σ) (zFn G (some (.int (nI (hueQ Q p)))) σ) := by
  have hn := ok.nc
  have hall : heldQ Q p ≤ 5 * 99 := sumN_ltb hn (fun i hi => ok.he hp (by omega))
  have hb : ∀ x c, x < 3 → c ≤ Q 56 → sumN (fun c => Q (33 + 5 * p + c) * Q (5 + 5 * x + c)) c ≤ 5 * 891 := fun x c hx hc => sumN_ltb (by omega) (fun i hi => by
    have h1 := ok.he hp (show i < 5 by omega)
    have h2 := ok.2.1 (5 * x + i) (by omega)
    have h3 : Q (33 + 5 * p + i) * Q (5 + 5 * x + i) ≤ 99 * 9 := Nat.mul_le_mul h1 (by rw [Nat.add_assoc 5]; omega)
    omega)
  let hue : Nat → Nat := fun x => match x with | 0 => 0 | 1 => 10 * 0 + sumN (fun c => Q (33 + 5 * p + c) * Q (5 + 5 * 0 + c)) (Q 56) / heldQ Q p | 2 => 10 * (10 * 0 + sumN (fun c => Q (33 + 5 * p + c) * Q (5 + 5 * 0 + c)) (Q 56) / heldQ Q p) + sumN (fun c => Q (33 + 5 * p + c) * Q (5 + 5 * 1 + c)) (Q 56) / heldQ Q p | _ => hueQ Q p
  refine zMet.of (by decide) rfl (Nat.le_of_ble_eq_true rfl) (Or.inr rfl) fun X hX hq => ?_
  subst hX
  show Y G X mX7_hueOn σ 0 [some (.ref (zGa G 158)), some (.int (nI o)), some (.int (nI p)), none, none, none, none, none] []
  refine z_aload_n 1 dX7_hueOn_0 rfl rfl ?_
  refine z_iload_n 2 dX7_hueOn_1 rfl rfl ?_
  refine z_iload_n 3 dX7_hueOn_2 rfl rfl ?_
  refine y_cVs 6 _ (c_heldOn hQ ho hn hp) sh158 cv_X7_151 ⟨by decide, by decide, rfl, rfl⟩ (Nat.le_of_ble_eq_true rfl) dX7_hueOn_3 rfl rfl ?_
  refine z_istore_n 7 [_, _, _, _, _, _, _, _] dX7_hueOn_6 (by decide) rfl rfl rfl ?_
  refine z_iconst 8 dX7_hueOn_7 vi0 rfl ?_
  refine z_istore 10 [_, _, _, _, _, _, _, _] dX7_hueOn_8 (by decide) rfl rfl rfl ?_
  refine z_iconst 11 dX7_hueOn_10 vi0 rfl ?_
  refine z_istore 13 [_, _, _, _, _, _, _, _] dX7_hueOn_11 (by decide) rfl rfl rfl ?_
  refine zup (P := fun x => ∀ u v, Y G X mX7_hueOn σ 13 [some (.ref (zGa G 158)), some (.int (nI o)), some (.int (nI p)), some (.int (nI (heldQ Q p))), some (.int (nI (hue x))), some (.int (nI (5 * x))), u, v] []) 3 ?_ (fun x hx ihx => ?_) 0 (Nat.zero_le _) none none
  · intro u v
    refine z_iload 15 dX7_hueOn_13 rfl rfl ?_
    refine z_bipush 17 dX7_hueOn_15 vb15 rfl ?_
    refine z_icmp_ge_t 103 dX7_hueOn_17 rfl (nI_le (a := 15) (b := 5 * 3) (by decide) (by decide)) ?_
    refine z_iload 105 dX7_hueOn_103 rfl rfl ?_
    refine z_iret hq rfl dX7_hueOn_105 rfl rfl ?_
    exact ⟨rfl, rfl⟩
  · intro u v
    refine z_iload 15 dX7_hueOn_13 rfl rfl ?_
    refine z_bipush 17 dX7_hueOn_15 vb15 rfl ?_
    refine z_icmp_ge_f 20 103 dX7_hueOn_17 rfl (nI_ge (b := 15) (by omega) (by decide)) rfl ?_
    refine z_iconst 21 dX7_hueOn_20 vi0 rfl ?_
    refine z_istore 23 [_, _, _, _, _, _, _, _] dX7_hueOn_21 (by decide) rfl rfl rfl ?_
    refine z_iconst 24 dX7_hueOn_23 vi0 rfl ?_
    refine z_istore 26 [_, _, _, _, _, _, _, _] dX7_hueOn_24 (by decide) rfl rfl rfl ?_
    refine zup (P := fun i => Y G X mX7_hueOn σ 26 [some (.ref (zGa G 158)), some (.int (nI o)), some (.int (nI p)), some (.int (nI (heldQ Q p))), some (.int (nI (hue x))), some (.int (nI (5 * x))), some (.int (nI (sumN (fun c => Q (33 + 5 * p + c) * Q (5 + 5 * x + c)) i))), some (.int (nI i))] []) (Q 56) ?_ (fun i hi ih => ?_) 0 (Nat.zero_le _)
    · have hbx := hb x (Q 56) hx (Nat.le_refl _)
      have ehue : hue (x + 1) = 10 * hue x + sumN (fun c => Q (33 + 5 * p + c) * Q (5 + 5 * x + c)) (Q 56) / heldQ Q p := by
        rcases (show x = 0 ∨ x = 1 ∨ x = 2 by omega) with e | e | e <;> subst e <;> rfl
      have ix : nI (5 * x) + 5 = nI (5 * (x + 1)) := zi_add rfl (show (5 : Int32) = nI 5 from rfl)
      rcases Nat.eq_zero_or_pos (heldQ Q p) with h0 | hpos
      · skip
        refine z_iload 28 dX7_hueOn_26 rfl rfl ?_
        refine z_aload_n 29 dX7_hueOn_28 rfl rfl ?_
        refine m_get 32 hQ rfl (by decide) fl_X7_142 dX7_hueOn_29 rfl ?_
        refine z_icmp_ge_t 77 dX7_hueOn_32 rfl (Int32.le_refl _) ?_
        refine z_bipush 79 dX7_hueOn_77 vb10 rfl ?_
        refine z_iload 81 dX7_hueOn_79 rfl rfl ?_
        refine z_imulN 82 (show (10 : Int32) = nI 10 from rfl) rfl dX7_hueOn_81 rfl ?_
        refine z_iload_n 83 dX7_hueOn_82 rfl rfl ?_
        refine z_if_ne_f 86 90 dX7_hueOn_83 rfl (by rw [h0]; rfl) rfl ?_
        refine z_iconst 87 dX7_hueOn_86 vi0 rfl ?_
        refine z_goto 94 dX7_hueOn_87 rfl ?_
        refine z_iaddN 95 rfl (show (0 : Int32) = nI 0 from rfl) dX7_hueOn_94 rfl ?_
        refine z_istore 97 [_, _, _, _, _, _, _, _] dX7_hueOn_95 (by decide) rfl rfl rfl ?_
        refine z_iinc 100 [_, _, _, _, _, _, _, _] dX7_hueOn_97 rfl (show _ + Int32.ofInt (5) = _ + (5) from congrArg _ vi5) (by decide) rfl rfl rfl ?_
        refine z_goto 13 dX7_hueOn_100 rfl ?_
        rw [ix]
        rw [h0, Nat.div_zero] at ehue
        rw [ehue] at ihx
        exact ihx _ _
      · skip
        refine z_iload 28 dX7_hueOn_26 rfl rfl ?_
        refine z_aload_n 29 dX7_hueOn_28 rfl rfl ?_
        refine m_get 32 hQ rfl (by decide) fl_X7_142 dX7_hueOn_29 rfl ?_
        refine z_icmp_ge_t 77 dX7_hueOn_32 rfl (Int32.le_refl _) ?_
        refine z_bipush 79 dX7_hueOn_77 vb10 rfl ?_
        refine z_iload 81 dX7_hueOn_79 rfl rfl ?_
        refine z_imulN 82 (show (10 : Int32) = nI 10 from rfl) rfl dX7_hueOn_81 rfl ?_
        refine z_iload_n 83 dX7_hueOn_82 rfl rfl ?_
        refine z_if_ne_t 90 dX7_hueOn_83 rfl (nI_ne0 hpos (by omega)) ?_
        refine z_iload 92 dX7_hueOn_90 rfl rfl ?_
        refine z_iload_n 93 dX7_hueOn_92 rfl rfl ?_
        refine z_idivN 94 rfl rfl (by omega) (by omega) dX7_hueOn_93 rfl ?_
        refine z_iaddN 95 rfl rfl dX7_hueOn_94 rfl ?_
        refine z_istore 97 [_, _, _, _, _, _, _, _] dX7_hueOn_95 (by decide) rfl rfl rfl ?_
        refine z_iinc 100 [_, _, _, _, _, _, _, _] dX7_hueOn_97 rfl (show _ + Int32.ofInt (5) = _ + (5) from congrArg _ vi5) (by decide) rfl rfl rfl ?_
        refine z_goto 13 dX7_hueOn_100 rfl ?_
        rw [ix]
        rw [ehue] at ihx
        exact ihx _ _
    · skip
      refine z_iload 28 dX7_hueOn_26 rfl rfl ?_
      refine z_aload_n 29 dX7_hueOn_28 rfl rfl ?_
      refine m_get 32 hQ rfl (by decide) fl_X7_142 dX7_hueOn_29 rfl ?_
      refine z_icmp_ge_f 35 77 dX7_hueOn_32 rfl (nI_ge hi (by omega)) rfl ?_
      refine z_iload 37 dX7_hueOn_35 rfl rfl ?_
      refine z_aload_n 38 dX7_hueOn_37 rfl rfl ?_
      refine y_getr 41 _ sh158 rfl fl_X7_7 dX7_hueOn_38 rfl ?_
      refine z_iload_n 42 dX7_hueOn_41 rfl rfl ?_
      refine z_bipush 44 dX7_hueOn_42 vb33 rfl ?_
      refine z_iaddN 45 rfl (show (33 : Int32) = nI 33 from rfl) dX7_hueOn_44 rfl ?_
      refine z_iconst 46 dX7_hueOn_45 vi5 rfl ?_
      refine z_iload_n 47 dX7_hueOn_46 rfl rfl ?_
      refine z_imulN 48 (show (5 : Int32) = nI 5 from rfl) rfl dX7_hueOn_47 rfl ?_
      refine z_iaddN 49 rfl rfl dX7_hueOn_48 rfl ?_
      refine z_iload 51 dX7_hueOn_49 rfl rfl ?_
      refine z_iaddN 52 rfl rfl dX7_hueOn_51 rfl ?_
      refine m_ld 53 (33 + 5 * p + i) hQ rfl (by omega) (by omega) (by omega) dX7_hueOn_52 rfl ?_
      refine z_aload_n 54 dX7_hueOn_53 rfl rfl ?_
      refine y_getr 57 _ sh158 rfl fl_X7_7 dX7_hueOn_54 rfl ?_
      refine z_iload_n 58 dX7_hueOn_57 rfl rfl ?_
      refine z_iconst 59 dX7_hueOn_58 vi5 rfl ?_
      refine z_iaddN 60 rfl (show (5 : Int32) = nI 5 from rfl) dX7_hueOn_59 rfl ?_
      refine z_iload 62 dX7_hueOn_60 rfl rfl ?_
      refine z_iaddN 63 rfl rfl dX7_hueOn_62 rfl ?_
      refine z_iload 65 dX7_hueOn_63 rfl rfl ?_
      refine z_iaddN 66 rfl rfl dX7_hueOn_65 rfl ?_
      refine m_ld 67 (5 + 5 * x + i) hQ rfl (by omega) (by omega) (by omega) dX7_hueOn_66 rfl ?_
      refine z_imulN 68 rfl rfl dX7_hueOn_67 rfl ?_
      refine z_iaddN 69 rfl rfl dX7_hueOn_68 rfl ?_
      refine z_istore 71 [_, _, _, _, _, _, _, _] dX7_hueOn_69 (by decide) rfl rfl rfl ?_
      refine z_iinc 74 [_, _, _, _, _, _, _, _] dX7_hueOn_71 rfl (show _ + _ = nI (_ + 1) from nI_1 _) (by decide) rfl rfl rfl ?_
      refine z_goto 26 dX7_hueOn_74 rfl ?_
      exact ih
set_option maxRecDepth 100000 in
theorem c_colourGoes {l : Launch} {G : zG} {σ : Nat → Int32} {o p c t : Nat} {Q : Pg} (hQ : hdr σ o Q) (ho : o ≤ 275) (ok : okQ Q) (hp : p < 4) (hc : c < 5) (ht : t ≤ 2) : zMet l yX7_colourGoes mX7_colourGoes [.ref (zGa G 158), .int (nI o), .int (nI p), .int (nI c), .int (nI t)] G (zW G σ) (zFn G none (rsp σ o (colGo Q p c t))) := by
  have hdr_rsp : ∀ {R : Pg}, hdr (rsp σ o R) o R := hdr_rsp' ho
  have b4 := ok.he hp hc
  have b5 := ok.pu hp
  have b6 := rentK_le (Q c)
  have b7 := fadeK_le (Q c)
  have b8 : t * fadeK (Q c) ≤ 2 * 3 := Nat.mul_le_mul ht b7
  have b9 : rentK (Q c) * Q (33 + 5 * p + c) ≤ 6 * 99 := Nat.mul_le_mul b6 b4
  have bv := ok.vt hc
  have g1 : ∀ v, un Q (25 + p) v 55 = Q 55 := fun v => un_n (by omega)
  have g2 : ∀ v w, un (un Q (25 + p) v) 55 w c = Q c := fun v w => by rw [un_n (by omega), un_n (by omega)]
  have g3 : ∀ v w, un (un Q (25 + p) v) 55 w (33 + 5 * p + c) = Q (33 + 5 * p + c) := fun v w => by rw [un_n (by omega), un_n (by omega)]
  have g4 : ∀ v w, un (un Q (20 + c) v) (33 + 5 * p + c) w 54 = Q 54 := fun v w => by rw [un_n (by omega), un_n (by omega)]
  have g5 : ∀ v w z, un (un (un Q (20 + c) v) (33 + 5 * p + c) w) 54 z (58 + p) = Q (58 + p) := fun v w z => by rw [un_n (by omega), un_n (by omega), un_n (by omega)]
  conv => arg 6; rw [← rsp_self hQ]
  refine zMet.of (by decide) rfl (Nat.le_of_ble_eq_true rfl) (Or.inr rfl) fun X hX hq => ?_
  subst hX
  show Y G X mX7_colourGoes (rsp σ o Q) 0 [some (.ref (zGa G 158)), some (.int (nI o)), some (.int (nI p)), some (.int (nI c)), some (.int (nI t)), none, none, none] []
  refine z_iload_n 1 dX7_colourGoes_0 rfl rfl ?_
  refine z_bipush 3 dX7_colourGoes_1 vb33 rfl ?_
  refine z_iaddN 4 rfl (show (33 : Int32) = nI 33 from rfl) dX7_colourGoes_3 rfl ?_
  refine z_iconst 5 dX7_colourGoes_4 vi5 rfl ?_
  refine z_iload_n 6 dX7_colourGoes_5 rfl rfl ?_
  refine z_imulN 7 (show (5 : Int32) = nI 5 from rfl) rfl dX7_colourGoes_6 rfl ?_
  refine z_iaddN 8 rfl rfl dX7_colourGoes_7 rfl ?_
  refine z_iload_n 9 dX7_colourGoes_8 rfl rfl ?_
  refine z_iaddN 10 rfl rfl dX7_colourGoes_9 rfl ?_
  refine z_istore 12 [_, _, _, _, _, _, _, _] dX7_colourGoes_10 (by decide) rfl rfl rfl ?_
  refine z_aload_n 13 dX7_colourGoes_12 rfl rfl ?_
  refine z_iload_n 14 dX7_colourGoes_13 rfl rfl ?_
  refine z_iload_n 15 dX7_colourGoes_14 rfl rfl ?_
  refine y_cVs 18 _ (c_rentOn hdr_rsp ho hc (ok.kd hc)) sh158 cv_X7_157 ⟨by decide, by decide, rfl, rfl⟩ (Nat.le_of_ble_eq_true rfl) dX7_colourGoes_15 rfl rfl ?_
  refine z_aload_n 19 dX7_colourGoes_18 rfl rfl ?_
  refine y_getr 22 _ sh158 rfl fl_X7_7 dX7_colourGoes_19 rfl ?_
  refine z_iload 24 dX7_colourGoes_22 rfl rfl ?_
  refine m_ld 25 (33 + 5 * p + c) hdr_rsp rfl (by omega) (by omega) (by omega) dX7_colourGoes_24 rfl ?_
  refine z_imulN 26 rfl rfl dX7_colourGoes_25 rfl ?_
  refine z_istore 28 [_, _, _, _, _, _, _, _] dX7_colourGoes_26 (by decide) rfl rfl rfl ?_
  refine z_aload_n 29 dX7_colourGoes_28 rfl rfl ?_
  refine y_getr 32 _ sh158 rfl fl_X7_7 dX7_colourGoes_29 rfl ?_
  refine z_iload 34 dX7_colourGoes_32 rfl rfl ?_
  refine m_ld 35 (33 + 5 * p + c) hdr_rsp rfl (by omega) (by omega) (by omega) dX7_colourGoes_34 rfl ?_
  refine z_if_ne 39 38 dX7_colourGoes_35 rfl rfl (fun h35 => ?_) (fun h35 => ?_)
  · skip
    have h0 : Q (33 + 5 * p + c) ≠ 0 := fun e => h35 (by rw [e]; rfl)
    refine z_aload_n 40 dX7_colourGoes_39 rfl rfl ?_
    refine y_getr 43 _ sh158 rfl fl_X7_7 dX7_colourGoes_40 rfl ?_
    refine z_iload_n 44 dX7_colourGoes_43 rfl rfl ?_
    refine z_bipush 46 dX7_colourGoes_44 vb25 rfl ?_
    refine z_iaddN 47 rfl (show (25 : Int32) = nI 25 from rfl) dX7_colourGoes_46 rfl ?_
    refine z_iload_n 48 dX7_colourGoes_47 rfl rfl ?_
    refine z_iaddN 49 rfl rfl dX7_colourGoes_48 rfl ?_
    refine m_ld 50 (25 + p) hdr_rsp rfl (by omega) (by omega) (by omega) dX7_colourGoes_49 rfl ?_
    refine z_iload 52 dX7_colourGoes_50 rfl rfl ?_
    refine z_icmp_lt 130 55 dX7_colourGoes_52 rfl rfl (fun h52 => ?_) (fun h52 => ?_)
    · skip
      have h1 : Q (25 + p) < rentK (Q c) * Q (33 + 5 * p + c) := (nI_ltI (by omega) (by omega)).mp h52
      refine z_aload_n 131 dX7_colourGoes_130 rfl rfl ?_
      refine y_getr 134 _ sh158 rfl fl_X7_7 dX7_colourGoes_131 rfl ?_
      refine z_iload_n 135 dX7_colourGoes_134 rfl rfl ?_
      refine z_bipush 137 dX7_colourGoes_135 vb20 rfl ?_
      refine z_iaddN 138 rfl (show (20 : Int32) = nI 20 from rfl) dX7_colourGoes_137 rfl ?_
      refine z_iload_n 139 dX7_colourGoes_138 rfl rfl ?_
      refine z_iaddN 140 rfl rfl dX7_colourGoes_139 rfl ?_
      refine m_ld 141 (20 + c) hdr_rsp rfl (by omega) (by omega) (by omega) dX7_colourGoes_140 rfl ?_
      refine z_aload_n 142 dX7_colourGoes_141 rfl rfl ?_
      refine y_getr 145 _ sh158 rfl fl_X7_7 dX7_colourGoes_142 rfl ?_
      refine z_iload 147 dX7_colourGoes_145 rfl rfl ?_
      refine m_ld 148 (33 + 5 * p + c) hdr_rsp rfl (by omega) (by omega) (by omega) dX7_colourGoes_147 rfl ?_
      refine z_iaddN 149 rfl rfl dX7_colourGoes_148 rfl ?_
      refine z_istore 151 [_, _, _, _, _, _, _, _] dX7_colourGoes_149 (by decide) rfl rfl rfl ?_
      refine z_aload_n 152 dX7_colourGoes_151 rfl rfl ?_
      refine y_getr 155 _ sh158 rfl fl_X7_7 dX7_colourGoes_152 rfl ?_
      refine z_iload_n 156 dX7_colourGoes_155 rfl rfl ?_
      refine z_bipush 158 dX7_colourGoes_156 vb20 rfl ?_
      refine z_iaddN 159 rfl (show (20 : Int32) = nI 20 from rfl) dX7_colourGoes_158 rfl ?_
      refine z_iload_n 160 dX7_colourGoes_159 rfl rfl ?_
      refine z_iaddN 161 rfl rfl dX7_colourGoes_160 rfl ?_
      refine z_iload 163 dX7_colourGoes_161 rfl rfl ?_
      refine z_bipush 165 dX7_colourGoes_163 vb99 rfl ?_
      refine z_icmp_le 173 168 dX7_colourGoes_165 rfl rfl (fun h165 => ?_) (fun h165 => ?_)
      · skip
        have h3 : Q (20 + c) + Q (33 + 5 * p + c) ≤ 99 := (nI_leI (b := 99) (by omega) (by decide)).mp h165
        have em : min 99 (Q (20 + c) + Q (33 + 5 * p + c)) = Q (20 + c) + Q (33 + 5 * p + c) := by omega
        refine z_iload 175 dX7_colourGoes_173 rfl rfl ?_
        refine w_st 176 (20 + c) rfl (by omega) (by omega) (by omega) rfl dX7_colourGoes_175 rfl ?_
        refine z_aload_n 177 dX7_colourGoes_176 rfl rfl ?_
        refine y_getr 180 _ sh158 rfl fl_X7_7 dX7_colourGoes_177 rfl ?_
        refine z_iload 182 dX7_colourGoes_180 rfl rfl ?_
        refine z_iconst 183 dX7_colourGoes_182 vi0 rfl ?_
        refine w_st 184 (33 + 5 * p + c) rfl (by omega) (by omega) (by omega) (show (0 : Int32) = nI 0 from rfl) dX7_colourGoes_183 rfl ?_
        refine z_aload_n 185 dX7_colourGoes_184 rfl rfl ?_
        refine y_getr 188 _ sh158 rfl fl_X7_7 dX7_colourGoes_185 rfl ?_
        refine z_iload_n 189 dX7_colourGoes_188 rfl rfl ?_
        refine z_bipush 191 dX7_colourGoes_189 vb54 rfl ?_
        refine z_iaddN 192 rfl (show (54 : Int32) = nI 54 from rfl) dX7_colourGoes_191 rfl ?_
        refine z_dup2 193 dX7_colourGoes_192 rfl rfl rfl ?_
        refine m_ld 194 (54) hdr_rsp rfl (by omega) (by omega) (by omega) dX7_colourGoes_193 rfl ?_
        rw [g4]
        refine z_iconst 195 dX7_colourGoes_194 vi1 rfl ?_
        refine z_iaddN 196 rfl (show (1 : Int32) = nI 1 from rfl) dX7_colourGoes_195 rfl ?_
        refine w_st 197 (54) rfl (by omega) (by omega) (by omega) rfl dX7_colourGoes_196 rfl ?_
        refine z_aload_n 198 dX7_colourGoes_197 rfl rfl ?_
        refine y_getr 201 _ sh158 rfl fl_X7_25 dX7_colourGoes_198 rfl ?_
        refine z_iload_n 202 dX7_colourGoes_201 rfl rfl ?_
        refine z_dup2 203 dX7_colourGoes_202 rfl rfl rfl ?_
        refine m_ldS 204 (p) hdr_rsp rfl (by omega) (by omega) dX7_colourGoes_203 rfl ?_
        rw [g5]
        refine z_iconst 205 dX7_colourGoes_204 vi1 rfl ?_
        refine z_iaddN 206 rfl (show (1 : Int32) = nI 1 from rfl) dX7_colourGoes_205 rfl ?_
        refine w_stS 207 (p) rfl (by omega) (by omega) (by omega) rfl dX7_colourGoes_206 rfl ?_
        refine z_vret hq rfl dX7_colourGoes_207 rfl rfl ?_
        exact ⟨rfl, by simp only [colGo]; rw [if_neg h0, if_neg (by rw [Nat.mul_comm]; omega), em]⟩
      · skip
        have h3 : 99 < Q (20 + c) + Q (33 + 5 * p + c) := by
            rcases Nat.lt_or_ge 99 (Q (20 + c) + Q (33 + 5 * p + c)) with q | q
            · exact q
            · exact absurd (nI_le q (by decide)) h165
        have em : min 99 (Q (20 + c) + Q (33 + 5 * p + c)) = 99 := by omega
        refine z_bipush 170 dX7_colourGoes_168 vb99 rfl ?_
        refine z_goto 175 dX7_colourGoes_170 rfl ?_
        refine w_st 176 (20 + c) rfl (by omega) (by omega) (by omega) (show (99 : Int32) = nI 99 from rfl) dX7_colourGoes_175 rfl ?_
        refine z_aload_n 177 dX7_colourGoes_176 rfl rfl ?_
        refine y_getr 180 _ sh158 rfl fl_X7_7 dX7_colourGoes_177 rfl ?_
        refine z_iload 182 dX7_colourGoes_180 rfl rfl ?_
        refine z_iconst 183 dX7_colourGoes_182 vi0 rfl ?_
        refine w_st 184 (33 + 5 * p + c) rfl (by omega) (by omega) (by omega) (show (0 : Int32) = nI 0 from rfl) dX7_colourGoes_183 rfl ?_
        refine z_aload_n 185 dX7_colourGoes_184 rfl rfl ?_
        refine y_getr 188 _ sh158 rfl fl_X7_7 dX7_colourGoes_185 rfl ?_
        refine z_iload_n 189 dX7_colourGoes_188 rfl rfl ?_
        refine z_bipush 191 dX7_colourGoes_189 vb54 rfl ?_
        refine z_iaddN 192 rfl (show (54 : Int32) = nI 54 from rfl) dX7_colourGoes_191 rfl ?_
        refine z_dup2 193 dX7_colourGoes_192 rfl rfl rfl ?_
        refine m_ld 194 (54) hdr_rsp rfl (by omega) (by omega) (by omega) dX7_colourGoes_193 rfl ?_
        rw [g4]
        refine z_iconst 195 dX7_colourGoes_194 vi1 rfl ?_
        refine z_iaddN 196 rfl (show (1 : Int32) = nI 1 from rfl) dX7_colourGoes_195 rfl ?_
        refine w_st 197 (54) rfl (by omega) (by omega) (by omega) rfl dX7_colourGoes_196 rfl ?_
        refine z_aload_n 198 dX7_colourGoes_197 rfl rfl ?_
        refine y_getr 201 _ sh158 rfl fl_X7_25 dX7_colourGoes_198 rfl ?_
        refine z_iload_n 202 dX7_colourGoes_201 rfl rfl ?_
        refine z_dup2 203 dX7_colourGoes_202 rfl rfl rfl ?_
        refine m_ldS 204 (p) hdr_rsp rfl (by omega) (by omega) dX7_colourGoes_203 rfl ?_
        rw [g5]
        refine z_iconst 205 dX7_colourGoes_204 vi1 rfl ?_
        refine z_iaddN 206 rfl (show (1 : Int32) = nI 1 from rfl) dX7_colourGoes_205 rfl ?_
        refine w_stS 207 (p) rfl (by omega) (by omega) (by omega) rfl dX7_colourGoes_206 rfl ?_
        refine z_vret hq rfl dX7_colourGoes_207 rfl rfl ?_
        exact ⟨rfl, by simp only [colGo]; rw [if_neg h0, if_neg (by rw [Nat.mul_comm]; omega), em]⟩
    · skip
      have h1 : rentK (Q c) * Q (33 + 5 * p + c) ≤ Q (25 + p) := by
          rcases Nat.lt_or_ge (Q (25 + p)) (rentK (Q c) * Q (33 + 5 * p + c)) with q | q
          · exact absurd (nI_lt q (by omega)) h52
          · exact q
      refine z_aload_n 56 dX7_colourGoes_55 rfl rfl ?_
      refine y_getr 59 _ sh158 rfl fl_X7_7 dX7_colourGoes_56 rfl ?_
      refine z_iload_n 60 dX7_colourGoes_59 rfl rfl ?_
      refine z_bipush 62 dX7_colourGoes_60 vb25 rfl ?_
      refine z_iaddN 63 rfl (show (25 : Int32) = nI 25 from rfl) dX7_colourGoes_62 rfl ?_
      refine z_iload_n 64 dX7_colourGoes_63 rfl rfl ?_
      refine z_iaddN 65 rfl rfl dX7_colourGoes_64 rfl ?_
      refine z_dup2 66 dX7_colourGoes_65 rfl rfl rfl ?_
      refine m_ld 67 (25 + p) hdr_rsp rfl (by omega) (by omega) (by omega) dX7_colourGoes_66 rfl ?_
      refine z_iload 69 dX7_colourGoes_67 rfl rfl ?_
      refine z_isubN 70 rfl rfl h1 dX7_colourGoes_69 rfl ?_
      refine w_st 71 (25 + p) rfl (by omega) (by omega) (by omega) rfl dX7_colourGoes_70 rfl ?_
      refine z_aload_n 72 dX7_colourGoes_71 rfl rfl ?_
      refine z_dup 73 dX7_colourGoes_72 rfl rfl ?_
      refine m_get 76 hdr_rsp rfl (by decide) fl_X7_160 dX7_colourGoes_73 rfl ?_
      rw [g1]
      refine z_iload 78 dX7_colourGoes_76 rfl rfl ?_
      refine z_iaddN 79 rfl rfl dX7_colourGoes_78 rfl ?_
      refine w_put 82 (by omega) rfl fp_X7_160 dX7_colourGoes_79 rfl ?_
      refine z_iload 84 dX7_colourGoes_82 rfl rfl ?_
      refine z_aload_n 85 dX7_colourGoes_84 rfl rfl ?_
      refine z_iload_n 86 dX7_colourGoes_85 rfl rfl ?_
      refine z_iload_n 87 dX7_colourGoes_86 rfl rfl ?_
      refine y_cVs 90 _ (c_fadesOn hdr_rsp ho hc (by rw [g2]; exact ok.kd hc)) sh158 cv_X7_163 ⟨by decide, by decide, rfl, rfl⟩ (Nat.le_of_ble_eq_true rfl) dX7_colourGoes_87 rfl rfl ?_
      rw [g2]
      refine z_imulN 91 rfl rfl dX7_colourGoes_90 rfl ?_
      refine z_istore 93 [_, _, _, _, _, _, _, _] dX7_colourGoes_91 (by decide) rfl rfl rfl ?_
      refine z_aload_n 94 dX7_colourGoes_93 rfl rfl ?_
      refine y_getr 97 _ sh158 rfl fl_X7_7 dX7_colourGoes_94 rfl ?_
      refine z_iload 99 dX7_colourGoes_97 rfl rfl ?_
      refine z_dup2 100 dX7_colourGoes_99 rfl rfl rfl ?_
      refine m_ld 101 (33 + 5 * p + c) hdr_rsp rfl (by omega) (by omega) (by omega) dX7_colourGoes_100 rfl ?_
      rw [g3]
      refine z_iload 103 dX7_colourGoes_101 rfl rfl ?_
      refine z_aload_n 104 dX7_colourGoes_103 rfl rfl ?_
      refine y_getr 107 _ sh158 rfl fl_X7_7 dX7_colourGoes_104 rfl ?_
      refine z_iload 109 dX7_colourGoes_107 rfl rfl ?_
      refine m_ld 110 (33 + 5 * p + c) hdr_rsp rfl (by omega) (by omega) (by omega) dX7_colourGoes_109 rfl ?_
      rw [g3]
      refine z_icmp_ge 118 113 dX7_colourGoes_110 rfl rfl (fun h110 => ?_) (fun h110 => ?_)
      · skip
        have h2 : Q (33 + 5 * p + c) ≤ t * fadeK (Q c) := (nI_leI (by omega) (by omega)).mp h110
        refine z_aload_n 119 dX7_colourGoes_118 rfl rfl ?_
        refine y_getr 122 _ sh158 rfl fl_X7_7 dX7_colourGoes_119 rfl ?_
        refine z_iload 124 dX7_colourGoes_122 rfl rfl ?_
        refine m_ld 125 (33 + 5 * p + c) hdr_rsp rfl (by omega) (by omega) (by omega) dX7_colourGoes_124 rfl ?_
        rw [g3]
        refine z_isubN 126 rfl rfl (Nat.le_refl _) dX7_colourGoes_125 rfl ?_
        refine w_st 127 (33 + 5 * p + c) rfl (by omega) (by omega) (by omega) rfl dX7_colourGoes_126 rfl ?_
        refine z_goto 207 dX7_colourGoes_127 rfl ?_
        refine z_vret hq rfl dX7_colourGoes_207 rfl rfl ?_
        exact ⟨rfl, by simp only [colGo]; rw [if_neg h0, if_pos (by rw [Nat.mul_comm]; exact h1), Nat.mul_comm (rentK (Q c)), Nat.sub_self, Nat.sub_eq_zero_of_le h2]⟩
      · skip
        have h2 : t * fadeK (Q c) < Q (33 + 5 * p + c) := by
            rcases Nat.lt_or_ge (t * fadeK (Q c)) (Q (33 + 5 * p + c)) with q | q
            · exact q
            · exact absurd (nI_le q (by omega)) h110
        refine z_iload 115 dX7_colourGoes_113 rfl rfl ?_
        refine z_goto 125 dX7_colourGoes_115 rfl ?_
        refine z_isubN 126 rfl rfl (Nat.le_of_lt h2) dX7_colourGoes_125 rfl ?_
        refine w_st 127 (33 + 5 * p + c) rfl (by omega) (by omega) (by omega) rfl dX7_colourGoes_126 rfl ?_
        refine z_goto 207 dX7_colourGoes_127 rfl ?_
        refine z_vret hq rfl dX7_colourGoes_207 rfl rfl ?_
        exact ⟨rfl, by simp only [colGo]; rw [if_neg h0, if_pos (by rw [Nat.mul_comm]; exact h1), Nat.mul_comm (rentK (Q c))]⟩
  · skip
    have h0 : Q (33 + 5 * p + c) = 0 := nI_eqL (b := 0) (by omega) (by decide) h35
    refine z_vret hq rfl dX7_colourGoes_38 rfl rfl ?_
    exact ⟨rfl, by simp only [colGo]; rw [if_pos h0]⟩
set_option maxRecDepth 100000 in
theorem c_dayOn {l : Launch} {G : zG} {σ : Nat → Int32} {o t : Nat} {Q : Pg} (hQ : hdr σ o Q) (ho : o ≤ 275) (ok : okQ Q) (ht : t ≤ 2) : zMet l yX7_dayOn mX7_dayOn [.ref (zGa G 158), .int (nI o), .int (nI t)] G (zW G σ) (zFn G none (rsp σ o (dayA Q t))) := by
  have hdr_rsp : ∀ {R : Pg}, hdr (rsp σ o R) o R := hdr_rsp' ho
  have b3 := ok.np
  have b2 := ok.nc
  conv => arg 6; rw [← rsp_self hQ]
  refine zMet.of (by decide) rfl (Nat.le_of_ble_eq_true rfl) (Or.inr rfl) fun X hX hq => ?_
  subst hX
  show Y G X mX7_dayOn (rsp σ o Q) 0 [some (.ref (zGa G 158)), some (.int (nI o)), some (.int (nI t)), none, none, none] []
  refine z_iconst 1 dX7_dayOn_0 vi0 rfl ?_
  refine z_istore_n 2 [_, _, _, _, _, _] dX7_dayOn_1 (by decide) rfl rfl rfl ?_
  refine zup (P := fun p => ∀ u v, Y G X mX7_dayOn (rsp σ o (ones Q t p)) 2 [some (.ref (zGa G 158)), some (.int (nI o)), some (.int (nI t)), some (.int (nI p)), u, v] []) (Q 57) ?_ (fun p hp ihp => ?_) 0 (Nat.zero_le _) none none
  · intro u v
    have e2 : ones Q t (Q 57) 57 = Q 57 := ones_off ok (by omega) _ b3
    refine z_iload_n 3 dX7_dayOn_2 rfl rfl ?_
    refine z_aload_n 4 dX7_dayOn_3 rfl rfl ?_
    refine m_get 7 hdr_rsp rfl (by decide) fl_X7_145 dX7_dayOn_4 rfl ?_
    rw [e2]
    refine z_icmp_ge_t 95 dX7_dayOn_7 rfl (Int32.le_refl _) ?_
    refine z_aload_n 96 dX7_dayOn_95 rfl rfl ?_
    refine y_getr 99 _ sh158 rfl fl_X7_7 dX7_dayOn_96 rfl ?_
    refine z_iload_n 100 dX7_dayOn_99 rfl rfl ?_
    refine z_bipush 102 dX7_dayOn_100 vb53 rfl ?_
    refine z_iaddN 103 rfl (show (53 : Int32) = nI 53 from rfl) dX7_dayOn_102 rfl ?_
    refine z_dup2 104 dX7_dayOn_103 rfl rfl rfl ?_
    refine m_ld 105 (53) hdr_rsp rfl (by omega) (by omega) (by omega) dX7_dayOn_104 rfl ?_
    refine z_iconst 106 dX7_dayOn_105 vi1 rfl ?_
    refine z_iaddN 107 rfl (show (1 : Int32) = nI 1 from rfl) dX7_dayOn_106 rfl ?_
    refine w_st 108 (53) rfl (by omega) (by omega) (by omega) rfl dX7_dayOn_107 rfl ?_
    refine z_vret hq rfl dX7_dayOn_108 rfl rfl ?_
    exact ⟨rfl, rfl⟩
  · intro u v
    have e2 : ones Q t p 57 = Q 57 := ones_off ok (by omega) _ (by omega)
    have e6 : ones Q t p 56 = Q 56 := ones_off ok (by omega) _ (by omega)
    have okp := okQ_ones (t := t) ok p (by omega)
    have ihp : ∀ u v, Y G X mX7_dayOn (rsp σ o (dayO (ones Q t p) p t)) 2 [some (.ref (zGa G 158)), some (.int (nI o)), some (.int (nI t)), some (.int (nI (p + 1))), u, v] [] := ihp
    generalize ones Q t p = R at ihp e2 e6 okp ⊢
    have p4 : p < 4 := by omega
    have b5 := okp.pu p4
    have b6 := okp.ea p4
    have main : ∀ w : Int32, Y G X mX7_dayOn (rsp σ o (un R (25 + p) (min 999 (R (25 + p) + R (29 + p))))) 62 [some (.ref (zGa G 158)), some (.int (nI o)), some (.int (nI t)), some (.int (nI p)), some (.int w), v] [] := by
      intro w
      have ok1 : okQ (un R (25 + p) (min 999 (R (25 + p) + R (29 + p)))) := okQ_un okp (fun _ => by rw [bnd_p p4]; exact Nat.min_le_left _ _)
      generalize hQ1 : un R (25 + p) (min 999 (R (25 + p) + R (29 + p))) = Q1 at ok1
      have e56 : Q1 56 = R 56 := by rw [← hQ1]; exact un_n (by omega)
      refine z_iconst 63 dX7_dayOn_62 vi0 rfl ?_
      refine z_istore 65 [_, _, _, _, _, _] dX7_dayOn_63 (by decide) rfl rfl rfl ?_
      refine zup (P := fun i => Y G X mX7_dayOn (rsp σ o (cols Q1 p t i)) 65 [some (.ref (zGa G 158)), some (.int (nI o)), some (.int (nI t)), some (.int (nI p)), some (.int w), some (.int (nI i))] []) (Q 56) ?_ (fun i hi ih => ?_) 0 (Nat.zero_le _)
      · have e7 : cols Q1 p t (Q 56) 56 = Q 56 := by rw [cols_off (by omega) (by omega) (by omega) (by omega) _ (fun c hc => by omega), e56, e6]
        refine z_iload 67 dX7_dayOn_65 rfl rfl ?_
        refine z_aload_n 68 dX7_dayOn_67 rfl rfl ?_
        refine m_get 71 hdr_rsp rfl (by decide) fl_X7_142 dX7_dayOn_68 rfl ?_
        rw [e7]
        refine z_icmp_ge_t 89 dX7_dayOn_71 rfl (Int32.le_refl _) ?_
        refine z_iinc 92 [_, _, _, _, _, _] dX7_dayOn_89 rfl (show _ + _ = nI (_ + 1) from nI_1 _) (by decide) rfl rfl rfl ?_
        refine z_goto 2 dX7_dayOn_92 rfl ?_
        have ihp := ihp (some (.int w)) (some (.int (nI (Q 56))))
        rw [dayO, hQ1, e6] at ihp
        exact ihp
      · have e7 : cols Q1 p t i 56 = Q 56 := by rw [cols_off (by omega) (by omega) (by omega) (by omega) _ (fun c hc => by omega), e56, e6]
        refine z_iload 67 dX7_dayOn_65 rfl rfl ?_
        refine z_aload_n 68 dX7_dayOn_67 rfl rfl ?_
        refine m_get 71 hdr_rsp rfl (by decide) fl_X7_142 dX7_dayOn_68 rfl ?_
        rw [e7]
        refine z_icmp_ge_f 74 89 dX7_dayOn_71 rfl (nI_ge hi (by omega)) rfl ?_
        refine z_aload_n 75 dX7_dayOn_74 rfl rfl ?_
        refine z_iload_n 76 dX7_dayOn_75 rfl rfl ?_
        refine z_iload_n 77 dX7_dayOn_76 rfl rfl ?_
        refine z_iload 79 dX7_dayOn_77 rfl rfl ?_
        refine z_iload_n 80 dX7_dayOn_79 rfl rfl ?_
        refine y_cVv 83 _ (c_colourGoes hdr_rsp ho (okQ_cols ok1 p4 i (by omega)) p4 (by omega) ht) sh158 cv_X7_166 ⟨by decide, by decide, rfl, rfl⟩ (Nat.le_of_ble_eq_true rfl) dX7_dayOn_80 rfl rfl ?_
        rw [rsp_rsp]
        refine z_iinc 86 [_, _, _, _, _, _] dX7_dayOn_83 rfl (show _ + _ = nI (_ + 1) from nI_1 _) (by decide) rfl rfl rfl ?_
        refine z_goto 65 dX7_dayOn_86 rfl ?_
        exact ih
    refine z_iload_n 3 dX7_dayOn_2 rfl rfl ?_
    refine z_aload_n 4 dX7_dayOn_3 rfl rfl ?_
    refine m_get 7 hdr_rsp rfl (by decide) fl_X7_145 dX7_dayOn_4 rfl ?_
    rw [e2]
    refine z_icmp_ge_f 10 95 dX7_dayOn_7 rfl (nI_ge hp (by omega)) rfl ?_
    refine z_aload_n 11 dX7_dayOn_10 rfl rfl ?_
    refine y_getr 14 _ sh158 rfl fl_X7_7 dX7_dayOn_11 rfl ?_
    refine z_iload_n 15 dX7_dayOn_14 rfl rfl ?_
    refine z_bipush 17 dX7_dayOn_15 vb25 rfl ?_
    refine z_iaddN 18 rfl (show (25 : Int32) = nI 25 from rfl) dX7_dayOn_17 rfl ?_
    refine z_iload_n 19 dX7_dayOn_18 rfl rfl ?_
    refine z_iaddN 20 rfl rfl dX7_dayOn_19 rfl ?_
    refine m_ld 21 (25 + p) hdr_rsp rfl (by omega) (by omega) (by omega) dX7_dayOn_20 rfl ?_
    refine z_aload_n 22 dX7_dayOn_21 rfl rfl ?_
    refine y_getr 25 _ sh158 rfl fl_X7_7 dX7_dayOn_22 rfl ?_
    refine z_iload_n 26 dX7_dayOn_25 rfl rfl ?_
    refine z_bipush 28 dX7_dayOn_26 vb29 rfl ?_
    refine z_iaddN 29 rfl (show (29 : Int32) = nI 29 from rfl) dX7_dayOn_28 rfl ?_
    refine z_iload_n 30 dX7_dayOn_29 rfl rfl ?_
    refine z_iaddN 31 rfl rfl dX7_dayOn_30 rfl ?_
    refine m_ld 32 (29 + p) hdr_rsp rfl (by omega) (by omega) (by omega) dX7_dayOn_31 rfl ?_
    refine z_iaddN 33 rfl rfl dX7_dayOn_32 rfl ?_
    refine z_istore 35 [_, _, _, _, _, _] dX7_dayOn_33 (by decide) rfl rfl rfl ?_
    refine z_aload_n 36 dX7_dayOn_35 rfl rfl ?_
    refine y_getr 39 _ sh158 rfl fl_X7_7 dX7_dayOn_36 rfl ?_
    refine z_iload_n 40 dX7_dayOn_39 rfl rfl ?_
    refine z_bipush 42 dX7_dayOn_40 vb25 rfl ?_
    refine z_iaddN 43 rfl (show (25 : Int32) = nI 25 from rfl) dX7_dayOn_42 rfl ?_
    refine z_iload_n 44 dX7_dayOn_43 rfl rfl ?_
    refine z_iaddN 45 rfl rfl dX7_dayOn_44 rfl ?_
    refine z_iload 47 dX7_dayOn_45 rfl rfl ?_
    refine z_sipush 50 dX7_dayOn_47 vs999 rfl ?_
    refine z_icmp_le 59 53 dX7_dayOn_50 rfl rfl (fun h50 => ?_) (fun h50 => ?_)
    · skip
      have em : min 999 (R (25 + p) + R (29 + p)) = R (25 + p) + R (29 + p) := by
          have := (nI_leI (b := 999) (by omega) (by decide)).mp h50
          omega
      refine z_iload 61 dX7_dayOn_59 rfl rfl ?_
      refine w_st 62 (25 + p) rfl (by omega) (by omega) (by omega) rfl dX7_dayOn_61 rfl ?_
      rw [em] at main
      exact main _
    · skip
      have em : min 999 (R (25 + p) + R (29 + p)) = 999 := by
          rcases Nat.lt_or_ge 999 (R (25 + p) + R (29 + p)) with q | q
          · omega
          · exact absurd (nI_le q (by decide)) h50
      refine z_sipush 56 dX7_dayOn_53 vs999 rfl ?_
      refine z_goto 61 dX7_dayOn_56 rfl ?_
      refine w_st 62 (25 + p) rfl (by omega) (by omega) (by omega) (show (999 : Int32) = nI 999 from rfl) dX7_dayOn_61 rfl ?_
      rw [em] at main
      exact main _
set_option maxRecDepth 100000 in
theorem c_copies {l : Launch} {G : zG} {σ : Nat → Int32} {f t : Nat} (hf : f ≤ 275) (ht : t ≤ 275) (hft : f + 55 ≤ t ∨ t + 55 ≤ f) : zMet l yX7_copies mX7_copies [.ref (zGa G 158), .int (nI f), .int (nI t)] G (zW G σ) (zFn G none (cp σ (63600 + f) (63600 + t) 55)) := by
  refine zMet.of (by decide) rfl (Nat.le_of_ble_eq_true rfl) (Or.inr rfl) fun X hX hq => ?_
  subst hX
  show Y G X mX7_copies σ 0 [some (.ref (zGa G 158)), some (.int (nI f)), some (.int (nI t)), none] []
  refine z_iconst 1 dX7_copies_0 vi0 rfl ?_
  refine z_istore_n 2 [_, _, _, _] dX7_copies_1 (by decide) rfl rfl rfl ?_
  have e0 : cp σ (63600 + f) (63600 + t) 0 = σ := by funext a; simp only [cp]; rw [if_neg (by omega)]
  suffices h : Y G X mX7_copies (cp σ (63600 + f) (63600 + t) 0) 2 [some (.ref (zGa G 158)), some (.int (nI f)), some (.int (nI t)), some (.int (nI 0))] [] by rw [e0] at h; exact h
  refine zup (P := fun i => Y G X mX7_copies (cp σ (63600 + f) (63600 + t) i) 2 [some (.ref (zGa G 158)), some (.int (nI f)), some (.int (nI t)), some (.int (nI i))] []) 55 ?_ (fun i hi ih => ?_) 0 (Nat.zero_le _)
  · skip
    refine z_iload_n 3 dX7_copies_2 rfl rfl ?_
    refine z_bipush 5 dX7_copies_3 vb55 rfl ?_
    refine z_icmp_ge_t 30 dX7_copies_5 rfl (Int32.le_refl _) ?_
    refine z_vret hq rfl dX7_copies_30 rfl rfl ?_
    exact ⟨rfl, rfl⟩
  · have e1 : upd (cp σ (63600 + f) (63600 + t) i) (400 * 159 + 0 + (t + i)) (cp σ (63600 + f) (63600 + t) i (400 * 159 + 0 + (f + i))) = cp σ (63600 + f) (63600 + t) (i + 1) := by
      funext a
      rw [cp_out (by omega)]
      simp only [upd, cp]
      by_cases h1 : a = 400 * 159 + 0 + (t + i)
      · rw [if_pos h1, if_pos (by omega)]; congr 1; omega
      · rw [if_neg h1]
        by_cases h2 : 63600 + t ≤ a ∧ a < 63600 + t + i
        · rw [if_pos h2, if_pos (by omega)]
        · rw [if_neg h2, if_neg (by omega)]
    refine z_iload_n 3 dX7_copies_2 rfl rfl ?_
    refine z_bipush 5 dX7_copies_3 vb55 rfl ?_
    refine z_icmp_ge_f 8 30 dX7_copies_5 rfl (nI_ge (b := 55) hi (by decide)) rfl ?_
    refine z_aload_n 9 dX7_copies_8 rfl rfl ?_
    refine y_getr 12 _ sh158 rfl fl_X7_7 dX7_copies_9 rfl ?_
    refine z_iload_n 13 dX7_copies_12 rfl rfl ?_
    refine z_iload_n 14 dX7_copies_13 rfl rfl ?_
    refine z_iaddN 15 rfl rfl dX7_copies_14 rfl ?_
    refine z_aload_n 16 dX7_copies_15 rfl rfl ?_
    refine y_getr 19 _ sh158 rfl fl_X7_7 dX7_copies_16 rfl ?_
    refine z_iload_n 20 dX7_copies_19 rfl rfl ?_
    refine z_iload_n 21 dX7_copies_20 rfl rfl ?_
    refine z_iaddN 22 rfl rfl dX7_copies_21 rfl ?_
    refine y_ld 23 _ _ sh159 rfl (by omega) (by omega) dX7_copies_22 rfl ?_
    refine y_st 24 _ _ sh159 rfl (by omega) (by omega) dX7_copies_23 rfl ?_
    rw [e1]
    refine z_iinc 27 [_, _, _, _] dX7_copies_24 rfl (show _ + _ = nI (_ + 1) from nI_1 _) (by decide) rfl rfl rfl ?_
    refine z_goto 2 dX7_copies_27 rfl ?_
    exact ih

