set_option maxRecDepth 100000 in
set_option maxHeartbeats 4000000 in
theorem r_ask {l : Launch} {G : zG} {σ : Nat → Int32} {N : Pg} {sn : Nat} {s : Nat → Nat} {c w : Int32} (hc : hdk σ 0 N) (ok : okQ N) (hS : hSR σ sn s) (os : okS sn s) : zMet l yX7_ask mX7_ask [.ref (zGa G 158), .int c, .int w] G (zW G σ) (zP G (pQ σ (vAsk N sn s c w))) := by
  have b5 := ok.nc
  have b4 := ok.np
  have bw : bi ((0 : Int64) ≤ w.toInt64 ∧ w.toInt64 ≤ 1) = bi (inR w 2) := bi_in7 (n := 1) (by decide)
  have no : ¬ (inR c (N 56) ∧ inR w 2) → pQ σ (vAsk N sn s c w) (some (.int (-1))) σ := fun h => ⟨by rw [vAsk, if_neg h], same.rf⟩
  refine zMet.of (by decide) rfl (Nat.le_of_ble_eq_true rfl) (Or.inr rfl) fun X hX hq => ?_
  subst hX
  show Y G X mX7_ask σ 0 [some (.ref (zGa G 158)), some (.int c), some (.int w), none, none, none, none, none, none, none, none, none] []
  by_cases hi : inR c (N 56)
  · by_cases hw : inR w 2
    · obtain ⟨c', hc', rfl⟩ := inR_of hi (by omega)
      have c5 : c' < 5 := by omega
      have val : vAsk N sn s (nI c') w = if (askO N (fitK sn s N c') c' 21).1 = -4 ∨ w = 0 then (askO N (fitK sn s N c') c' 21).1 else (askO N (fitK sn s N c') c' 21).2 := by rw [vAsk, if_pos ⟨hi, hw⟩, nN_nI (by omega)]
      generalize hf : fitK sn s N c' = f at val
      have oK : ∀ k, k < 4 → okQ (kindQ N c' k) := fun k hk => okQ_kind ok c5 hk
      suffices main : ∀ τ, same τ σ → hHK τ N c' 4 → Y G X mX7_ask τ 26 [some (.ref (zGa G 158)), some (.int (nI c')), some (.int w), some (.int (kB f 4)), none, none, none, none, none, none, none, none] [] by
        refine z_aload_n 1 dX7_ask_0 rfl rfl ?_
        refine z_iload_n 2 dX7_ask_1 rfl rfl ?_
        refine y_cVs 5 _ (q_isColour (o := 0) hc ok) sh158 cv_X7_176 ⟨by decide, by decide, rfl, rfl⟩ (Nat.le_of_ble_eq_true rfl) dX7_ask_2 rfl rfl ?_
        refine z_if_eq_f 8 18 dX7_ask_5 rfl (by rw [bi_t hi]; decide) rfl ?_
        refine z_iload_n 9 dX7_ask_8 rfl rfl ?_
        refine z_i2l 10 dX7_ask_9 rfl ?_
        refine z_lconst 11 dX7_ask_10 vl0 rfl ?_
        refine z_lconst 12 dX7_ask_11 vl1 rfl ?_
        refine y_cSs 15 (c_in) cs_X7_55 ⟨by decide, by decide, rfl, rfl⟩ (Nat.le_of_ble_eq_true rfl) dX7_ask_12 rfl rfl ?_
        rw [bw]
        refine z_if_ne_t 20 dX7_ask_15 rfl (by rw [bi_t hw]; decide) ?_
        refine z_aload_n 21 dX7_ask_20 rfl rfl ?_
        refine z_iload_n 22 dX7_ask_21 rfl rfl ?_
        refine y_cVP 25 _ (c_kindsOf hc ok hS os c5) sh158 cv_X7_258 ⟨by decide, by decide, rfl, rfl⟩ (Nat.le_of_ble_eq_true rfl) dX7_ask_22 rfl rfl (fun v22 σ22 hp22 => ?_)
        obtain ⟨rfl, hs, hh⟩ := hp22
        rw [hf]
        show Y G X mX7_ask _ 25 _ [.int (kB f 4)]
        refine z_istore_n 26 [_, _, _, _, _, _, _, _, _, _, _, _] dX7_ask_25 (by decide) rfl rfl rfl ?_
        exact main _ hs hh
      intro τ hτ hh
      have hcτ := hdk0 hc hτ
      have n57 : τ (400 * 158 + 2) = nI (N 57) := hcτ 57 (by decide)
      refine z_iconst 27 dX7_ask_26 vi0 rfl ?_
      refine z_istore 29 [_, _, _, _, _, _, _, _, _, _, _, _] dX7_ask_27 (by decide) rfl rfl rfl ?_
      refine z_iconst 30 dX7_ask_29 vi0 rfl ?_
      refine z_istore 32 [_, _, _, _, _, _, _, _, _, _, _, _] dX7_ask_30 (by decide) rfl rfl rfl ?_
      refine zup (P := fun i => Y G X mX7_ask τ 32 [some (.ref (zGa G 158)), some (.int (nI c')), some (.int w), some (.int (kB f 4)), some (.int (nI (cntN f i))), some (.int (nI i)), none, none, none, none, none, none] []) 4 ?_ (fun i hi ih => ?_) 0 (Nat.zero_le _)
      · skip
        refine z_iload 34 dX7_ask_32 rfl rfl ?_
        refine z_iconst 35 dX7_ask_34 vi4 rfl ?_
        refine z_icmp_ge_t 55 dX7_ask_35 rfl (Int32.le_refl _) ?_
        refine z_bipush 57 dX7_ask_55 vbm4 rfl ?_
        refine z_istore 59 [_, _, _, _, _, _, _, _, _, _, _, _] dX7_ask_57 (by decide) rfl rfl rfl ?_
        refine z_iconst 60 dX7_ask_59 vi0 rfl ?_
        refine z_istore 62 [_, _, _, _, _, _, _, _, _, _, _, _] dX7_ask_60 (by decide) rfl rfl rfl ?_
        refine zup (P := fun k => ∀ u1 u2 u3 u4 u5, Y G X mX7_ask τ 62 [some (.ref (zGa G 158)), some (.int (nI c')), some (.int w), some (.int (kB f 4)), some (.int (askO N f c' k).2), some (.int (askO N f c' k).1), some (.int (nI k)), u1, u2, u3, u4, u5] []) 21 ?_ (fun k hk ih => ?_) 0 (Nat.zero_le _) _ _ _ _ _
        · intro u1 u2 u3 u4 u5
          refine z_iload 64 dX7_ask_62 rfl rfl ?_
          refine z_bipush 66 dX7_ask_64 vb20 rfl ?_
          refine z_icmp_gt_t 252 dX7_ask_66 rfl (by decide) ?_
          refine z_iload 254 dX7_ask_252 rfl rfl ?_
          refine z_bipush 256 dX7_ask_254 vbm4 rfl ?_
          refine z_icmp_eq 263 259 dX7_ask_256 rfl rfl (fun h256 => ?_) (fun h256 => ?_)
          · skip
            have e : vAsk N sn s (nI c') w = (askO N f c' 21).1 := by rw [val, if_pos (Or.inl h256)]
            refine z_iload 265 dX7_ask_263 rfl rfl ?_
            refine z_goto 270 dX7_ask_265 rfl ?_
            refine z_iret hq rfl dX7_ask_270 rfl rfl ?_
            exact ⟨_, ⟨by rw [e], hτ⟩, rfl⟩
          · skip
            refine z_iload_n 260 dX7_ask_259 rfl rfl ?_
            refine z_if_ne 268 263 dX7_ask_260 rfl rfl (fun h260 => ?_) (fun h260 => ?_)
            · skip
              have e : vAsk N sn s (nI c') w = (askO N f c' 21).2 := by rw [val, if_neg (fun q => q.elim h256 h260)]
              refine z_iload 270 dX7_ask_268 rfl rfl ?_
              refine z_iret hq rfl dX7_ask_270 rfl rfl ?_
              exact ⟨_, ⟨by rw [e], hτ⟩, rfl⟩
            · skip
              have e : vAsk N sn s (nI c') w = (askO N f c' 21).1 := by rw [val, if_pos (Or.inr h260)]
              refine z_iload 265 dX7_ask_263 rfl rfl ?_
              refine z_goto 270 dX7_ask_265 rfl ?_
              refine z_iret hq rfl dX7_ask_270 rfl rfl ?_
              exact ⟨_, ⟨by rw [e], hτ⟩, rfl⟩
        · intro u1 u2 u3 u4 u5
          refine z_iload 64 dX7_ask_62 rfl rfl ?_
          refine z_bipush 66 dX7_ask_64 vb20 rfl ?_
          refine z_icmp_gt_f 69 252 dX7_ask_66 rfl (nI_nlt (a := 20) (b := k) (by omega) (by omega)) rfl ?_
          refine z_iconst 70 dX7_ask_69 vi0 rfl ?_
          refine z_istore 72 [_, _, _, _, _, _, _, _, _, _, _, _] dX7_ask_70 (by decide) rfl rfl rfl ?_
          refine zup (P := fun p => ∀ u2 u3 u4 u5, Y G X mX7_ask τ 72 [some (.ref (zGa G 158)), some (.int (nI c')), some (.int w), some (.int (kB f 4)), some (.int (askI N f c' k (askO N f c' k) p).2), some (.int (askI N f c' k (askO N f c' k) p).1), some (.int (nI k)), some (.int (nI p)), u2, u3, u4, u5] []) (N 57) ?_ (fun p hp ih2 => ?_) 0 (Nat.zero_le _) _ _ _ _
          · intro u2 u3 u4 u5
            refine z_iload 74 dX7_ask_72 rfl rfl ?_
            refine z_aload_n 75 dX7_ask_74 rfl rfl ?_
            refine y_get 78 _ sh158 rfl fl_X7_145 dX7_ask_75 rfl ?_
            rw [n57]
            refine z_icmp_ge_t 246 dX7_ask_78 rfl (Int32.le_refl _) ?_
            refine z_iinc 249 [_, _, _, _, _, _, _, _, _, _, _, _] dX7_ask_246 rfl (show _ + _ = nI (_ + 1) from nI_1 _) (by decide) rfl rfl rfl ?_
            refine z_goto 62 dX7_ask_249 rfl ?_
            exact ih _ _ _ _ _
          · intro u2 u3 u4 u5
            have p4 : p < 4 := by omega
            let h : Nat → Nat := fun a => hueQ (daysA (kindQ N c' a) k) p
            have hl : ∀ a, a < 4 → h a < 1000 := fun a ha => hueQ_lt (okQ_daysA (oK a ha) k) p4
            have ht : ∀ a, a < 4 → τ (400 * 168 + 0 + (84 * a + 4 * k + p)) = nI (h a) := fun a ha => hh a ha k hk p hp
            have ew : wF N f c' k p = worstN f h 4 := rfl
            clear_value h
            refine z_iload 74 dX7_ask_72 rfl rfl ?_
            refine z_aload_n 75 dX7_ask_74 rfl rfl ?_
            refine y_get 78 _ sh158 rfl fl_X7_145 dX7_ask_75 rfl ?_
            rw [n57]
            refine z_icmp_ge_f 81 246 dX7_ask_78 rfl (nI_ge hp (by omega)) rfl ?_
            refine z_iconst 82 dX7_ask_81 vi0 rfl ?_
            refine z_istore 84 [_, _, _, _, _, _, _, _, _, _, _, _] dX7_ask_82 (by decide) rfl rfl rfl ?_
            refine z_iconst 85 dX7_ask_84 vi0 rfl ?_
            refine z_istore 87 [_, _, _, _, _, _, _, _, _, _, _, _] dX7_ask_85 (by decide) rfl rfl rfl ?_
            refine zup (P := fun a => ∀ u4 u5, Y G X mX7_ask τ 87 [some (.ref (zGa G 158)), some (.int (nI c')), some (.int w), some (.int (kB f 4)), some (.int (askI N f c' k (askO N f c' k) p).2), some (.int (askI N f c' k (askO N f c' k) p).1), some (.int (nI k)), some (.int (nI p)), some (.int (nI (worstN f h a))), some (.int (nI a)), u4, u5] []) 4 ?_ (fun a ha ih3 => ?_) 0 (Nat.zero_le _) _ _
            · intro u4 u5
              have e0 : askI N f c' k (askO N f c' k) (p + 1) = askS (worstN f h 4) k p (askI N f c' k (askO N f c' k) p) := by rw [← ew]; rfl
              have wl := worstN_le (f := f) (h := h) 4
              refine z_iload 89 dX7_ask_87 rfl rfl ?_
              refine z_iconst 90 dX7_ask_89 vi4 rfl ?_
              refine z_icmp_ge_t 202 dX7_ask_90 rfl (Int32.le_refl _) ?_
              refine z_iload 204 dX7_ask_202 rfl rfl ?_
              refine z_iload 206 dX7_ask_204 rfl rfl ?_
              refine z_icmp_ge 220 209 dX7_ask_206 rfl rfl (fun h206 => ?_) (fun h206 => ?_)
              · skip
                have e : askI N f c' k (askO N f c' k) (p + 1) = askI N f c' k (askO N f c' k) p := by rw [e0, askS, if_neg (Int32.not_lt.mpr h206)]
                refine z_iload 222 dX7_ask_220 rfl rfl ?_
                refine z_istore 224 [_, _, _, _, _, _, _, _, _, _, _, _] dX7_ask_222 (by decide) rfl rfl rfl ?_
                refine z_iload 226 dX7_ask_224 rfl rfl ?_
                refine z_iload 228 dX7_ask_226 rfl rfl ?_
                refine z_icmp_ge_t 236 dX7_ask_228 rfl (h206) ?_
                refine z_iload 238 dX7_ask_236 rfl rfl ?_
                refine z_istore 240 [_, _, _, _, _, _, _, _, _, _, _, _] dX7_ask_238 (by decide) rfl rfl rfl ?_
                refine z_iinc 243 [_, _, _, _, _, _, _, _, _, _, _, _] dX7_ask_240 rfl (show _ + _ = nI (_ + 1) from nI_1 _) (by decide) rfl rfl rfl ?_
                refine z_goto 72 dX7_ask_243 rfl ?_
                rw [e] at ih2
                exact ih2 _ _ _ _
              · skip
                have e : askI N f c' k (askO N f c' k) (p + 1) = (nI (10 * k + p), nI (worstN f h 4)) := by rw [e0, askS, if_pos (Int32.not_le.mp h206)]
                refine z_bipush 211 dX7_ask_209 vb10 rfl ?_
                refine z_iload 213 dX7_ask_211 rfl rfl ?_
                refine z_imulN 214 (show (10 : Int32) = nI 10 from rfl) rfl dX7_ask_213 rfl ?_
                refine z_iload 216 dX7_ask_214 rfl rfl ?_
                refine z_iaddN 217 rfl rfl dX7_ask_216 rfl ?_
                refine z_goto 222 dX7_ask_217 rfl ?_
                refine z_istore 224 [_, _, _, _, _, _, _, _, _, _, _, _] dX7_ask_222 (by decide) rfl rfl rfl ?_
                refine z_iload 226 dX7_ask_224 rfl rfl ?_
                refine z_iload 228 dX7_ask_226 rfl rfl ?_
                refine z_icmp_ge_f 231 236 dX7_ask_228 rfl (h206) rfl ?_
                refine z_iload 233 dX7_ask_231 rfl rfl ?_
                refine z_goto 238 dX7_ask_233 rfl ?_
                refine z_istore 240 [_, _, _, _, _, _, _, _, _, _, _, _] dX7_ask_238 (by decide) rfl rfl rfl ?_
                refine z_iinc 243 [_, _, _, _, _, _, _, _, _, _, _, _] dX7_ask_240 rfl (show _ + _ = nI (_ + 1) from nI_1 _) (by decide) rfl rfl rfl ?_
                refine z_goto 72 dX7_ask_243 rfl ?_
                rw [e] at ih2
                exact ih2 _ _ _ _
            · intro u4 u5
              have wl := worstN_le (f := f) (h := h) a
              have al := alikeN_le (f := f) (h := h) (k := a) 4
              have ea : worstN f h (a + 1) = max (worstN f h a) (alikeN f h a 4) := rfl
              have tail : ∀ u5, Y G X mX7_ask τ 180 [some (.ref (zGa G 158)), some (.int (nI c')), some (.int w), some (.int (kB f 4)), some (.int (askI N f c' k (askO N f c' k) p).2), some (.int (askI N f c' k (askO N f c' k) p).1), some (.int (nI k)), some (.int (nI p)), some (.int (nI (worstN f h a))), some (.int (nI a)), some (.int (nI (alikeN f h a 4))), u5] [] := by
                intro u5
                refine z_iload 182 dX7_ask_180 rfl rfl ?_
                refine z_iload 184 dX7_ask_182 rfl rfl ?_
                refine z_icmp_le 192 187 dX7_ask_184 rfl rfl (fun h184 => ?_) (fun h184 => ?_)
                · skip
                  have e : worstN f h (a + 1) = worstN f h a := by rw [ea]; exact Nat.max_eq_left ((nI_leI (by omega) (by omega)).mp h184)
                  refine z_iload 194 dX7_ask_192 rfl rfl ?_
                  refine z_istore 196 [_, _, _, _, _, _, _, _, _, _, _, _] dX7_ask_194 (by decide) rfl rfl rfl ?_
                  refine z_iinc 199 [_, _, _, _, _, _, _, _, _, _, _, _] dX7_ask_196 rfl (show _ + _ = nI (_ + 1) from nI_1 _) (by decide) rfl rfl rfl ?_
                  refine z_goto 87 dX7_ask_199 rfl ?_
                  rw [e] at ih3
                  exact ih3 _ _
                · skip
                  have e : worstN f h (a + 1) = alikeN f h a 4 := by
                      rw [ea]; refine Nat.max_eq_right ?_
                      rcases Nat.le_total (alikeN f h a 4) (worstN f h a) with q | q
                      · exact absurd (nI_le q (by omega)) h184
                      · exact q
                  refine z_iload 189 dX7_ask_187 rfl rfl ?_
                  refine z_goto 194 dX7_ask_189 rfl ?_
                  refine z_istore 196 [_, _, _, _, _, _, _, _, _, _, _, _] dX7_ask_194 (by decide) rfl rfl rfl ?_
                  refine z_iinc 199 [_, _, _, _, _, _, _, _, _, _, _, _] dX7_ask_196 rfl (show _ + _ = nI (_ + 1) from nI_1 _) (by decide) rfl rfl rfl ?_
                  refine z_goto 87 dX7_ask_199 rfl ?_
                  rw [e] at ih3
                  exact ih3 _ _
              have sa := kB_shr f ha
              by_cases fa : f a = true
              · rw [if_pos fa] at sa
                refine z_iload 89 dX7_ask_87 rfl rfl ?_
                refine z_iconst 90 dX7_ask_89 vi4 rfl ?_
                refine z_icmp_ge_f 93 202 dX7_ask_90 rfl (nI_ge (b := 4) ha (by decide)) rfl ?_
                refine z_iconst 94 dX7_ask_93 vi0 rfl ?_
                refine z_istore 96 [_, _, _, _, _, _, _, _, _, _, _, _] dX7_ask_94 (by decide) rfl rfl rfl ?_
                refine z_iconst 97 dX7_ask_96 vi0 rfl ?_
                refine z_istore 99 [_, _, _, _, _, _, _, _, _, _, _, _] dX7_ask_97 (by decide) rfl rfl rfl ?_
                refine zup (P := fun b => Y G X mX7_ask τ 99 [some (.ref (zGa G 158)), some (.int (nI c')), some (.int w), some (.int (kB f 4)), some (.int (askI N f c' k (askO N f c' k) p).2), some (.int (askI N f c' k (askO N f c' k) p).1), some (.int (nI k)), some (.int (nI p)), some (.int (nI (worstN f h a))), some (.int (nI a)), some (.int (nI (alikeN f h a b))), some (.int (nI b))] []) 4 ?_ (fun b hb4 ih4 => ?_) 0 (Nat.zero_le _)
                · skip
                  refine z_iload 101 dX7_ask_99 rfl rfl ?_
                  refine z_iconst 102 dX7_ask_101 vi4 rfl ?_
                  refine z_icmp_ge_t 180 dX7_ask_102 rfl (Int32.le_refl _) ?_
                  exact tail _
                · have sb := kB_shr f hb4
                  have u1 := hl a ha
                  have u2 := hl b hb4
                  refine z_iload 101 dX7_ask_99 rfl rfl ?_
                  refine z_iconst 102 dX7_ask_101 vi4 rfl ?_
                  refine z_icmp_ge_f 105 180 dX7_ask_102 rfl (nI_ge (b := 4) hb4 (by decide)) rfl ?_
                  refine z_iload_n 106 dX7_ask_105 rfl rfl ?_
                  refine z_iload 108 dX7_ask_106 rfl rfl ?_
                  refine z_ishr 109 dX7_ask_108 rfl ?_
                  refine z_iconst 110 dX7_ask_109 vi1 rfl ?_
                  refine z_iand 111 dX7_ask_110 rfl ?_
                  rw [sa]
                  refine z_iconst 112 dX7_ask_111 vi1 rfl ?_
                  refine z_icmp_ne_f 115 180 dX7_ask_112 rfl (rfl) rfl ?_
                  refine z_iload 117 dX7_ask_115 rfl rfl ?_
                  refine z_iload_n 118 dX7_ask_117 rfl rfl ?_
                  refine z_iload 120 dX7_ask_118 rfl rfl ?_
                  refine z_ishr 121 dX7_ask_120 rfl ?_
                  refine z_iconst 122 dX7_ask_121 vi1 rfl ?_
                  refine z_iand 123 dX7_ask_122 rfl ?_
                  rw [sb]
                  refine z_iconst 124 dX7_ask_123 vi1 rfl ?_
                  refine z_icmp_ne 170 127 dX7_ask_124 rfl rfl (fun h124 => ?_) (fun h124 => ?_)
                  · skip
                    have e : alikeN f h a (b + 1) = alikeN f h a b := if_neg (fun q => h124 (by rw [if_pos q.2.1]; rfl))
                    refine z_iconst 171 dX7_ask_170 vi0 rfl ?_
                    refine z_iaddN 172 rfl (show (0 : Int32) = nI 0 from rfl) dX7_ask_171 rfl ?_
                    refine z_istore 174 [_, _, _, _, _, _, _, _, _, _, _, _] dX7_ask_172 (by decide) rfl rfl rfl ?_
                    refine z_iinc 177 [_, _, _, _, _, _, _, _, _, _, _, _] dX7_ask_174 rfl (show _ + _ = nI (_ + 1) from nI_1 _) (by decide) rfl rfl rfl ?_
                    refine z_goto 99 dX7_ask_177 rfl ?_
                    rw [e] at ih4
                    exact ih4
                  · skip
                    have fb : f b = true := by
                        refine Decidable.of_not_not (fun q => ?_)
                        rw [if_neg q] at h124
                        exact absurd h124 (by decide)
                    refine z_aload_n 128 dX7_ask_127 rfl rfl ?_
                    refine y_getr 131 _ sh158 rfl fl_X7_37 dX7_ask_128 rfl ?_
                    refine z_bipush 133 dX7_ask_131 vb84 rfl ?_
                    refine z_iload 135 dX7_ask_133 rfl rfl ?_
                    refine z_imulN 136 (show (84 : Int32) = nI 84 from rfl) rfl dX7_ask_135 rfl ?_
                    refine z_iconst 137 dX7_ask_136 vi4 rfl ?_
                    refine z_iload 139 dX7_ask_137 rfl rfl ?_
                    refine z_imulN 140 (show (4 : Int32) = nI 4 from rfl) rfl dX7_ask_139 rfl ?_
                    refine z_iaddN 141 rfl rfl dX7_ask_140 rfl ?_
                    refine z_iload 143 dX7_ask_141 rfl rfl ?_
                    refine z_iaddN 144 rfl rfl dX7_ask_143 rfl ?_
                    refine y_ld 145 _ (84 * a + 4 * k + p) sh168 rfl (by omega) (by omega) dX7_ask_144 rfl ?_
                    rw [ht a ha]
                    refine z_aload_n 146 dX7_ask_145 rfl rfl ?_
                    refine y_getr 149 _ sh158 rfl fl_X7_37 dX7_ask_146 rfl ?_
                    refine z_bipush 151 dX7_ask_149 vb84 rfl ?_
                    refine z_iload 153 dX7_ask_151 rfl rfl ?_
                    refine z_imulN 154 (show (84 : Int32) = nI 84 from rfl) rfl dX7_ask_153 rfl ?_
                    refine z_iconst 155 dX7_ask_154 vi4 rfl ?_
                    refine z_iload 157 dX7_ask_155 rfl rfl ?_
                    refine z_imulN 158 (show (4 : Int32) = nI 4 from rfl) rfl dX7_ask_157 rfl ?_
                    refine z_iaddN 159 rfl rfl dX7_ask_158 rfl ?_
                    refine z_iload 161 dX7_ask_159 rfl rfl ?_
                    refine z_iaddN 162 rfl rfl dX7_ask_161 rfl ?_
                    refine y_ld 163 _ (84 * b + 4 * k + p) sh168 rfl (by omega) (by omega) dX7_ask_162 rfl ?_
                    rw [ht b hb4]
                    refine z_icmp_ne 170 166 dX7_ask_163 rfl rfl (fun h163 => ?_) (fun h163 => ?_)
                    · skip
                      have e : alikeN f h a (b + 1) = alikeN f h a b := if_neg (fun q => h163 (congrArg nI q.2.2.symm))
                      refine z_iconst 171 dX7_ask_170 vi0 rfl ?_
                      refine z_iaddN 172 rfl (show (0 : Int32) = nI 0 from rfl) dX7_ask_171 rfl ?_
                      refine z_istore 174 [_, _, _, _, _, _, _, _, _, _, _, _] dX7_ask_172 (by decide) rfl rfl rfl ?_
                      refine z_iinc 177 [_, _, _, _, _, _, _, _, _, _, _, _] dX7_ask_174 rfl (show _ + _ = nI (_ + 1) from nI_1 _) (by decide) rfl rfl rfl ?_
                      refine z_goto 99 dX7_ask_177 rfl ?_
                      rw [e] at ih4
                      exact ih4
                    · skip
                      have e : alikeN f h a (b + 1) = alikeN f h a b + 1 := if_pos ⟨fa, fb, (nI_eqL (by omega) (by omega) h163).symm⟩
                      refine z_iconst 167 dX7_ask_166 vi1 rfl ?_
                      refine z_goto 171 dX7_ask_167 rfl ?_
                      refine z_iaddN 172 rfl (show (1 : Int32) = nI 1 from rfl) dX7_ask_171 rfl ?_
                      refine z_istore 174 [_, _, _, _, _, _, _, _, _, _, _, _] dX7_ask_172 (by decide) rfl rfl rfl ?_
                      refine z_iinc 177 [_, _, _, _, _, _, _, _, _, _, _, _] dX7_ask_174 rfl (show _ + _ = nI (_ + 1) from nI_1 _) (by decide) rfl rfl rfl ?_
                      refine z_goto 99 dX7_ask_177 rfl ?_
                      rw [e] at ih4
                      exact ih4
              · rw [if_neg fa] at sa
                have z := alikeN_0 (h := h) fa 4
                rw [z] at tail
                refine z_iload 89 dX7_ask_87 rfl rfl ?_
                refine z_iconst 90 dX7_ask_89 vi4 rfl ?_
                refine z_icmp_ge_f 93 202 dX7_ask_90 rfl (nI_ge (b := 4) ha (by decide)) rfl ?_
                refine z_iconst 94 dX7_ask_93 vi0 rfl ?_
                refine z_istore 96 [_, _, _, _, _, _, _, _, _, _, _, _] dX7_ask_94 (by decide) rfl rfl rfl ?_
                refine z_iconst 97 dX7_ask_96 vi0 rfl ?_
                refine z_istore 99 [_, _, _, _, _, _, _, _, _, _, _, _] dX7_ask_97 (by decide) rfl rfl rfl ?_
                refine z_iload 101 dX7_ask_99 rfl rfl ?_
                refine z_iconst 102 dX7_ask_101 vi4 rfl ?_
                refine z_icmp_ge_f 105 180 dX7_ask_102 rfl (by decide) rfl ?_
                refine z_iload_n 106 dX7_ask_105 rfl rfl ?_
                refine z_iload 108 dX7_ask_106 rfl rfl ?_
                refine z_ishr 109 dX7_ask_108 rfl ?_
                refine z_iconst 110 dX7_ask_109 vi1 rfl ?_
                refine z_iand 111 dX7_ask_110 rfl ?_
                rw [sa]
                refine z_iconst 112 dX7_ask_111 vi1 rfl ?_
                refine z_icmp_ne_t 180 dX7_ask_112 rfl (by decide) ?_
                exact tail _
      · have si := kB_shr f hi
        refine z_iload 34 dX7_ask_32 rfl rfl ?_
        refine z_iconst 35 dX7_ask_34 vi4 rfl ?_
        refine z_icmp_ge_f 38 55 dX7_ask_35 rfl (nI_ge (b := 4) hi (by decide)) rfl ?_
        refine z_iload 40 dX7_ask_38 rfl rfl ?_
        refine z_iload_n 41 dX7_ask_40 rfl rfl ?_
        refine z_iload 43 dX7_ask_41 rfl rfl ?_
        refine z_ishr 44 dX7_ask_43 rfl ?_
        refine z_iconst 45 dX7_ask_44 vi1 rfl ?_
        refine z_iand 46 dX7_ask_45 rfl ?_
        rw [si]
        refine z_iaddN 47 rfl rfl dX7_ask_46 rfl ?_
        refine z_istore 49 [_, _, _, _, _, _, _, _, _, _, _, _] dX7_ask_47 (by decide) rfl rfl rfl ?_
        refine z_iinc 52 [_, _, _, _, _, _, _, _, _, _, _, _] dX7_ask_49 rfl (show _ + _ = nI (_ + 1) from nI_1 _) (by decide) rfl rfl rfl ?_
        refine z_goto 32 dX7_ask_52 rfl ?_
        exact ih
    · have no := no (fun h => hw h.2)
      refine z_aload_n 1 dX7_ask_0 rfl rfl ?_
      refine z_iload_n 2 dX7_ask_1 rfl rfl ?_
      refine y_cVs 5 _ (q_isColour (o := 0) hc ok) sh158 cv_X7_176 ⟨by decide, by decide, rfl, rfl⟩ (Nat.le_of_ble_eq_true rfl) dX7_ask_2 rfl rfl ?_
      refine z_if_eq_f 8 18 dX7_ask_5 rfl (by rw [bi_t hi]; decide) rfl ?_
      refine z_iload_n 9 dX7_ask_8 rfl rfl ?_
      refine z_i2l 10 dX7_ask_9 rfl ?_
      refine z_lconst 11 dX7_ask_10 vl0 rfl ?_
      refine z_lconst 12 dX7_ask_11 vl1 rfl ?_
      refine y_cSs 15 (c_in) cs_X7_55 ⟨by decide, by decide, rfl, rfl⟩ (Nat.le_of_ble_eq_true rfl) dX7_ask_12 rfl rfl ?_
      rw [bw]
      refine z_if_ne_f 18 20 dX7_ask_15 rfl (bi_f hw) rfl ?_
      refine z_iconst 19 dX7_ask_18 vim1 rfl ?_
      refine z_iret hq rfl dX7_ask_19 rfl rfl ?_
      exact ⟨_, no, rfl⟩
  · have no := no (fun h => hi h.1)
    refine z_aload_n 1 dX7_ask_0 rfl rfl ?_
    refine z_iload_n 2 dX7_ask_1 rfl rfl ?_
    refine y_cVs 5 _ (q_isColour (o := 0) hc ok) sh158 cv_X7_176 ⟨by decide, by decide, rfl, rfl⟩ (Nat.le_of_ble_eq_true rfl) dX7_ask_2 rfl rfl ?_
    refine z_if_eq_t 18 dX7_ask_5 rfl (bi_f hi) ?_
    refine z_iconst 19 dX7_ask_18 vim1 rfl ?_
    refine z_iret hq rfl dX7_ask_19 rfl rfl ?_
    exact ⟨_, no, rfl⟩

