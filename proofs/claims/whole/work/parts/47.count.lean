/-! ===== count ===== -/
def cntV (s : Int32) (f : Nat → Int32) (t : Int32) (T : Sht) (N : Pg) : Nat → Int32
  | 0 => s
  | 1 => (if f 0 = 0 then 0 else 1) + (if f 1 = 0 then 0 else 1)
  | 2 => t
  | 3 => match T 0 with | none => -4 | some (_, z) => nI z
  | 4 => nI (sumN (fun p => N (25 + p)) (N 57))
  | _ => nI (sumN (fun p => N (29 + p)) (N 57))
def vCount (s : Int32) (f : Nat → Int32) (t : Int32) (T : Sht) (N : Pg) (w : Int32) : Int32 := if inR w 6 then cntV s f t T N (nN w) else -1
theorem cnt_tt {s t : Int32} {f : Nat → Int32} {T : Sht} {N : Pg} (h : f 0 = 0) (h' : f 1 = 0) : cntV s f t T N 1 = 0 + 0 := by rw [cntV, if_pos h, if_pos h']
theorem cnt_tf {s t : Int32} {f : Nat → Int32} {T : Sht} {N : Pg} (h : f 0 = 0) (h' : ¬ f 1 = 0) : cntV s f t T N 1 = 0 + 1 := by rw [cntV, if_pos h, if_neg h']
theorem cnt_ft {s t : Int32} {f : Nat → Int32} {T : Sht} {N : Pg} (h : ¬ f 0 = 0) (h' : f 1 = 0) : cntV s f t T N 1 = 1 + 0 := by rw [cntV, if_neg h, if_pos h']
theorem cnt_ff {s t : Int32} {f : Nat → Int32} {T : Sht} {N : Pg} (h : ¬ f 0 = 0) (h' : ¬ f 1 = 0) : cntV s f t T N 1 = 1 + 1 := by rw [cntV, if_neg h, if_neg h']
set_option maxRecDepth 100000 in
theorem x_count {l : Launch} {G : zG} {σ : Nat → Int32} {T : Sht} {N : Pg} {w : Int32} (hc : hdc σ 1 N) (ok : okQ N) (hT : hTC σ T) : zMet l yX6_count mX6_count [.ref (zGa G 0), .int w] G (zW G σ) (zFn G (some (.int (vCount (σ (400 * 35 + 0)) (fun j => σ (400 * 16 + 0 + j)) (σ (400 * 19 + 1)) T N w))) σ) := by
  have np := ok.np
  refine zMet.of (by decide) rfl (Nat.le_of_ble_eq_true rfl) (Or.inr rfl) fun X hX hq => ?_
  subst hX
  show Y G X mX6_count σ 0 [some (.ref (zGa G 0)), some (.int w)] []
  by_cases hw : inR w 6
  · obtain ⟨v, hv, rfl⟩ := inR_of hw (by decide)
    have ev : nN (nI v) = v := nN_nI (by omega)
    have vc : ∀ s f t, vCount s f t T N (nI v) = cntV s f t T N v := fun s f t => by rw [vCount, if_pos hw, ev]
    rcases (show v = 0 ∨ v = 1 ∨ v = 2 ∨ v = 3 ∨ v = 4 ∨ v = 5 by omega) with rfl | rfl | rfl | rfl | rfl | rfl
    · skip
      refine z_iload_n 1 dX6_count_0 rfl rfl ?_
      refine z_tsIn 40 dX6_count_1 (by decide) (by decide) (by rfl) rfl ?_
      refine z_aload_n 41 dX6_count_40 rfl rfl ?_
      refine y_getr 44 _ sh0 rfl fl_X6_44 dX6_count_41 rfl ?_
      refine y_get 47 _ sh35 rfl fl_X6_100 dX6_count_44 rfl ?_
      refine z_iret hq rfl dX6_count_47 rfl rfl ?_
      exact ⟨by rw [vc, cntV], rfl⟩
    · skip
      refine z_iload_n 1 dX6_count_0 rfl rfl ?_
      refine z_tsIn 48 dX6_count_1 (by decide) (by decide) (by rfl) rfl ?_
      refine z_aload_n 49 dX6_count_48 rfl rfl ?_
      refine y_getr 52 _ sh0 rfl fl_X6_23 dX6_count_49 rfl ?_
      refine z_iconst 53 dX6_count_52 vi0 rfl ?_
      refine y_ldZ 54 _ 0 sh16 rfl (by decide) (by omega) dX6_count_53 rfl ?_
      refine z_if_eq 61 57 dX6_count_54 rfl rfl (fun h54 => ?_) (fun h54 => ?_)
      · skip
        refine z_iconst 62 dX6_count_61 vi0 rfl ?_
        refine z_aload_n 63 dX6_count_62 rfl rfl ?_
        refine y_getr 66 _ sh0 rfl fl_X6_23 dX6_count_63 rfl ?_
        refine z_iconst 67 dX6_count_66 vi1 rfl ?_
        refine y_ldZ 68 _ 1 sh16 rfl (by decide) (by omega) dX6_count_67 rfl ?_
        refine z_if_eq 75 71 dX6_count_68 rfl rfl (fun h68 => ?_) (fun h68 => ?_)
        · skip
          refine z_iconst 76 dX6_count_75 vi0 rfl ?_
          refine z_iaddN 77 (show (0 : Int32) = nI 0 from rfl) (show (0 : Int32) = nI 0 from rfl) dX6_count_76 rfl ?_
          refine z_iret hq rfl dX6_count_77 rfl rfl ?_
          exact ⟨by rw [vc]; exact (congrArg (fun z => some (Value.int z)) (by first | exact cnt_tt h54 h68 | exact cnt_tf h54 h68 | exact cnt_ft h54 h68 | exact cnt_ff h54 h68)).symm, rfl⟩
        · skip
          refine z_iconst 72 dX6_count_71 vi1 rfl ?_
          refine z_goto 76 dX6_count_72 rfl ?_
          refine z_iaddN 77 (show (0 : Int32) = nI 0 from rfl) (show (1 : Int32) = nI 1 from rfl) dX6_count_76 rfl ?_
          refine z_iret hq rfl dX6_count_77 rfl rfl ?_
          exact ⟨by rw [vc]; exact (congrArg (fun z => some (Value.int z)) (by first | exact cnt_tt h54 h68 | exact cnt_tf h54 h68 | exact cnt_ft h54 h68 | exact cnt_ff h54 h68)).symm, rfl⟩
      · skip
        refine z_iconst 58 dX6_count_57 vi1 rfl ?_
        refine z_goto 62 dX6_count_58 rfl ?_
        refine z_aload_n 63 dX6_count_62 rfl rfl ?_
        refine y_getr 66 _ sh0 rfl fl_X6_23 dX6_count_63 rfl ?_
        refine z_iconst 67 dX6_count_66 vi1 rfl ?_
        refine y_ldZ 68 _ 1 sh16 rfl (by decide) (by omega) dX6_count_67 rfl ?_
        refine z_if_eq 75 71 dX6_count_68 rfl rfl (fun h68 => ?_) (fun h68 => ?_)
        · skip
          refine z_iconst 76 dX6_count_75 vi0 rfl ?_
          refine z_iaddN 77 (show (1 : Int32) = nI 1 from rfl) (show (0 : Int32) = nI 0 from rfl) dX6_count_76 rfl ?_
          refine z_iret hq rfl dX6_count_77 rfl rfl ?_
          exact ⟨by rw [vc]; exact (congrArg (fun z => some (Value.int z)) (by first | exact cnt_tt h54 h68 | exact cnt_tf h54 h68 | exact cnt_ft h54 h68 | exact cnt_ff h54 h68)).symm, rfl⟩
        · skip
          refine z_iconst 72 dX6_count_71 vi1 rfl ?_
          refine z_goto 76 dX6_count_72 rfl ?_
          refine z_iaddN 77 (show (1 : Int32) = nI 1 from rfl) (show (1 : Int32) = nI 1 from rfl) dX6_count_76 rfl ?_
          refine z_iret hq rfl dX6_count_77 rfl rfl ?_
          exact ⟨by rw [vc]; exact (congrArg (fun z => some (Value.int z)) (by first | exact cnt_tt h54 h68 | exact cnt_tf h54 h68 | exact cnt_ft h54 h68 | exact cnt_ff h54 h68)).symm, rfl⟩
    · skip
      refine z_iload_n 1 dX6_count_0 rfl rfl ?_
      refine z_tsIn 78 dX6_count_1 (by decide) (by decide) (by rfl) rfl ?_
      refine z_aload_n 79 dX6_count_78 rfl rfl ?_
      refine y_getr 82 _ sh0 rfl fl_X6_37 dX6_count_79 rfl ?_
      refine y_get 85 _ sh19 rfl fl_X6_77 dX6_count_82 rfl ?_
      refine z_iret hq rfl dX6_count_85 rfl rfl ?_
      exact ⟨by rw [vc, cntV], rfl⟩
    · obtain ⟨j, hj0⟩ : ∃ j : Nat, j = 0 := ⟨0, rfl⟩
      have hj : j < 4 := by omega
      have hi0 : (0 : Int32) = nI j := by rw [hj0]; rfl
      have ht := hT j hj
      cases hs : T j with
      | none =>
        rw [hs] at ht
        rw [hj0] at hs
        refine z_iload_n 1 dX6_count_0 rfl rfl ?_
        refine z_tsIn 86 dX6_count_1 (by decide) (by decide) (by rfl) rfl ?_
        refine z_aload_n 87 dX6_count_86 rfl rfl ?_
        refine y_getr 90 _ sh0 rfl fl_X6_64 dX6_count_87 rfl ?_
        refine z_iconst 91 dX6_count_90 vi0 rfl ?_
        refine y_aaS 92 _ j sh107 hi0 hj (by decide) (aa107 hj) dX6_count_91 rfl ?_
        refine y_get 95 _ (sho hj) rfl fl_X6_269 dX6_count_92 rfl ?_
        refine z_if_ge_f 98 103 dX6_count_95 rfl (Int32.not_le.mpr ht) rfl ?_
        refine z_bipush 100 dX6_count_98 vbm4 rfl ?_
        refine z_goto 112 dX6_count_100 rfl ?_
        refine z_iret hq rfl dX6_count_112 rfl rfl ?_
        exact ⟨by rw [vc]; simp only [cntV, hs], rfl⟩
      | some q =>
        obtain ⟨L, s⟩ := q
        rw [hs] at ht
        rw [hj0] at hs
        obtain ⟨hL, hz, h3', h40⟩ := ht
        refine z_iload_n 1 dX6_count_0 rfl rfl ?_
        refine z_tsIn 86 dX6_count_1 (by decide) (by decide) (by rfl) rfl ?_
        refine z_aload_n 87 dX6_count_86 rfl rfl ?_
        refine y_getr 90 _ sh0 rfl fl_X6_64 dX6_count_87 rfl ?_
        refine z_iconst 91 dX6_count_90 vi0 rfl ?_
        refine y_aaS 92 _ j sh107 hi0 hj (by decide) (aa107 hj) dX6_count_91 rfl ?_
        refine y_get 95 _ (sho hj) rfl fl_X6_269 dX6_count_92 rfl ?_
        rw [hz]
        refine z_if_ge_t 103 dX6_count_95 rfl (nI_le (a := 0) (by omega) (by omega)) ?_
        refine z_aload_n 104 dX6_count_103 rfl rfl ?_
        refine y_getr 107 _ sh0 rfl fl_X6_64 dX6_count_104 rfl ?_
        refine z_iconst 108 dX6_count_107 vi0 rfl ?_
        refine y_aaS 109 _ j sh107 hi0 hj (by decide) (aa107 hj) dX6_count_108 rfl ?_
        refine y_get 112 _ (sho hj) rfl fl_X6_269 dX6_count_109 rfl ?_
        rw [hz]
        refine z_iret hq rfl dX6_count_112 rfl rfl ?_
        exact ⟨by rw [vc]; simp only [cntV, hs], rfl⟩
    · skip
      refine z_iload_n 1 dX6_count_0 rfl rfl ?_
      refine z_tsIn 113 dX6_count_1 (by decide) (by decide) (by rfl) rfl ?_
      refine z_aload_n 114 dX6_count_113 rfl rfl ?_
      refine y_getr 117 _ sh0 rfl fl_X6_10 dX6_count_114 rfl ?_
      refine y_getr 120 _ (bk0 bkm1) rfl fl_X6_144 dX6_count_117 rfl ?_
      refine z_iconst 121 dX6_count_120 vi0 rfl ?_
      refine z_aload_n 122 dX6_count_121 rfl rfl ?_
      refine y_getr 125 _ sh0 rfl fl_X6_10 dX6_count_122 rfl ?_
      refine k_get 128 bkm1 hc rfl (by decide) fl_X6_106 dX6_count_125 rfl ?_
      refine y_cSs 131 (c_sum (a := 0) (fun p => N (25 + p)) (bk4 bkm1) (by omega) (by omega) (fun i hi => by rw [show 400 * 1 + 25 + (0 + i) = 400 * 1 + (25 + i) by omega]; exact hc _ (by omega))) cs_X6_287 ⟨by decide, by decide, rfl, rfl⟩ (Nat.le_of_ble_eq_true rfl) dX6_count_128 rfl rfl ?_
      refine z_iret hq rfl dX6_count_131 rfl rfl ?_
      exact ⟨by rw [vc, cntV], rfl⟩
    · skip
      refine z_iload_n 1 dX6_count_0 rfl rfl ?_
      refine z_tsIn 132 dX6_count_1 (by decide) (by decide) (by rfl) rfl ?_
      refine z_aload_n 133 dX6_count_132 rfl rfl ?_
      refine y_getr 136 _ sh0 rfl fl_X6_10 dX6_count_133 rfl ?_
      refine y_getr 139 _ (bk0 bkm1) rfl fl_X6_147 dX6_count_136 rfl ?_
      refine z_iconst 140 dX6_count_139 vi0 rfl ?_
      refine z_aload_n 141 dX6_count_140 rfl rfl ?_
      refine y_getr 144 _ sh0 rfl fl_X6_10 dX6_count_141 rfl ?_
      refine k_get 147 bkm1 hc rfl (by decide) fl_X6_106 dX6_count_144 rfl ?_
      refine y_cSs 150 (c_sum (a := 0) (fun p => N (29 + p)) (bk5 bkm1) (by omega) (by omega) (fun i hi => by rw [show 400 * 1 + 29 + (0 + i) = 400 * 1 + (29 + i) by omega]; exact hc _ (by omega))) cs_X6_287 ⟨by decide, by decide, rfl, rfl⟩ (Nat.le_of_ble_eq_true rfl) dX6_count_147 rfl rfl ?_
      refine z_iret hq rfl dX6_count_150 rfl rfl ?_
      exact ⟨by rw [vc]; rfl, rfl⟩
  · skip
    refine z_iload_n 1 dX6_count_0 rfl rfl ?_
    refine z_tsOut 151 dX6_count_1 (tsout hw) rfl ?_
    refine z_iconst 152 dX6_count_151 vim1 rfl ?_
    refine z_iret hq rfl dX6_count_152 rfl rfl ?_
    exact ⟨by rw [vCount, if_neg hw], rfl⟩
set_option maxRecDepth 100000 in
theorem r_count {l : Launch} {G : zG} {σ : Nat → Int32} {T : Sht} {N : Pg} {w : Int32} (hc : hdk σ 0 N) (ok : okQ N) (hT : hTR σ T) : zMet l yX7_count mX7_count [.ref (zGa G 158), .int w] G (zW G σ) (zFn G (some (.int (vCount (σ (400 * 158 + 26)) (fun j => σ (400 * 169 + 0 + j)) (σ (400 * 158 + 10)) T N w))) σ) := by
  have np := ok.np
  refine zMet.of (by decide) rfl (Nat.le_of_ble_eq_true rfl) (Or.inr rfl) fun X hX hq => ?_
  subst hX
  show Y G X mX7_count σ 0 [some (.ref (zGa G 158)), some (.int w), none, none, none] []
  suffices main : Y G X mX7_count σ 48 [some (.ref (zGa G 158)), some (.int w), some (.int (nI (sumN (fun p => N (25 + p)) (N 57)))), some (.int (nI (sumN (fun p => N (29 + p)) (N 57)))), some (.int (nI (N 57)))] [] by
    refine z_iconst 1 dX7_count_0 vi0 rfl ?_
    refine z_istore_n 2 [_, _, _, _, _] dX7_count_1 (by decide) rfl rfl rfl ?_
    refine z_iconst 3 dX7_count_2 vi0 rfl ?_
    refine z_istore_n 4 [_, _, _, _, _] dX7_count_3 (by decide) rfl rfl rfl ?_
    refine z_iconst 5 dX7_count_4 vi0 rfl ?_
    refine z_istore 7 [_, _, _, _, _] dX7_count_5 (by decide) rfl rfl rfl ?_
    refine zup (P := fun i => Y G X mX7_count σ 7 [some (.ref (zGa G 158)), some (.int w), some (.int (nI (sumN (fun p => N (25 + p)) i))), some (.int (nI (sumN (fun p => N (29 + p)) i))), some (.int (nI i))] []) (N 57) ?_ (fun i hi ih => ?_) 0 (by omega)
    · skip
      refine z_iload 9 dX7_count_7 rfl rfl ?_
      refine z_aload_n 10 dX7_count_9 rfl rfl ?_
      refine q_get 13 hc rfl (by decide) fl_X7_145 dX7_count_10 rfl ?_
      refine z_icmp_ge_t 48 dX7_count_13 rfl (Int32.le_refl _) ?_
      exact main
    · skip
      refine z_iload 9 dX7_count_7 rfl rfl ?_
      refine z_aload_n 10 dX7_count_9 rfl rfl ?_
      refine q_get 13 hc rfl (by decide) fl_X7_145 dX7_count_10 rfl ?_
      refine z_icmp_ge_f 16 48 dX7_count_13 rfl (nI_ge hi (by omega)) rfl ?_
      refine z_iload_n 17 dX7_count_16 rfl rfl ?_
      refine z_aload_n 18 dX7_count_17 rfl rfl ?_
      refine y_getr 21 _ sh158 rfl fl_X7_7 dX7_count_18 rfl ?_
      refine z_bipush 23 dX7_count_21 vb25 rfl ?_
      refine z_iload 25 dX7_count_23 rfl rfl ?_
      refine z_iaddN 26 (show (25 : Int32) = nI 25 from rfl) rfl dX7_count_25 rfl ?_
      refine q_ld 27 (25 + i) hc rfl (by omega) (by omega) (by omega) dX7_count_26 rfl ?_
      refine z_iaddN 28 rfl rfl dX7_count_27 rfl ?_
      refine z_istore_n 29 [_, _, _, _, _] dX7_count_28 (by decide) rfl rfl rfl ?_
      refine z_iload_n 30 dX7_count_29 rfl rfl ?_
      refine z_aload_n 31 dX7_count_30 rfl rfl ?_
      refine y_getr 34 _ sh158 rfl fl_X7_7 dX7_count_31 rfl ?_
      refine z_bipush 36 dX7_count_34 vb29 rfl ?_
      refine z_iload 38 dX7_count_36 rfl rfl ?_
      refine z_iaddN 39 (show (29 : Int32) = nI 29 from rfl) rfl dX7_count_38 rfl ?_
      refine q_ld 40 (29 + i) hc rfl (by omega) (by omega) (by omega) dX7_count_39 rfl ?_
      refine z_iaddN 41 rfl rfl dX7_count_40 rfl ?_
      refine z_istore_n 42 [_, _, _, _, _] dX7_count_41 (by decide) rfl rfl rfl ?_
      refine z_iinc 45 [_, _, _, _, _] dX7_count_42 rfl (show _ + _ = nI (_ + 1) from nI_1 _) (by decide) rfl rfl rfl ?_
      refine z_goto 7 dX7_count_45 rfl ?_
      exact ih
  by_cases hw : inR w 6
  · obtain ⟨v, hv, rfl⟩ := inR_of hw (by decide)
    have ev : nN (nI v) = v := nN_nI (by omega)
    have vc : ∀ s f t, vCount s f t T N (nI v) = cntV s f t T N v := fun s f t => by rw [vCount, if_pos hw, ev]
    rcases (show v = 0 ∨ v = 1 ∨ v = 2 ∨ v = 3 ∨ v = 4 ∨ v = 5 by omega) with rfl | rfl | rfl | rfl | rfl | rfl
    · skip
      refine z_iload_n 49 dX7_count_48 rfl rfl ?_
      refine z_tsIn 88 dX7_count_49 (by decide) (by decide) (by rfl) rfl ?_
      refine z_aload_n 89 dX7_count_88 rfl rfl ?_
      refine y_get 92 _ sh158 rfl fl_X7_148 dX7_count_89 rfl ?_
      refine z_iret hq rfl dX7_count_92 rfl rfl ?_
      exact ⟨by rw [vc, cntV], rfl⟩
    · skip
      refine z_iload_n 49 dX7_count_48 rfl rfl ?_
      refine z_tsIn 93 dX7_count_49 (by decide) (by decide) (by rfl) rfl ?_
      refine z_aload_n 94 dX7_count_93 rfl rfl ?_
      refine y_getr 97 _ sh158 rfl fl_X7_40 dX7_count_94 rfl ?_
      refine z_iconst 98 dX7_count_97 vi0 rfl ?_
      refine y_ldZ 99 _ 0 sh169 rfl (by decide) (by omega) dX7_count_98 rfl ?_
      refine z_if_eq 106 102 dX7_count_99 rfl rfl (fun h99 => ?_) (fun h99 => ?_)
      · skip
        refine z_iconst 107 dX7_count_106 vi0 rfl ?_
        refine z_aload_n 108 dX7_count_107 rfl rfl ?_
        refine y_getr 111 _ sh158 rfl fl_X7_40 dX7_count_108 rfl ?_
        refine z_iconst 112 dX7_count_111 vi1 rfl ?_
        refine y_ldZ 113 _ 1 sh169 rfl (by decide) (by omega) dX7_count_112 rfl ?_
        refine z_if_eq 120 116 dX7_count_113 rfl rfl (fun h113 => ?_) (fun h113 => ?_)
        · skip
          refine z_iconst 121 dX7_count_120 vi0 rfl ?_
          refine z_iaddN 122 (show (0 : Int32) = nI 0 from rfl) (show (0 : Int32) = nI 0 from rfl) dX7_count_121 rfl ?_
          refine z_iret hq rfl dX7_count_122 rfl rfl ?_
          exact ⟨by rw [vc]; exact (congrArg (fun z => some (Value.int z)) (by first | exact cnt_tt h99 h113 | exact cnt_tf h99 h113 | exact cnt_ft h99 h113 | exact cnt_ff h99 h113)).symm, rfl⟩
        · skip
          refine z_iconst 117 dX7_count_116 vi1 rfl ?_
          refine z_goto 121 dX7_count_117 rfl ?_
          refine z_iaddN 122 (show (0 : Int32) = nI 0 from rfl) (show (1 : Int32) = nI 1 from rfl) dX7_count_121 rfl ?_
          refine z_iret hq rfl dX7_count_122 rfl rfl ?_
          exact ⟨by rw [vc]; exact (congrArg (fun z => some (Value.int z)) (by first | exact cnt_tt h99 h113 | exact cnt_tf h99 h113 | exact cnt_ft h99 h113 | exact cnt_ff h99 h113)).symm, rfl⟩
      · skip
        refine z_iconst 103 dX7_count_102 vi1 rfl ?_
        refine z_goto 107 dX7_count_103 rfl ?_
        refine z_aload_n 108 dX7_count_107 rfl rfl ?_
        refine y_getr 111 _ sh158 rfl fl_X7_40 dX7_count_108 rfl ?_
        refine z_iconst 112 dX7_count_111 vi1 rfl ?_
        refine y_ldZ 113 _ 1 sh169 rfl (by decide) (by omega) dX7_count_112 rfl ?_
        refine z_if_eq 120 116 dX7_count_113 rfl rfl (fun h113 => ?_) (fun h113 => ?_)
        · skip
          refine z_iconst 121 dX7_count_120 vi0 rfl ?_
          refine z_iaddN 122 (show (1 : Int32) = nI 1 from rfl) (show (0 : Int32) = nI 0 from rfl) dX7_count_121 rfl ?_
          refine z_iret hq rfl dX7_count_122 rfl rfl ?_
          exact ⟨by rw [vc]; exact (congrArg (fun z => some (Value.int z)) (by first | exact cnt_tt h99 h113 | exact cnt_tf h99 h113 | exact cnt_ft h99 h113 | exact cnt_ff h99 h113)).symm, rfl⟩
        · skip
          refine z_iconst 117 dX7_count_116 vi1 rfl ?_
          refine z_goto 121 dX7_count_117 rfl ?_
          refine z_iaddN 122 (show (1 : Int32) = nI 1 from rfl) (show (1 : Int32) = nI 1 from rfl) dX7_count_121 rfl ?_
          refine z_iret hq rfl dX7_count_122 rfl rfl ?_
          exact ⟨by rw [vc]; exact (congrArg (fun z => some (Value.int z)) (by first | exact cnt_tt h99 h113 | exact cnt_tf h99 h113 | exact cnt_ft h99 h113 | exact cnt_ff h99 h113)).symm, rfl⟩
    · skip
      refine z_iload_n 49 dX7_count_48 rfl rfl ?_
      refine z_tsIn 123 dX7_count_49 (by decide) (by decide) (by rfl) rfl ?_
      refine z_aload_n 124 dX7_count_123 rfl rfl ?_
      refine y_get 127 _ sh158 rfl fl_X7_59 dX7_count_124 rfl ?_
      refine z_iret hq rfl dX7_count_127 rfl rfl ?_
      exact ⟨by rw [vc, cntV], rfl⟩
    · have ht := hT 0 (by decide)
      cases hs : T 0 with
      | none =>
        rw [hs] at ht
        refine z_iload_n 49 dX7_count_48 rfl rfl ?_
        refine z_tsIn 128 dX7_count_49 (by decide) (by decide) (by rfl) rfl ?_
        refine z_aload_n 129 dX7_count_128 rfl rfl ?_
        refine y_getr 132 _ sh158 rfl fl_X7_44 dX7_count_129 rfl ?_
        refine z_iconst 133 dX7_count_132 vi0 rfl ?_
        refine y_ld 134 _ 0 sh170 rfl (by decide) (by omega) dX7_count_133 rfl ?_
        refine z_bipush 136 dX7_count_134 vbm4 rfl ?_
        refine z_icmp_ne_f 139 144 dX7_count_136 rfl (ht) rfl ?_
        refine z_bipush 141 dX7_count_139 vbm4 rfl ?_
        refine z_goto 150 dX7_count_141 rfl ?_
        refine z_iret hq rfl dX7_count_150 rfl rfl ?_
        exact ⟨by rw [vc]; simp only [cntV, hs], rfl⟩
      | some q =>
        obtain ⟨L, s⟩ := q
        rw [hs] at ht
        obtain ⟨hL, hz, h3', h40⟩ := ht
        refine z_iload_n 49 dX7_count_48 rfl rfl ?_
        refine z_tsIn 128 dX7_count_49 (by decide) (by decide) (by rfl) rfl ?_
        refine z_aload_n 129 dX7_count_128 rfl rfl ?_
        refine y_getr 132 _ sh158 rfl fl_X7_44 dX7_count_129 rfl ?_
        refine z_iconst 133 dX7_count_132 vi0 rfl ?_
        refine y_ld 134 _ 0 sh170 rfl (by decide) (by omega) dX7_count_133 rfl ?_
        rw [hL]
        refine z_bipush 136 dX7_count_134 vbm4 rfl ?_
        refine z_icmp_ne_t 144 dX7_count_136 rfl (nI_neg4 h3') ?_
        refine z_aload_n 145 dX7_count_144 rfl rfl ?_
        refine y_getr 148 _ sh158 rfl fl_X7_47 dX7_count_145 rfl ?_
        refine z_iconst 149 dX7_count_148 vi0 rfl ?_
        refine y_ld 150 _ 0 sh171 rfl (by decide) (by omega) dX7_count_149 rfl ?_
        rw [hz]
        refine z_iret hq rfl dX7_count_150 rfl rfl ?_
        exact ⟨by rw [vc]; simp only [cntV, hs], rfl⟩
    · skip
      refine z_iload_n 49 dX7_count_48 rfl rfl ?_
      refine z_tsIn 151 dX7_count_49 (by decide) (by decide) (by rfl) rfl ?_
      refine z_iload_n 152 dX7_count_151 rfl rfl ?_
      refine z_iret hq rfl dX7_count_152 rfl rfl ?_
      exact ⟨by rw [vc, cntV], rfl⟩
    · skip
      refine z_iload_n 49 dX7_count_48 rfl rfl ?_
      refine z_tsIn 153 dX7_count_49 (by decide) (by decide) (by rfl) rfl ?_
      refine z_iload_n 154 dX7_count_153 rfl rfl ?_
      refine z_iret hq rfl dX7_count_154 rfl rfl ?_
      exact ⟨by rw [vc]; rfl, rfl⟩
  · skip
    refine z_iload_n 49 dX7_count_48 rfl rfl ?_
    refine z_tsOut 155 dX7_count_49 (tsout hw) rfl ?_
    refine z_iconst 156 dX7_count_155 vim1 rfl ?_
    refine z_iret hq rfl dX7_count_156 rfl rfl ?_
    exact ⟨by rw [vCount, if_neg hw], rfl⟩

