/-! ===== String constants: length, charAt ===== -/
theorem kv_val : Cond.fieldLink "java/lang/String" 9 "java/lang/String" "value" "[B" ∈ zws := zws_t 1168 (by decide +kernel) rfl
theorem kv_cod : Cond.fieldLink "java/lang/String" 15 "java/lang/String" "coder" "B" ∈ zws := zws_t 1169 (by decide +kernel) rfl
theorem kv_com : Cond.fieldLink "java/lang/String" 38 "java/lang/String" "COMPACT_STRINGS" "Z" ∈ zws := zws_t 328 (by decide +kernel) rfl
theorem kv_sio : Cond.fieldLink "java/lang/String" 1053 "jdk/internal/util/Preconditions" "SIOOBE_FORMATTER" "Ljava/util/function/BiFunction;" ∈ zws := zws_t 344 (by decide +kernel) rfl
theorem zLen_lt : ∀ i, i < 6 → zLen.getD i 0 ≤ 8 := by decide +kernel
section ZT
variable {G : zG} {X : zX} {μ : zM} {a b : Nat} {ws : va_W} {pc : Nat} {L : List (Option Value)} {S S0 : List Value}
theorem z_ldcS (n i : Nat) (hi : i < 6) (ho : zMo μ = "HueLease$Tape") (hd : decode (zMc μ) pc = .ok (.ldc (zSi.getD i 0), 2)) (hn : pc + 2 = n) (k : Z G X μ a b ws n L (.ref (zGK G i) :: S)) : Z G X μ a b ws pc L S := by
  subst hn
  intro ok H locs ls hP hD hS hl
  have hs := ok.2.2.2.2.2.2.2.2.2.1
  exact va_ldcS ok.1 ok.2.1 (by rw [← ho]; exact ok.2.2.2.2.1) (hs.2.2.2.2.2.2.2.1 i hi) hd (k ok H locs ls hP hD hS hl)
theorem z_fV (n i : Nat) (hi : i < 6) (ho : zMo μ = "java/lang/String") (hd : decode (zMc μ) pc = .ok (.getfield 9, 3)) (hn : pc + 3 = n) (k : Z G X μ a b ws n L (.ref (zGV G i) :: S)) : Z G X μ a b ws pc L (.ref (zGK G i) :: S) := by
  subst hn
  intro ok H locs ls hP hD hS hl
  have hs := ok.2.2.2.2.2.2.2.2.2.1
  exact vk_getf ok.1 ok.2.1 (hs.2.2.2.2.2.2.1.1 i hi).2.2.1 hS (by rw [← ho]; exact ok.2.2.2.2.1) (ok.2.2.2.2.2.2.1 _ kv_val) (fun _ h => h) hd (k ok H locs ls hP hD hS hl)
theorem z_fC (n i : Nat) (hi : i < 6) (ho : zMo μ = "java/lang/String") (hd : decode (zMc μ) pc = .ok (.getfield 15, 3)) (hn : pc + 3 = n) (k : Z G X μ a b ws n L (.int 0 :: S)) : Z G X μ a b ws pc L (.ref (zGK G i) :: S) := by
  subst hn
  intro ok H locs ls hP hD hS hl
  have hs := ok.2.2.2.2.2.2.2.2.2.1
  exact vk_getf ok.1 ok.2.1 (hs.2.2.2.2.2.2.1.1 i hi).2.1 hS (by rw [← ho]; exact ok.2.2.2.2.1) (ok.2.2.2.2.2.2.1 _ kv_cod) (fun _ h => h) hd (k ok H locs ls hP hD hS hl)
theorem z_gsC (n : Nat) (ho : zMo μ = "java/lang/String") (hd : decode (zMc μ) pc = .ok (.getstatic 38, 3)) (hn : pc + 3 = n) (k : Z G X μ a b ws n L (.int 1 :: S)) : Z G X μ a b ws pc L S := by
  subst hn
  intro ok H locs ls hP hD hS hl
  have hs := ok.2.2.2.2.2.2.2.2.2.1
  exact va_gets ok.1 ok.2.1 hs.2.2.2.2.1 hS (by rw [← ho]; exact ok.2.2.2.2.1) (ok.2.2.2.2.2.2.1 _ kv_com) (fun _ h => h) hd (k ok H locs ls hP hD hS hl)
theorem z_gsS (n : Nat) (ho : zMo μ = "java/lang/String") (hd : decode (zMc μ) pc = .ok (.getstatic 1053, 3)) (hn : pc + 3 = n) (k0 : Z G X μ a b ws n L (.null :: S)) (k1 : ∀ t : Nat, Z G X μ a b ws n L (.ref t :: S)) : Z G X μ a b ws pc L S := by
  subst hn
  intro ok H locs ls hP hD hS hl
  have hs := ok.2.2.2.2.2.2.2.2.2.1
  rcases hs.2.2.2.2.2.1 with h | ⟨t, h⟩
  · exact va_gets ok.1 ok.2.1 h hS (by rw [← ho]; exact ok.2.2.2.2.1) (ok.2.2.2.2.2.2.1 _ kv_sio) (fun _ h => h) hd (k0 ok H locs ls hP hD hS hl)
  · exact va_gets ok.1 ok.2.1 h hS (by rw [← ho]; exact ok.2.2.2.2.1) (ok.2.2.2.2.2.2.1 _ kv_sio) (fun _ h => h) hd (k1 t ok H locs ls hP hD hS hl)
theorem z_tB (n i j : Nat) (hi : i < 6) (hj : j < zLen.getD i 0) (hd : decode (zMc μ) pc = .ok (.baload, 1)) (hn : pc + 1 = n) (k : Z G X μ a b ws n L (.int ((zByt.getD i []).getD j 0) :: S)) : Z G X μ a b ws pc L (.int (nI j) :: .ref (zGV G i) :: S) := by
  subst hn
  have hl8 := zLen_lt i hi
  intro ok H locs ls hP hD hS hl
  have hs := ok.2.2.2.2.2.2.2.2.2.1
  exact va_tb ok.1 ok.2.1 (hs.2.2.2.2.2.2.1.1 i hi).2.2.2 hS (vp_in_nI hj (by omega)) (by rw [nI_clamp (by omega)]) hd (k ok H locs ls hP hD hS hl)
theorem z_tLn (n i : Nat) (hi : i < 6) (hd : decode (zMc μ) pc = .ok (.arraylength, 1)) (hn : pc + 1 = n) (k : Z G X μ a b ws n L (.int (nI (zLen.getD i 0)) :: S)) : Z G X μ a b ws pc L (.ref (zGV G i) :: S) := by
  subst hn
  intro ok H locs ls hP hD hS hl
  have hs := ok.2.2.2.2.2.2.2.2.2.1
  exact va_tlen ok.1 ok.2.1 (hs.2.2.2.2.2.2.1.1 i hi).2.2.2 hS rfl hd (k ok H locs ls hP hD hS hl)
def zCT (own : String) (idx : Nat) (y : MethodName) (μ' : zM) (n : Nat) : Prop := y.cls = "java/lang/String" ∧ Cond.methodLink own idx y ∈ zws ∧ Cond.instanceMethod y ∈ zws ∧ Cond.selects y.cls y y ∈ zws ∧ Cond.initialized y.cls ∈ zws ∧ Cond.code y (zMc μ') (zMl μ') (zMr μ') ∈ zws ∧ y.cls ≠ "java/lang/invoke/MethodHandle" ∧ y.cls ≠ "java/lang/invoke/VarHandle" ∧ (parseMethodDescriptor y.desc).map (fun d => d.parameters.length) = some n
theorem z_callT (n i : Nat) {y : MethodName} {μ' : zM} {As : List Value} {idx : Nat} {Post : Option Value → va_W → Prop} (hi : i < 6) (hM : zMet (zXl X) y μ' (.ref (zGK G i) :: As) G ws Post) (hc : zCT (zMo μ) idx y μ' As.length) (hr : zRm μ' μ a b) (hs : (S.map fun v => v.category).sum ≤ 8) (hd : decode (zMc μ) pc = .ok (.invokevirtual idx, 3)) (hS0 : S0 = As.reverse ++ .ref (zGK G i) :: S) (hn : pc + 3 = n)
    (k : ∀ (v : Option Value) (ws' : va_W), Post v ws' → Z G X μ (a + zMk μ') (b + zMs μ') ws' n L (v.toList ++ S)) : Z G X μ a b ws pc L S0 := by
  intro ok H locs ls hP hD hS hl
  subst hS0
  obtain ⟨c0, c1, c2, c3, c4, c5, c6, c7, c8⟩ := hc
  have hR := zroom ok hr
  have hts := ok.2.2.2.2.2.2.1
  have hst := ok.2.2.2.2.2.2.2.2.2.1
  have hG : GoodIn zws (wsV (zMo μ) idx y.cls y (Cond.code y (zMc μ') (zMl μ') (zMr μ') :: zws)) := by
    intro w h
    simp only [wsV, List.cons_append, List.nil_append, List.mem_cons] at h
    rcases h with rfl | rfl | rfl | rfl | rfl | h
    · exact zws_good _ c1
    · exact zws_good _ c2
    · exact zws_good _ c3
    · exact zws_good _ c4
    · exact zws_good _ c5
    · exact zws_good _ h
  exact z_after (μ' := μ') ok hS hl (va_runV (As := As) (rest := S) (C := y.cls) (bytes := zMc μ') (maxL := zMl μ') (ret := zMr μ') ⟨ok.1, ok.2.1, ok.2.2.2.1, ok.2.2.2.2.1, hts⟩ hM (cwV As.length hts hG rfl rfl rfl ⟨rfl, c6, c7, c8⟩ hR.1) ⟨zWd_blind _ _ _, by rw [c0]; exact vk_recv hst.2.2.2.2.2.2.1 hi hS, fun U hU hW => ⟨rfl, zWd_at ok hP hD hS hU hW⟩⟩ rfl rfl hl.1 rfl (lv_room hs) hd hR.2) hn k
end ZT
theorem y_cT {G : zG} {X : zX} {μ : zM} {σ : Nat → Int32} {pc : Nat} {L : List (Option Value)} {S S0 : List Value} (n i : Nat) {y : MethodName} {μ' : zM} {As : List Value} {idx : Nat} {v : Value} (hi : i < 6) (hM : zMet (zXl X) y μ' (.ref (zGK G i) :: As) G (zW G σ) (zFn G (some v) σ)) (hc : zCT (zMo μ) idx y μ' As.length) (hm : zRm0 μ' μ) (hs : (S.map fun v => v.category).sum ≤ 8) (hd : decode (zMc μ) pc = .ok (.invokevirtual idx, 3)) (hS0 : S0 = As.reverse ++ .ref (zGK G i) :: S) (hn : pc + 3 = n)
    (k : Y G X μ σ n L (v :: S)) : Y G X μ σ pc L S0 :=
  z_callT n i hi hM hc hm.rm hs hd hS0 hn (fun v w h => by
    obtain ⟨h1, h2⟩ := h
    rw [h1, h2, hm.2.2.1, hm.2.2.2]
    exact k)
theorem ct_coder : zCT RJ0 335 yJ0_coder_7d493 mJ0_coder_7d493 0 := ⟨rfl, zws_t 324 (by decide +kernel) rfl, zws_t 325 (by decide +kernel) rfl, zws_t 326 (by decide +kernel) rfl, zws_t 10 (by decide +kernel) rfl, zws_t 327 (by decide +kernel) rfl, by decide +kernel, by decide +kernel, by decide +kernel⟩
theorem ct_isLatin1 : zCT RJ0 492 yJ0_isLatin1_aae02 mJ0_isLatin1_aae02 0 := ⟨rfl, zws_t 334 (by decide +kernel) rfl, zws_t 335 (by decide +kernel) rfl, zws_t 336 (by decide +kernel) rfl, zws_t 10 (by decide +kernel) rfl, zws_t 337 (by decide +kernel) rfl, by decide +kernel, by decide +kernel, by decide +kernel⟩
theorem ct_length : zCT RX4 145 yJ0_length_8abf5 mJ0_length_8abf5 0 := ⟨rfl, zws_t 320 (by decide +kernel) rfl, zws_t 321 (by decide +kernel) rfl, zws_t 322 (by decide +kernel) rfl, zws_t 10 (by decide +kernel) rfl, zws_t 323 (by decide +kernel) rfl, by decide +kernel, by decide +kernel, by decide +kernel⟩
theorem ct_charAt : zCT RX4 149 yJ0_charAt_5068e mJ0_charAt_5068e 1 := ⟨rfl, zws_t 330 (by decide +kernel) rfl, zws_t 331 (by decide +kernel) rfl, zws_t 332 (by decide +kernel) rfl, zws_t 10 (by decide +kernel) rfl, zws_t 333 (by decide +kernel) rfl, by decide +kernel, by decide +kernel, by decide +kernel⟩
def nmN : List (List Nat) := [[112, 108, 97, 105, 110], [108, 97, 115, 116, 105, 110, 103], [114, 111, 121, 97, 108], [102, 117, 103, 105, 116, 105, 118, 101], [111, 110, 101], [108, 101, 110, 116]]
def nmC (i j : Nat) : Nat := (nmN.getD i []).getD j 0
theorem nmC_lt : ∀ i, i < 6 → ∀ j, j < 8 → nmC i j < 128 := by decide +kernel
theorem nmC_ch : ∀ i, i < 6 → ∀ j, j < 8 → ((((zByt.getD i []).getD j 0 &&& 255).toUInt32 % 65536).toInt32 = nI (nmC i j)) := by decide +kernel
theorem len_shr : ∀ i, i < 6 → nI (zLen.getD i 0) >>> ((0 : Int32) &&& 31) = nI (zLen.getD i 0) := by decide +kernel
set_option maxRecDepth 100000 in
theorem c_coder {l : Launch} {G : zG} {σ : Nat → Int32} {i : Nat} (hi : i < 6) : zMet l yJ0_coder_7d493 mJ0_coder_7d493 [.ref (zGK G i)] G (zW G σ) (zFn G (some (.int 0)) σ) := by
  refine zMet.of (by decide) rfl (Nat.le_of_ble_eq_true rfl) (Or.inr rfl) fun X hX hq => ?_
  subst hX
  show Y G X mJ0_coder_7d493 σ 0 [some (.ref (zGK G i))] []
  refine z_gsC 3 rfl dJ0_coder_7d493_0 rfl ?_
  refine z_if_eq_f 6 13 dJ0_coder_7d493_3 rfl (by decide) rfl ?_
  refine z_aload_n 7 dJ0_coder_7d493_6 rfl rfl ?_
  refine z_fC 10 i hi rfl dJ0_coder_7d493_7 rfl ?_
  refine z_goto 14 dJ0_coder_7d493_10 rfl ?_
  refine z_zret hq rfl rfl dJ0_coder_7d493_14 rfl rfl ?_
  exact ⟨rfl, rfl⟩
set_option maxRecDepth 100000 in
theorem c_isLatin1 {l : Launch} {G : zG} {σ : Nat → Int32} {i : Nat} (hi : i < 6) : zMet l yJ0_isLatin1_aae02 mJ0_isLatin1_aae02 [.ref (zGK G i)] G (zW G σ) (zFn G (some (.int 1)) σ) := by
  refine zMet.of (by decide) rfl (Nat.le_of_ble_eq_true rfl) (Or.inr rfl) fun X hX hq => ?_
  subst hX
  show Y G X mJ0_isLatin1_aae02 σ 0 [some (.ref (zGK G i))] []
  refine z_gsC 3 rfl dJ0_isLatin1_aae02_0 rfl ?_
  refine z_if_eq_f 6 17 dJ0_isLatin1_aae02_3 rfl (by decide) rfl ?_
  refine z_aload_n 7 dJ0_isLatin1_aae02_6 rfl rfl ?_
  refine z_fC 10 i hi rfl dJ0_isLatin1_aae02_7 rfl ?_
  refine z_if_ne_f 13 17 dJ0_isLatin1_aae02_10 rfl rfl rfl ?_
  refine z_iconst 14 dJ0_isLatin1_aae02_13 vi1 rfl ?_
  refine z_goto 18 dJ0_isLatin1_aae02_14 rfl ?_
  refine z_zret hq rfl rfl dJ0_isLatin1_aae02_18 rfl rfl ?_
  exact ⟨rfl, rfl⟩
set_option maxRecDepth 100000 in
theorem c_length {l : Launch} {G : zG} {σ : Nat → Int32} {i : Nat} (hi : i < 6) : zMet l yJ0_length_8abf5 mJ0_length_8abf5 [.ref (zGK G i)] G (zW G σ) (zFn G (some (.int (nI (zLen.getD i 0)))) σ) := by
  refine zMet.of (by decide) rfl (Nat.le_of_ble_eq_true rfl) (Or.inr rfl) fun X hX hq => ?_
  subst hX
  show Y G X mJ0_length_8abf5 σ 0 [some (.ref (zGK G i))] []
  refine z_aload_n 1 dJ0_length_8abf5_0 rfl rfl ?_
  refine z_fV 4 i hi rfl dJ0_length_8abf5_1 rfl ?_
  refine z_tLn 5 i hi dJ0_length_8abf5_4 rfl ?_
  refine z_aload_n 6 dJ0_length_8abf5_5 rfl rfl ?_
  refine y_cT 9 i hi (c_coder hi) ct_coder ⟨by decide, by decide, rfl, rfl⟩ (Nat.le_of_ble_eq_true rfl) dJ0_length_8abf5_6 rfl rfl ?_
  refine z_ishr 10 dJ0_length_8abf5_9 rfl ?_
  rw [len_shr i hi]
  refine z_iret hq rfl dJ0_length_8abf5_10 rfl rfl ?_
  exact ⟨rfl, rfl⟩
set_option maxRecDepth 100000 in
theorem c_chk3 {l : Launch} {G : zG} {σ : Nat → Int32} {j m : Nat} {v : Value} (hv : v = .null ∨ ∃ t : Nat, v = .ref t) (hj : j < m) (hm : m < 1000) : zMet l yJ3_checkIndex_8e157 mJ3_checkIndex_8e157 [.int (nI j), .int (nI m), v] G (zW G σ) (zFn G (some (.int (nI j))) σ) := by
  have hlen : (lg_sl [.int (nI j), .int (nI m), v]).length ≤ zMl mJ3_checkIndex_8e157 := by
    rcases hv with rfl | ⟨t, rfl⟩ <;> exact Nat.le_of_ble_eq_true rfl
  have hent : zEnt [.int (nI j), .int (nI m), v] (zMl mJ3_checkIndex_8e157) = [some (.int (nI j)), some (.int (nI m)), some v] := by
    rcases hv with rfl | ⟨t, rfl⟩ <;> rfl
  refine zMet.of (by decide) rfl hlen (Or.inr rfl) fun X hX hq => ?_
  subst hX
  rw [hent]
  refine z_iload_n 1 dJ3_checkIndex_8e157_0 rfl rfl ?_
  refine z_if_lt_f 4 9 dJ3_checkIndex_8e157_1 rfl (nI_pos (by omega)) rfl ?_
  refine z_iload_n 5 dJ3_checkIndex_8e157_4 rfl rfl ?_
  refine z_iload_n 6 dJ3_checkIndex_8e157_5 rfl rfl ?_
  refine z_icmp_lt_t 16 dJ3_checkIndex_8e157_6 rfl (nI_lt hj (by omega)) ?_
  refine z_iload_n 17 dJ3_checkIndex_8e157_16 rfl rfl ?_
  refine z_iret hq rfl dJ3_checkIndex_8e157_17 rfl rfl ?_
  exact ⟨rfl, rfl⟩
set_option maxRecDepth 100000 in
theorem c_chk0 {l : Launch} {G : zG} {σ : Nat → Int32} {j m : Nat} (hj : j < m) (hm : m < 1000) : zMet l yJ0_checkIndex_df160 mJ0_checkIndex_df160 [.int (nI j), .int (nI m)] G (zW G σ) (zFn G none σ) := by
  refine zMet.of (by decide) rfl (Nat.le_of_ble_eq_true rfl) (Or.inr rfl) fun X hX hq => ?_
  subst hX
  show Y G X mJ0_checkIndex_df160 σ 0 [some (.int (nI j)), some (.int (nI m))] []
  refine z_iload_n 1 dJ0_checkIndex_df160_0 rfl rfl ?_
  refine z_iload_n 2 dJ0_checkIndex_df160_1 rfl rfl ?_
  have rest : ∀ v : Value, (v = .null ∨ ∃ t : Nat, v = .ref t) → Y G X mJ0_checkIndex_df160 σ 5 [some (.int (nI j)), some (.int (nI m))] [v, .int (nI m), .int (nI j)] := by
    intro v hv
    refine y_cSs 8 (c_chk3 hv hj hm) cs_J0_1059 ⟨by decide, by decide, rfl, rfl⟩ (Nat.le_of_ble_eq_true rfl) dJ0_checkIndex_df160_5 rfl rfl ?_
    refine z_pop 9 dJ0_checkIndex_df160_8 rfl rfl ?_
    refine z_vret hq rfl dJ0_checkIndex_df160_9 rfl rfl ?_
    exact ⟨rfl, rfl⟩
  exact z_gsS 5 rfl dJ0_checkIndex_df160_2 rfl (rest _ (Or.inl rfl)) (fun t => rest _ (Or.inr ⟨t, rfl⟩))
set_option maxRecDepth 100000 in
theorem c_chL {l : Launch} {G : zG} {σ : Nat → Int32} {i j : Nat} (hi : i < 6) (hj : j < zLen.getD i 0) : zMet l yJ1_charAt_3b067 mJ1_charAt_3b067 [.ref (zGV G i), .int (nI j)] G (zW G σ) (zFn G (some (.int (nI (nmC i j)))) σ) := by
  have h8 := zLen_lt i hi
  have hc := nmC_lt i hi j (by omega)
  refine zMet.of (by decide) rfl (Nat.le_of_ble_eq_true rfl) (Or.inr rfl) fun X hX hq => ?_
  subst hX
  show Y G X mJ1_charAt_3b067 σ 0 [some (.ref (zGV G i)), some (.int (nI j))] []
  refine z_iload_n 1 dJ1_charAt_3b067_0 rfl rfl ?_
  refine z_aload_n 2 dJ1_charAt_3b067_1 rfl rfl ?_
  refine z_tLn 3 i hi dJ1_charAt_3b067_2 rfl ?_
  refine y_cSv 6 (c_chk0 hj (by omega)) cs_J1_9 ⟨by decide, by decide, rfl, rfl⟩ (Nat.le_of_ble_eq_true rfl) dJ1_charAt_3b067_3 rfl rfl ?_
  refine z_aload_n 7 dJ1_charAt_3b067_6 rfl rfl ?_
  refine z_iload_n 8 dJ1_charAt_3b067_7 rfl rfl ?_
  refine z_tB 9 i j hi hj dJ1_charAt_3b067_8 rfl ?_
  refine z_sipush 12 dJ1_charAt_3b067_9 (show _ = (255 : Int32) by decide +kernel) rfl ?_
  refine z_iand 13 dJ1_charAt_3b067_12 rfl ?_
  refine z_i2c 14 dJ1_charAt_3b067_13 rfl ?_
  rw [nmC_ch i hi j (by omega)]
  refine z_zret hq rfl (pk_charN (by omega)).1 dJ1_charAt_3b067_14 rfl rfl ?_
  exact ⟨rfl, rfl⟩
set_option maxRecDepth 100000 in
theorem c_charAt {l : Launch} {G : zG} {σ : Nat → Int32} {i j : Nat} (hi : i < 6) (hj : j < zLen.getD i 0) : zMet l yJ0_charAt_5068e mJ0_charAt_5068e [.ref (zGK G i), .int (nI j)] G (zW G σ) (zFn G (some (.int (nI (nmC i j)))) σ) := by
  have h8 := zLen_lt i hi
  have hc := nmC_lt i hi j (by omega)
  refine zMet.of (by decide) rfl (Nat.le_of_ble_eq_true rfl) (Or.inr rfl) fun X hX hq => ?_
  subst hX
  show Y G X mJ0_charAt_5068e σ 0 [some (.ref (zGK G i)), some (.int (nI j))] []
  refine z_aload_n 1 dJ0_charAt_5068e_0 rfl rfl ?_
  refine y_cT 4 i hi (c_isLatin1 hi) ct_isLatin1 ⟨by decide, by decide, rfl, rfl⟩ (Nat.le_of_ble_eq_true rfl) dJ0_charAt_5068e_1 rfl rfl ?_
  refine z_if_eq_f 7 16 dJ0_charAt_5068e_4 rfl (by decide) rfl ?_
  refine z_aload_n 8 dJ0_charAt_5068e_7 rfl rfl ?_
  refine z_fV 11 i hi rfl dJ0_charAt_5068e_8 rfl ?_
  refine z_iload_n 12 dJ0_charAt_5068e_11 rfl rfl ?_
  refine y_cSs 15 (c_chL hi hj) cs_J0_495 ⟨by decide, by decide, rfl, rfl⟩ (Nat.le_of_ble_eq_true rfl) dJ0_charAt_5068e_12 rfl rfl ?_
  refine z_zret hq rfl (pk_charN (by omega)).1 dJ0_charAt_5068e_15 rfl rfl ?_
  exact ⟨rfl, rfl⟩

