/-! ===== calls ===== -/
/-- what a call by 'invokevirtual' needs of the words -/
def zCV (own : String) (idx ci : Nat) (y : MethodName) (μ' : zM) (n : Nat) : Prop := (∃ (T : u_T) (N : Nat), vwCl[ci]? = some (y.cls, T, N)) ∧ Cond.methodLink own idx y ∈ zws ∧ Cond.instanceMethod y ∈ zws ∧ Cond.selects y.cls y y ∈ zws ∧ Cond.initialized y.cls ∈ zws ∧ Cond.code y (zMc μ') (zMl μ') (zMr μ') ∈ zws ∧ y.cls ≠ "java/lang/invoke/MethodHandle" ∧ y.cls ≠ "java/lang/invoke/VarHandle" ∧ (parseMethodDescriptor y.desc).map (fun d => d.parameters.length) = some n
def zCS (own : String) (idx : Nat) (y : MethodName) (μ' : zM) (n : Nat) : Prop := Cond.methodLink own idx y ∈ zws ∧ Cond.static y ∈ zws ∧ Cond.initialized y.cls ∈ zws ∧ Cond.code y (zMc μ') (zMl μ') (zMr μ') ∈ zws ∧ y.cls ≠ "java/lang/invoke/MethodHandle" ∧ y.cls ≠ "java/lang/invoke/VarHandle" ∧ (parseMethodDescriptor y.desc).map (fun d => d.parameters.length) = some n
def zCN (own : String) (idx : Nat) (y : MethodName) (μ' : zM) (n : Nat) : Prop := (own, idx, y) ∈ zNestM ∧ Cond.static y ∈ zws ∧ Cond.initialized y.cls ∈ zws ∧ Cond.code y (zMc μ') (zMl μ') (zMr μ') ∈ zws ∧ y.cls ≠ "java/lang/invoke/MethodHandle" ∧ y.cls ≠ "java/lang/invoke/VarHandle" ∧ (parseMethodDescriptor y.desc).map (fun d => d.parameters.length) = some n
def zCI (own : String) (idx : Nat) (y : MethodName) (μ' : zM) (n : Nat) : Prop := Cond.methodLink own idx y ∈ zws ∧ y.name = "<init>" ∧ Cond.instanceMethod y ∈ zws ∧ Cond.initialized y.cls ∈ zws ∧ Cond.code y (zMc μ') (zMl μ') none ∈ zws ∧ zMr μ' = none ∧ y.cls ≠ "java/lang/invoke/MethodHandle" ∧ y.cls ≠ "java/lang/invoke/VarHandle" ∧ (parseMethodDescriptor y.desc).map (fun d => d.parameters.length) = some n
def zCIN (own : String) (idx : Nat) (y : MethodName) (μ' : zM) (n : Nat) : Prop := (own, idx, y) ∈ zNestM ∧ y.name = "<init>" ∧ Cond.instanceMethod y ∈ zws ∧ Cond.initialized y.cls ∈ zws ∧ Cond.code y (zMc μ') (zMl μ') none ∈ zws ∧ zMr μ' = none ∧ y.cls ≠ "java/lang/invoke/MethodHandle" ∧ y.cls ≠ "java/lang/invoke/VarHandle" ∧ (parseMethodDescriptor y.desc).map (fun d => d.parameters.length) = some n
/-- the callee's room fits -/
def zRm (μ' μ : zM) (a b : Nat) : Prop := zMd μ' + 1 ≤ zMd μ ∧ zMl μ' ≤ 45 ∧ a + zMk μ' ≤ zMk μ ∧ b + zMs μ' ≤ zMs μ
theorem zWd_blind (G : zG) (ws : va_W) (av : List Value) : FrameBlind (va_Pc av (zWd G ws)) := fun a U g mk ⟨h1, hP, hD, hK, hb, hs⟩ => ⟨h1, hP, hD, va_K.moved (u := U) (U := U.calling g mk a) (Vm.Alike.refl U.vm) hK, hb, hs.same rfl rfl⟩
theorem zWd_at {G : zG} {X : zX} {μ : zM} {ws : va_W} {H : Heap} {locs : List Loc} {U : State} (ok : zOK G X μ) (hP : va_P (zGD G) vwCl ws H) (hD : va_D (zA G) ws) (hS : va_S (zA G) (zXs X).heap H locs) (hU : U.heap = H) (hW : (zXs X).WarmedH U.vm) : zWd G ws U :=
  ⟨by rw [hU]; exact hP, hD, va_K.moved hW.alike ok.2.2.2.2.2.2.2.1, Nat.le_trans ok.2.2.2.2.2.2.2.2.1 (by rw [hU]; exact hS.1), ok.2.2.2.2.2.2.2.2.2.1.warm hW (fun q h1 h2 => by rw [hU]; exact hS.2.1 q h1 h2)⟩
theorem zws_cg {y : MethodName} {cc : ByteArray} {n : Nat} {r : Option FieldType} (h : Cond.code y cc n r ∈ zws) : GoodIn zws (Cond.code y cc n r :: zws) := fun w hw => (List.mem_cons.mp hw).elim (fun e => e ▸ zws_good _ h) (zws_good w)
section ZC
variable {G : zG} {X : zX} {μ : zM} {a b : Nat} {ws : va_W} {pc : Nat} {L : List (Option Value)} {S S0 : List Value}
/-- what comes behind a call, whichever it was -/
theorem z_after {μ' : zM} {n : Nat} {Post : Option Value → va_W → Prop} {av : Array Value} {H : Heap} {locs : List Loc} {ls : Array Slot} (ok : zOK G X μ) (hS : va_S (zA G) (zXs X).heap H locs) (hl : zL ls (zMl μ) L)
    (hrun : va_Run (zXp X) (zXl X) (zXe X) (zXR X) (zXs X) (zXm X) (zXa X) (zXb X) (zXt X) (zXc X) H locs a b (zMk μ') (zMs μ') (F0 (zXm X) pc ls S0) S (zQc G Post av) (zA G)) (hn : pc + 3 = n)
    (k : ∀ (v : Option Value) (ws' : va_W), Post v ws' → Z G X μ (a + zMk μ') (b + zMs μ') ws' n L (v.toList ++ S)) : W (zXp X) (zXl X) (zXe X) (zXR X) (zXs X) (zXm X) (zXa X) (zXb X) (zXt X) (zXc X) H locs a b (zXQ X) (F0 (zXm X) pc ls S0) := by
  subst hn
  intro T hT XX
  obtain ⟨v, st₀, t, T', Lc, h0, X', hL, e1, e2, ⟨⟨r, w', hv, hp, hP1, hD1⟩, hF⟩, st⟩ := hrun T hT XX
  cases hv
  rw [va_F, h0] at hF
  obtain ⟨t2, a1, b1⟩ := k v w' hp ok T'.heap (locs ++ Lc) ls (by rw [e1]; exact hP1) hD1 ⟨Nat.le_trans hS.1 (by rw [e1]; exact hF.1), fun q h1 h2 => by rw [e1, hF.2 q (Nat.lt_of_lt_of_le h1 hS.1) h2]; exact hS.2.1 q h1 h2, fun q hq => by
      rcases List.mem_append.mp hq with h | h
      · exact hS.2.2 q h
      · exact hL q h⟩ hl T' rfl X'
  exact ⟨t2, st t2 a1, b1⟩
theorem zroom {μ' : zM} (ok : zOK G X μ) (h : zRm μ' μ a b) : ((zrm (zMd μ') (zMk μ') (zMs μ')).frames + 1 ≤ (zXR X).frames ∧ 8 + (zMl μ' + 11) + (zrm (zMd μ') (zMk μ') (zMs μ')).locals ≤ (zXR X).locals) ∧ (a + zMk μ' ≤ (zXR X).cells ∧ b + zMs μ' ≤ (zXR X).slots) := by
  obtain ⟨h1, h2, h3, h4⟩ := h
  obtain ⟨o1, o2, o3, o4, -⟩ := ok.2.2.2.2.2.2.2.2.2.2
  simp only [zrm]
  omega
theorem z_callV (n r : Nat) {y : MethodName} {μ' : zM} {As : List Value} {q idx ci : Nat} {fs : List Value} {Post : Option Value → va_W → Prop} (hM : zMet (zXl X) y μ' (.ref q :: As) G ws Post) (hw : ws[r]? = some (q, .inr (ci, fs))) (hc : zCV (zMo μ) idx ci y μ' As.length) (hr : zRm μ' μ a b) (hs : (S.map fun v => v.category).sum ≤ 8) (hd : decode (zMc μ) pc = .ok (.invokevirtual idx, 3)) (hS0 : S0 = As.reverse ++ .ref q :: S) (hn : pc + 3 = n)
    (k : ∀ (v : Option Value) (ws' : va_W), Post v ws' → Z G X μ (a + zMk μ') (b + zMs μ') ws' n L (v.toList ++ S)) : Z G X μ a b ws pc L S0 := by
  intro ok H locs ls hP hD hS hl
  subst hS0
  obtain ⟨⟨T, N, c0⟩, c1, c2, c3, c4, c5, c6, c7, c8⟩ := hc
  have hR := zroom ok hr
  have hts := ok.2.2.2.2.2.2.1
  have hG : GoodIn zws (wsV (zMo μ) idx y.cls y (Cond.code y (zMc μ') (zMl μ') (zMr μ') :: zws)) := by
    intro w h
    simp only [wsV, List.cons_append, List.nil_append, List.mem_cons] at h
    rcases h with rfl | rfl | rfl | rfl | rfl | h
    · exact zws_good _ c1
    · exact zws_good _ c2
    · exact zws_good _ c3
    · exact zws_good _ c4
    · exact zws_good _ c5
    · exact zws_good _ h
  exact z_after (μ' := μ') ok hS hl (va_runV (As := As) (rest := S) (C := y.cls) (bytes := zMc μ') (maxL := zMl μ') (ret := zMr μ') ⟨ok.1, ok.2.1, ok.2.2.2.1, ok.2.2.2.2.1, hts⟩ hM (cwV As.length hts hG rfl rfl rfl ⟨rfl, c6, c7, c8⟩ hR.1) ⟨zWd_blind _ _ _, va_recv ok.2.2.2.2.2.2.2.1 hP c0 hw, fun U hU hW => ⟨rfl, zWd_at ok hP hD hS hU hW⟩⟩ rfl rfl hl.1 rfl (lv_room hs) hd hR.2) hn k
theorem z_callS (n : Nat) {y : MethodName} {μ' : zM} {As : List Value} {idx : Nat} {Post : Option Value → va_W → Prop} (hM : zMet (zXl X) y μ' As G ws Post) (hc : zCS (zMo μ) idx y μ' As.length) (hr : zRm μ' μ a b) (hs : (S.map fun v => v.category).sum ≤ 8) (hd : decode (zMc μ) pc = .ok (.invokestatic idx, 3)) (hS0 : S0 = As.reverse ++ S) (hn : pc + 3 = n)
    (k : ∀ (v : Option Value) (ws' : va_W), Post v ws' → Z G X μ (a + zMk μ') (b + zMs μ') ws' n L (v.toList ++ S)) : Z G X μ a b ws pc L S0 := by
  intro ok H locs ls hP hD hS hl
  subst hS0
  obtain ⟨c1, c2, c4, c5, c6, c7, c8⟩ := hc
  have hR := zroom ok hr
  have hts := ok.2.2.2.2.2.2.1
  exact z_after (μ' := μ') ok hS hl (va_runS (As := As) (rest := S) (bytes := zMc μ') (maxL := zMl μ') (ret := zMr μ') ⟨ok.1, ok.2.1, ok.2.2.2.1, ok.2.2.2.2.1, hts⟩ hM ⟨callB_of As.length hts (zws_cg c5) rfl rfl rfl (hts _ c4) (hts _ c1) ⟨c6, c7, c8⟩ hR.1, hts _ c2⟩ ⟨zWd_blind _ _ _, fun U hU hW => ⟨rfl, zWd_at ok hP hD hS hU hW⟩⟩ rfl rfl hl.1 rfl (lv_room hs) hd hR.2) hn k
theorem z_callN (n : Nat) {y : MethodName} {μ' : zM} {As : List Value} {idx : Nat} {Post : Option Value → va_W → Prop} (hM : zMet (zXl X) y μ' As G ws Post) (hc : zCN (zMo μ) idx y μ' As.length) (hr : zRm μ' μ a b) (hs : (S.map fun v => v.category).sum ≤ 8) (hd : decode (zMc μ) pc = .ok (.invokestatic idx, 3)) (hS0 : S0 = As.reverse ++ S) (hn : pc + 3 = n)
    (k : ∀ (v : Option Value) (ws' : va_W), Post v ws' → Z G X μ (a + zMk μ') (b + zMs μ') ws' n L (v.toList ++ S)) : Z G X μ a b ws pc L S0 := by
  intro ok H locs ls hP hD hS hl
  subst hS0
  obtain ⟨c1, c2, c4, c5, c6, c7, c8⟩ := hc
  have hR := zroom ok hr
  have hts := ok.2.2.2.2.2.2.1
  exact z_after (μ' := μ') ok hS hl (va_runSN (As := As) (rest := S) (bytes := zMc μ') (maxL := zMl μ') (ret := zMr μ') ⟨ok.1, ok.2.1, ok.2.2.2.1, ok.2.2.2.2.1, hts⟩ hM ⟨va_cnB As.length hts (zws_cg c5) rfl rfl rfl (ok.2.2.2.2.2.2.2.2.2.1.1 _ c1) (hts _ c4) ⟨c6, c7, c8⟩ hR.1, hts _ c2, trivial⟩ ⟨zWd_blind _ _ _, fun U hU hW => ⟨rfl, zWd_at ok hP hD hS hU hW⟩⟩ rfl rfl hl.1 rfl (lv_room hs) hd hR.2) hn k
theorem z_callI (n : Nat) {y : MethodName} {μ' : zM} {As : List Value} {q idx : Nat} {Post : Option Value → va_W → Prop} (hM : zMet (zXl X) y μ' (.ref q :: As) G ws Post) (hc : zCI (zMo μ) idx y μ' As.length) (hr : zRm μ' μ a b) (hs : (S.map fun v => v.category).sum ≤ 8) (hd : decode (zMc μ) pc = .ok (.invokespecial idx, 3)) (hS0 : S0 = As.reverse ++ .ref q :: S) (hn : pc + 3 = n)
    (k : ∀ (v : Option Value) (ws' : va_W), Post v ws' → Z G X μ (a + zMk μ') (b + zMs μ') ws' n L (v.toList ++ S)) : Z G X μ a b ws pc L S0 := by
  intro ok H locs ls hP hD hS hl
  subst hS0
  obtain ⟨c1, c2, c3, c4, c5, c5', c6, c7, c8⟩ := hc
  have hR := zroom ok hr
  have hts := ok.2.2.2.2.2.2.1
  have hM' : Met (zXl X) y (Cond.code y (zMc μ') (zMl μ') none :: zws) (zrm (zMd μ') (zMk μ') (zMs μ')) (va_Pc (.ref q :: As) (zWd G ws)) (zQc G Post) (zMk μ') (zMs μ') (zA G) := by rw [← c5']; exact hM
  exact z_after (μ' := μ') ok hS hl (va_runI (As := As) (rest := S) (b := q) (bytes := zMc μ') (maxL := zMl μ') ⟨ok.1, ok.2.1, ok.2.2.2.1, ok.2.2.2.2.1, hts⟩ hM' ⟨callB_of As.length hts (zws_cg c5) rfl rfl rfl (hts _ c4) (hts _ c1) ⟨c6, c7, c8⟩ hR.1, c2, hts _ c3⟩ ⟨zWd_blind _ _ _, fun U hU hW => ⟨rfl, zWd_at ok hP hD hS hU hW⟩⟩ rfl rfl hl.1 rfl (lv_room hs) hd hR.2) hn k
theorem z_callIN (n : Nat) {y : MethodName} {μ' : zM} {As : List Value} {q idx : Nat} {Post : Option Value → va_W → Prop} (hM : zMet (zXl X) y μ' (.ref q :: As) G ws Post) (hc : zCIN (zMo μ) idx y μ' As.length) (hr : zRm μ' μ a b) (hs : (S.map fun v => v.category).sum ≤ 8) (hd : decode (zMc μ) pc = .ok (.invokespecial idx, 3)) (hS0 : S0 = As.reverse ++ .ref q :: S) (hn : pc + 3 = n)
    (k : ∀ (v : Option Value) (ws' : va_W), Post v ws' → Z G X μ (a + zMk μ') (b + zMs μ') ws' n L (v.toList ++ S)) : Z G X μ a b ws pc L S0 := by
  intro ok H locs ls hP hD hS hl
  subst hS0
  obtain ⟨c1, c2, c3, c4, c5, c5', c6, c7, c8⟩ := hc
  have hR := zroom ok hr
  have hts := ok.2.2.2.2.2.2.1
  have hM' : Met (zXl X) y (Cond.code y (zMc μ') (zMl μ') none :: zws) (zrm (zMd μ') (zMk μ') (zMs μ')) (va_Pc (.ref q :: As) (zWd G ws)) (zQc G Post) (zMk μ') (zMs μ') (zA G) := by rw [← c5']; exact hM
  exact z_after (μ' := μ') ok hS hl (va_runIN (As := As) (rest := S) (b := q) (bytes := zMc μ') (maxL := zMl μ') ⟨ok.1, ok.2.1, ok.2.2.2.1, ok.2.2.2.2.1, hts⟩ hM' ⟨va_cnB As.length hts (zws_cg c5) rfl rfl rfl (ok.2.2.2.2.2.2.2.2.2.1.1 _ c1) (hts _ c4) ⟨c6, c7, c8⟩ hR.1, c2, hts _ c3⟩ ⟨zWd_blind _ _ _, fun U hU hW => ⟨rfl, zWd_at ok hP hD hS hU hW⟩⟩ rfl rfl hl.1 rfl (lv_room hs) hd hR.2) hn k
end ZC
