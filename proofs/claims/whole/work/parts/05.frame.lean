/-! ===== the frame of all walks: one world of cells, one judgement Z ===== -/
def zws : List Cond := lw_tbl.filter goodWord
theorem zws_mem {w : Cond} (h : w ∈ lw_tbl) (g : goodWord w = true) : w ∈ zws := List.mem_filter.mpr ⟨h, g⟩
theorem zws_t {w : Cond} (i : Nat) (h : tables_1[i]? = some w) (g : goodWord w = true) : w ∈ zws := zws_mem (List.mem_append_right _ (List.mem_of_getElem? h)) g
theorem zws_s {w : Cond} (i : Nat) (h : (k2_sels lw_privs)[i]? = some w) (g : goodWord w = true) : w ∈ zws := zws_mem (List.mem_append_left _ (List.mem_of_getElem? h)) g
theorem zws_good : GoodIn zws zws := fun _ h => ⟨h, good_of_word (List.mem_filter.mp h).2⟩
/-- ghosts of a run: classes, array classes, the law's first new cell, String constants, the two static rows, addresses of the cells -/
abbrev zG : Type := va_G × (ClassId × ClassId × ClassId × ClassId) × Nat × (Nat → Nat) × (Nat → Nat) × Nat × Nat × (Nat → Nat)
abbrev zGD (G : zG) : va_G := G.1
abbrev zcI (G : zG) : ClassId := G.2.1.1
abbrev zcZ (G : zG) : ClassId := G.2.1.2.1
abbrev zcB (G : zG) : ClassId := G.2.1.2.2.1
abbrev zcS (G : zG) : ClassId := G.2.1.2.2.2
abbrev zGt (G : zG) : List (ClassId × FieldType) := [(zcI G, .int), (zcZ G, .boolean), (zcB G, .object "HueLease$Books"), (zcS G, .object "HueLease$Sheet")]
abbrev zGb (G : zG) : Nat := G.2.2.1
abbrev zGK (G : zG) : Nat → Nat := G.2.2.2.1
abbrev zGV (G : zG) : Nat → Nat := G.2.2.2.2.1
abbrev zGR (G : zG) : Nat := G.2.2.2.2.2.1
abbrev zGF (G : zG) : Nat := G.2.2.2.2.2.2.1
abbrev zGa (G : zG) : Nat → Nat := G.2.2.2.2.2.2.2
def zA (G : zG) : Nat → Prop := fun q => zGb G ≤ q
/-- a method: class, bytes, what it returns, locals, depth, cells and slots that it makes -/
abbrev zM : Type := String × ByteArray × Option FieldType × Nat × Nat × Nat × Nat
abbrev zMo (μ : zM) : String := μ.1
abbrev zMc (μ : zM) : ByteArray := μ.2.1
abbrev zMr (μ : zM) : Option FieldType := μ.2.2.1
abbrev zMl (μ : zM) : Nat := μ.2.2.2.1
abbrev zMd (μ : zM) : Nat := μ.2.2.2.2.1
abbrev zMk (μ : zM) : Nat := μ.2.2.2.2.2.1
abbrev zMs (μ : zM) : Nat := μ.2.2.2.2.2.2
def zrm (d k n : Nat) : Room := { frames := d, cells := k, slots := n, locals := 64 * d }
abbrev zX : Type := Program × Launch × Env × Room × State × MethodId × Array Value × List Frame × Method × Code × (State → Prop)
abbrev zXp (X : zX) : Program := X.1
abbrev zXl (X : zX) : Launch := X.2.1
abbrev zXe (X : zX) : Env := X.2.2.1
abbrev zXR (X : zX) : Room := X.2.2.2.1
abbrev zXs (X : zX) : State := X.2.2.2.2.1
abbrev zXm (X : zX) : MethodId := X.2.2.2.2.2.1
abbrev zXa (X : zX) : Array Value := X.2.2.2.2.2.2.1
abbrev zXb (X : zX) : List Frame := X.2.2.2.2.2.2.2.1
abbrev zXt (X : zX) : Method := X.2.2.2.2.2.2.2.2.1
abbrev zXc (X : zX) : Code := X.2.2.2.2.2.2.2.2.2.1
abbrev zXQ (X : zX) : State → Prop := X.2.2.2.2.2.2.2.2.2.2
/-- what the tables and the start give beside the words: nest mates, static rows, String constants -/
def zRents : Nat → Value := fun j => .int (([2, 3, 6, 1] : List Int32).getD j 0)
def zFades : Nat → Value := fun j => .int (([1, 0, 0, 3] : List Int32).getD j 0)
def zLen : List Nat := [5, 7, 5, 8, 3, 4]
def zByt : List (List Int32) := [[112, 108, 97, 105, 110], [108, 97, 115, 116, 105, 110, 103], [114, 111, 121, 97, 108], [102, 117, 103, 105, 116, 105, 118, 101], [111, 110, 101], [108, 101, 110, 116]]
def zTx : List String := ["plain", "lasting", "royal", "fugitive", "one", "lent"]
def zNestM : List (String × Nat × MethodName) := [("HueLease", 9, ⟨"HueLease$Books", "<init>", "()V"⟩), ("HueLease", 36, ⟨"HueLease$Tape", "<init>", "()V"⟩), ("HueLease$Tape", 17, ⟨"HueLease$Books", "<init>", "()V"⟩), ("HueLease", 43, ⟨"HueLease$Looks", "<init>", "()V"⟩), ("HueLease", 50, ⟨"HueLease$Mixer", "<init>", "()V"⟩), ("HueLease$Weather", 17, ⟨"HueLease$Books", "<init>", "()V"⟩), ("HueLease", 72, ⟨"HueLease$Sheet", "<init>", "()V"⟩), ("HueLease$Tape", 121, ⟨"HueLease", "within", "(III)Z"⟩), ("HueLease$Tape", 109, ⟨"HueLease", "hasBit", "(II)Z"⟩), ("HueLease$Books", 52, ⟨"HueLease", "within", "(III)Z"⟩), ("HueLease$Books", 56, ⟨"HueLease", "sum", "([III)I"⟩), ("HueLease$Mixer", 57, ⟨"HueLease", "offBetween", "(II)I"⟩)]
def zNestF : List (String × Nat × String × String × String) := [("HueLease$Books", 60, "HueLease", "RENTS", "[I"), ("HueLease$Books", 92, "HueLease", "FADINGS", "[I")]
def zSi : List Nat := [129, 135, 137, 139, 141, 143]
def zSt (G : zG) (U : State) : Prop :=
  (∀ q ∈ zNestM, va_Nw (.methodLinkNest q.1 q.2.1 q.2.2 "HueLease") U) ∧ (∀ q ∈ zNestF, va_Nw (.fieldLinkNest q.1 q.2.1 q.2.2.1 q.2.2.2.1 q.2.2.2.2 "HueLease") U) ∧
  (va_Z "HueLease" "RENTS" "[I" (.ref (zGR G)) (zA G) U U.heap ∧ va_T .int (zGR G) 4 zRents (zA G) U U.heap) ∧
  (va_Z "HueLease" "FADINGS" "[I" (.ref (zGF G)) (zA G) U U.heap ∧ va_T .int (zGF G) 4 zFades (zA G) U U.heap) ∧
  va_Z "java/lang/String" "COMPACT_STRINGS" "Z" (.int 1) (zA G) U U.heap ∧
  va_Zq "jdk/internal/util/Preconditions" "SIOOBE_FORMATTER" "Ljava/util/function/BiFunction;" (zA G) U U.heap ∧
  vk_S 6 zLen zByt (zGK G) (zGV G) (zA G) U U.heap ∧ (∀ i, i < 6 → vk_R "HueLease$Tape" (zSi.getD i 0) (zTx.getD i "") (zGK G i) U) ∧
  va_AO "HueLease$Books" U ∧ va_AO "HueLease$Sheet" U
theorem zSt.warm {G : zG} {s U : State} (h : zSt G s) (hW : s.WarmedH U.vm) (hq : ∀ a : Nat, a < s.heap.size → ¬ zA G a → U.heap[a]? = s.heap[a]?) : zSt G U := by
  obtain ⟨h1, h2, ⟨h3, h4⟩, ⟨h5, h6⟩, h7, h8, h9, h10, h11, h12⟩ := h
  have hv := hW.alike
  exact ⟨fun q m => (h1 q m).warmM hW, fun q m => (h2 q m).warmF hW, ⟨(h3.moved hv).kept hq, (h4.moved hv).kept hq⟩, ⟨(h5.moved hv).kept hq, (h6.moved hv).kept hq⟩, (h7.moved hv).kept hq, (h8.moved hv).kept hq, (h9.moved hv).kept hq, fun i hi => (h10 i hi).warm hW, h11.moved hv, h12.moved hv⟩
theorem zSt.same {G : zG} {s U : State} (h : zSt G s) (hv : s.vm = U.vm) (hh : U.heap = s.heap) : zSt G U := by
  obtain ⟨h1, h2, ⟨h3, h4⟩, ⟨h5, h6⟩, h7, h8, h9, h10, h11, h12⟩ := h
  have ha : s.vm.Alike U.vm := by rw [hv]; exact Vm.Alike.refl U.vm
  have hq : ∀ a : Nat, a < s.heap.size → ¬ zA G a → U.heap[a]? = s.heap[a]? := fun a _ _ => by rw [hh]
  exact ⟨fun q m => (h1 q m).same rfl hv, fun q m => (h2 q m).same rfl hv, ⟨(h3.moved ha).kept hq, (h4.moved ha).kept hq⟩, ⟨(h5.moved ha).kept hq, (h6.moved ha).kept hq⟩, (h7.moved ha).kept hq, (h8.moved ha).kept hq, (h9.moved ha).kept hq, fun i hi => (h10 i hi).same hv.symm, h11.moved ha, h12.moved ha⟩
/-- a world as a contract finds it -/
def zWd (G : zG) (ws : va_W) (U : State) : Prop := va_P (zGD G) vwCl ws U.heap ∧ va_D (zA G) ws ∧ va_K (zGD G) vwCl (zGt G) U ∧ zGb G ≤ U.heap.size ∧ zSt G U
def zQc (G : zG) (Post : Option Value → va_W → Prop) : Array Value → State → Outcome → State → Prop := fun _ st oc t => (∃ (r : Option Value) (ws : va_W), oc = .returned r ∧ Post r ws ∧ va_P (zGD G) vwCl ws t.heap ∧ va_D (zA G) ws) ∧ va_F (zA G) st t
def zMet (l : Launch) (y : MethodName) (μ : zM) (av : List Value) (G : zG) (ws : va_W) (Post : Option Value → va_W → Prop) : Prop :=
  Met l y (Cond.code y (zMc μ) (zMl μ) (zMr μ) :: zws) (zrm (zMd μ) (zMk μ) (zMs μ)) (va_Pc av (zWd G ws)) (zQc G Post) (zMk μ) (zMs μ) (zA G)
theorem zMet.mono {l : Launch} {y : MethodName} {μ : zM} {av : List Value} {G : zG} {ws : va_W} {P P' : Option Value → va_W → Prop} (h : zMet l y μ av G ws P) (hp : ∀ r w, P r w → P' r w) : zMet l y μ av G ws P' := by
  have e : ∀ (a : Array Value) (st : State) (o : Outcome) (t : State), zQc G P a st o t → zQc G P' a st o t := fun a st o t ⟨⟨r, w, h1, h2, h3⟩, h4⟩ => ⟨⟨r, w, h1, hp r w h2, h3⟩, h4⟩
  intro p e' ha hc hk s m args below hf hap hP hT
  obtain ⟨k, o, h1, h2, h3, h4⟩ := h p e' ha hc hk s m args below hf hap hP hT
  exact ⟨k, o, h1, h2, h3, e _ _ _ _ h4.1, h4.2⟩
/-- the machine's fixed part while a method's body runs -/
def zOK (G : zG) (X : zX) (μ : zM) : Prop :=
  (zXp X).tables.exec = Jvm.exec ∧ (zXc X).code = zMc μ ∧ (zXt X).sig.returnType = zMr μ ∧ (zXc X).maxLocals = zMl μ ∧ (zXs X).vm.findClass (zMo μ) = some (zXm X).cls ∧ (zXt X).locks = false ∧
  (∀ w ∈ zws, w.before (zXa X) (zXs X) = true) ∧ va_K (zGD G) vwCl (zGt G) (zXs X) ∧ zGb G ≤ (zXs X).heap.size ∧ zSt G (zXs X) ∧
  zMd μ ≤ (zXR X).frames ∧ 64 * zMd μ ≤ (zXR X).locals ∧ zMk μ ≤ (zXR X).cells ∧ zMs μ ≤ (zXR X).slots ∧ ((zXt X).name = "<init>" ∨ zMk μ = 0 ∨ zMo μ = "HueLeaseLaw")
/-- the locals: a list of what is known of them -/
def zL (ls : Array Slot) (n : Nat) (L : List (Option Value)) : Prop := ls.size = n ∧ lv_wf ls ∧ ∀ (i : Nat) (v : Value), L[i]? = some (some v) → ls[i]? = some (.val v)
def zlv (L : List (Option Value)) : List (Nat × Value) := (List.range L.length).filterMap (fun i => match L[i]? with | some (some v) => some (i, v) | _ => none)
theorem zlv_mem {L : List (Option Value)} {i : Nat} {v : Value} (h : L[i]? = some (some v)) : (i, v) ∈ zlv L := by
  have hi : i < L.length := (List.getElem?_eq_some_iff.mp h).1
  refine List.mem_filterMap.mpr ⟨i, List.mem_range.mpr hi, ?_⟩
  rw [h]
theorem zlv_of {L : List (Option Value)} {q : Nat × Value} (h : q ∈ zlv L) : L[q.1]? = some (some q.2) := by
  obtain ⟨i, -, hi⟩ := List.mem_filterMap.mp h
  split at hi
  · rename_i v hv
    cases hi
    exact hv
  · cases hi
theorem zL.has {ls : Array Slot} {n : Nat} {L : List (Option Value)} (h : zL ls n L) : lv_has ls n (zlv L) := ⟨h.1, h.2.1, fun q hq => h.2.2 q.1 q.2 (zlv_of hq)⟩
/-- no long stands just before this place -/
def zok (L : List (Option Value)) : Nat → Bool
  | 0 => true
  | k + 1 => match L[k]? with
    | some (some v) => v.category != 2
    | _ => true
theorem zok_ne {L : List (Option Value)} {i j : Nat} {v : Value} (h : zok L i = true) (hj : L[j]? = some (some v)) (hc : v.category = 2) : ¬ j + 1 = i := by
  intro e
  subst e
  simp [zok, hj, hc] at h
theorem zL.set1 {ls : Array Slot} {n i : Nat} {L : List (Option Value)} {v : Value} (h : zok L i = true) (h2 : lv_has ls n ((i, v) :: (zlv L).filter (fun q => !(q.1 == i) && !(q.1 + 1 == i && q.2.category == 2)))) : zL ls n (L.set i (some v)) := by
  refine ⟨h2.1, h2.2.1, fun j w hj => ?_⟩
  by_cases e : j = i
  · subst e
    have hl : j < L.length := by
      have := (List.getElem?_eq_some_iff.mp hj).1
      simpa using this
    rw [List.getElem?_set_self hl] at hj
    cases hj
    exact h2.2.2 (j, v) List.mem_cons_self
  · rw [List.getElem?_set_ne (Ne.symm e)] at hj
    refine h2.2.2 (j, w) (List.mem_cons_of_mem _ (List.mem_filter.mpr ⟨zlv_mem hj, ?_⟩))
    simp only [Bool.and_eq_true, Bool.not_eq_true', beq_eq_false_iff_ne, ne_eq, Bool.and_eq_false_iff]
    refine ⟨e, ?_⟩
    by_cases hc : w.category = 2
    · exact Or.inl (zok_ne h hj hc)
    · exact Or.inr hc
theorem zL.set2 {ls : Array Slot} {n i : Nat} {L : List (Option Value)} {v : Value} (h : zok L i = true) (h2 : lv_has ls n ((i, v) :: (zlv L).filter (fun q => !(q.1 == i) && (!(q.1 == i + 1) && !(q.1 + 1 == i && q.2.category == 2))))) : zL ls n ((L.set i (some v)).set (i + 1) none) := by
  refine ⟨h2.1, h2.2.1, fun j w hj => ?_⟩
  by_cases e1 : j = i + 1
  · subst e1
    have hl : i + 1 < (L.set i (some v)).length := (by
      have := (List.getElem?_eq_some_iff.mp hj).1
      simpa using this)
    rw [List.getElem?_set_self hl] at hj
    cases hj
  rw [List.getElem?_set_ne (Ne.symm e1)] at hj
  by_cases e : j = i
  · subst e
    have hl : j < L.length := by
      have := (List.getElem?_eq_some_iff.mp hj).1
      simpa using this
    rw [List.getElem?_set_self hl] at hj
    cases hj
    exact h2.2.2 (j, v) List.mem_cons_self
  · rw [List.getElem?_set_ne (Ne.symm e)] at hj
    refine h2.2.2 (j, w) (List.mem_cons_of_mem _ (List.mem_filter.mpr ⟨zlv_mem hj, ?_⟩))
    simp only [Bool.and_eq_true, Bool.not_eq_true', beq_eq_false_iff_ne, ne_eq, Bool.and_eq_false_iff]
    refine ⟨e, e1, ?_⟩
    by_cases hc : w.category = 2
    · exact Or.inl (zok_ne h hj hc)
    · exact Or.inr hc
/-- THE JUDGEMENT: the machine, in this method at pc, with these cells, locals and stack, comes to its end as it should -/
def Z (G : zG) (X : zX) (μ : zM) (a b : Nat) (ws : va_W) (pc : Nat) (L : List (Option Value)) (S : List Value) : Prop :=
  zOK G X μ → ∀ (H : Heap) (locs : List Loc) (ls : Array Slot), va_P (zGD G) vwCl ws H → va_D (zA G) ws → va_S (zA G) (zXs X).heap H locs → zL ls (zMl μ) L →
    W (zXp X) (zXl X) (zXe X) (zXR X) (zXs X) (zXm X) (zXa X) (zXb X) (zXt X) (zXc X) H locs a b (zXQ X) (F0 (zXm X) pc ls S)
def zRet (G : zG) (X : zX) (μ : zM) (Post : Option Value → va_W → Prop) : Prop := zXQ X = MQ (zXb X) (zQc G Post) (zXa X) (zXs X) (zMk μ) (zMs μ) (zA G)
/-- the locals at a method's entry -/
def zEnt (vs : List Value) (n : Nat) : List (Option Value) :=
  let l := vs.flatMap (fun v => if v.category = 2 then [some v, none] else [some v])
  l ++ List.replicate (n - l.length) none
theorem zEnt_has (vs : List Value) (n : Nat) (h : (lg_sl vs).length ≤ n) : zL ((lg_sl vs ++ List.replicate (n - (lg_sl vs).length) Slot.unset).toArray) n (zEnt vs n) := by
  have h0 := lv_entry vs h
  refine ⟨h0.1, h0.2.1, fun i v hi => ?_⟩
  have key : ∀ (us : List Value) (i : Nat), (us.flatMap (fun v => if v.category = 2 then [some v, none] else [some v]))[i]? = some (some v) → (lg_sl us)[i]? = some (.val v) := by
    intro us
    induction us with
    | nil => intro i h; simp at h
    | cons w us ih =>
      intro i h
      rw [List.flatMap_cons] at h
      have e : lg_sl (w :: us) = (if w.category = 2 then [.val w, .second] else [.val w]) ++ lg_sl us := by rw [lg_sl, List.flatMap_cons]; rfl
      rw [e]
      by_cases hc : w.category = 2
      · rw [if_pos hc] at h ⊢
        match i, h with
        | 0, h => simp at h; simp [h]
        | 1, h => simp at h
        | i + 2, h => simpa using ih i (by simpa using h)
      · rw [if_neg hc] at h ⊢
        match i, h with
        | 0, h => simp at h; simp [h]
        | i + 1, h => simpa using ih i (by simpa using h)
  have hl : i < (vs.flatMap (fun v : Value => if v.category = 2 then [some v, none] else [some v])).length := by
    rcases Nat.lt_or_ge i (vs.flatMap (fun v : Value => if v.category = 2 then [some v, none] else [some v])).length with q | q
    · exact q
    · rw [zEnt, List.getElem?_append_right q, List.getElem?_replicate] at hi
      split at hi <;> cases hi
  rw [zEnt, List.getElem?_append_left hl] at hi
  have h1 := key vs i hi
  rw [List.getElem?_toArray, List.getElem?_append_left (List.getElem?_eq_some_iff.mp h1).1]
  exact h1
theorem zMet.of {l : Launch} {y : MethodName} {μ : zM} {av : List Value} {G : zG} {ws : va_W} {Post : Option Value → va_W → Prop} (hy : plainName y.cls = true) (ho : y.cls = zMo μ) (hn : (lg_sl av).length ≤ zMl μ) (hi : y.name = "<init>" ∨ zMk μ = 0)
    (body : ∀ X : zX, zXl X = l → zRet G X μ Post → Z G X μ 0 0 ws 0 (zEnt av (zMl μ)) []) : zMet l y μ av G ws Post := by
  refine Met.ofW (cc := zMc μ) (maxL := zMl μ) (ret := zMr μ) hy rfl ?_
  intro p e s m args below meth c s₁ B hml hv
  obtain ⟨rfl, hP, hD, hK, hb0, hSt⟩ := hv
  have hts := atoms_spec (ws := Cond.code y (zMc μ) (zMl μ) (zMr μ) :: zws) B.pre
  have hown : s.vm.findClass (zMo μ) = some m.cls := by rw [← ho]; exact findClass_of_methodNamed B.named
  rw [lg_entry_eq]
  refine body (p, l, e, (headSpec (Cond.code y (zMc μ) (zMl μ) (zMr μ) :: zws) (zrm (zMd μ) (zMk μ) (zMs μ))).room, s, m, av.toArray, below, meth, c, MQ below (zQc G Post) av.toArray s (zMk μ) (zMs μ) (zA G)) rfl rfl ?_ s.heap [] _ hP hD va_S.rf (zEnt_has av _ hn)
  refine ⟨B.exec, B.bytes, B.returns, hml, hown, B.notSynchronized, fun w h => hts w (List.mem_cons_of_mem _ h), hK, hb0, hSt, Nat.le_refl _, Nat.le_refl _, Nat.le_refl _, Nat.le_refl _, ?_⟩
  rcases hi with h | h
  · exact Or.inl ((name_of_methodNamed B.named B.method).1.trans h)
  · exact Or.inr (Or.inl h)
section ZR
variable {G : zG} {X : zX} {μ : zM} {a b : Nat} {ws : va_W} {pc : Nat} {L : List (Option Value)} {S : List Value} {Post : Option Value → va_W → Prop}
theorem zF {A : Nat → Prop} {H : Heap} {s t : State} {locs : List Loc} (hS : va_S A s.heap H locs) (ht : t.heap = H) : va_F A s t := hS.F ht
theorem z_iret {v : Int32} (hq : zRet G X μ Post) (hr : zMr μ = some .int) (hd : decode (zMc μ) pc = .ok (.ireturn, 1)) (ha : a = zMk μ) (hb : b = zMs μ) (hp : Post (some (.int v)) ws) : Z G X μ a b ws pc L [.int v] := by
  intro ok H locs ls hP hD hS hl
  subst ha; subst hb
  rw [hq]
  exact W.iret ok.1 ok.2.1 (ok.2.2.1.trans hr) (fun t ht hW => ⟨⟨_, ws, rfl, hp, by rw [ht]; exact hP, hD⟩, hS.F ht⟩) hS.2.2 hd ok.2.2.2.2.2.1
theorem z_zret {v : Int32} {ty : FieldType} (hq : zRet G X μ Post) (hr : zMr μ = some ty) (hn : narrow ty (.int v) = .int v) (hd : decode (zMc μ) pc = .ok (.ireturn, 1)) (ha : a = zMk μ) (hb : b = zMs μ) (hp : Post (some (.int v)) ws) : Z G X μ a b ws pc L [.int v] := by
  intro ok H locs ls hP hD hS hl
  subst ha; subst hb
  rw [hq]
  exact W.zret ok.1 ok.2.1 (ok.2.2.1.trans hr) hn (fun t ht hW => ⟨⟨_, ws, rfl, hp, by rw [ht]; exact hP, hD⟩, hS.F ht⟩) hS.2.2 hd ok.2.2.2.2.2.1
theorem z_lret {v : Int64} (hq : zRet G X μ Post) (hr : zMr μ = some .long) (hd : decode (zMc μ) pc = .ok (.lreturn, 1)) (ha : a = zMk μ) (hb : b = zMs μ) (hp : Post (some (.long v)) ws) : Z G X μ a b ws pc L [.long v] := by
  intro ok H locs ls hP hD hS hl
  subst ha; subst hb
  rw [hq]
  exact W.lret ok.1 ok.2.1 (ok.2.2.1.trans hr) (fun t ht hW => ⟨⟨_, ws, rfl, hp, by rw [ht]; exact hP, hD⟩, hS.F ht⟩) hS.2.2 hd ok.2.2.2.2.2.1
theorem z_vret (hq : zRet G X μ Post) (hr : zMr μ = none) (hd : decode (zMc μ) pc = .ok (.return_, 1)) (ha : a = zMk μ) (hb : b = zMs μ) (hp : Post none ws) : Z G X μ a b ws pc L [] := by
  intro ok H locs ls hP hD hS hl
  subst ha; subst hb
  rw [hq]
  exact W.vret ok.1 ok.2.1 (ok.2.2.1.trans hr) (fun t ht hW => ⟨⟨_, ws, rfl, hp, by rw [ht]; exact hP, hD⟩, hS.F ht⟩) hS.2.2 hd ok.2.2.2.2.2.1
end ZR
