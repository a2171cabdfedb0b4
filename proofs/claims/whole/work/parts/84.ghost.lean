/-! ===== what stands at the law's entry: classes, statics, String constants ===== -/
def lwT : List Cond := flatC (Jvm.Cond.and given_1 narrow_1)
def lwS (i : Nat) : Term := .string "HueLease$Tape" (zSi.getD i 0)
theorem lwS1 : ∀ i, i < 6 → Cond.exactly (lwS i) "java/lang/String" ∈ lwT := by decide +kernel
theorem lwS2 : ∀ i, i < 6 → Cond.eq (.field (lwS i) "java/lang/String" "coder" "B") (.int 0) ∈ lwT := by decide +kernel
theorem lwS3 : ∀ i, i < 6 → Cond.arrayOf (.field (lwS i) "java/lang/String" "value" "[B") .byte ∈ lwT := by decide +kernel
theorem lwS4 : ∀ i, i < 6 → Cond.eq (.length (.field (lwS i) "java/lang/String" "value" "[B")) (.int (Int32.ofNat (zLen.getD i 0))) ∈ lwT := by decide +kernel
theorem lwS5 : ∀ i, i < 6 → ∀ j, j < zLen.getD i 0 → Cond.eq (.elem (.field (lwS i) "java/lang/String" "value" "[B") (.int (Int32.ofNat j))) (.int ((zByt.getD i []).getD j 0)) ∈ lwT := by decide +kernel
theorem lwS6 : ∀ i, i < 6 → ∀ j, j < 6 → i ≠ j → Cond.not (Cond.eq (lwS i) (lwS j)) ∈ lwT ∨ Cond.not (Cond.eq (lwS j) (lwS i)) ∈ lwT := by decide +kernel
def lwR (n : String) : Term := .static "HueLease" n "[I"
theorem lwR1 : ∀ n ∈ ["RENTS", "FADINGS"], Cond.arrayOf (lwR n) .int ∈ lwT ∧ Cond.eq (.length (lwR n)) (.int (Int32.ofNat 4)) ∈ lwT := by decide +kernel
theorem lwR2 : ∀ j, j < 4 → Cond.eq (.elem (lwR "RENTS") (.int (Int32.ofNat j))) (.int (([2, 3, 6, 1] : List Int32).getD j 0)) ∈ lwT := by decide +kernel
theorem lwR3 : ∀ j, j < 4 → Cond.eq (.elem (lwR "FADINGS") (.int (Int32.ofNat j))) (.int (([1, 0, 0, 3] : List Int32).getD j 0)) ∈ lwT := by decide +kernel
theorem lwR4 : Cond.eq (.static "java/lang/String" "COMPACT_STRINGS" "Z") (.int 1) ∈ lwT := by decide +kernel
theorem lwR5 : Cond.isRef (.static "jdk/internal/util/Preconditions" "SIOOBE_FORMATTER" "Ljava/util/function/BiFunction;") ∈ lwT := by decide +kernel
theorem lw_ghost {p : Program} {s : State} {m : MethodId} {meth : Method} {c : Code} {b L : Nat} {xs : Nat → Int32} (C0 : lw_At p s m meth c b L xs) : ∃ G : zG, zGb G = s.heap.size ∧ va_K (zGD G) vwCl (zGt G) s ∧ zSt G s := by
  obtain ⟨-, -, -, -, -, hts, -, -, -, hgv⟩ := C0
  have hs : ∀ w ∈ lwT, w.before #[Value.ref b] s = true := flat_of_before _ hgv
  have ht : ∀ (i : Nat) (w : Cond), tables_1[i]? = some w → w.before #[Value.ref b] s = true := fun i w h => hts w (List.mem_append_right _ (List.mem_of_getElem? h))
  have hz : ∀ w ∈ zws, w.before #[Value.ref b] s = true := fun w h => hts w (List.mem_filter.mp h).1
  have hA : ∀ x : Nat, x < s.heap.size → ¬ (fun q : Nat => s.heap.size ≤ q) x := fun x h1 h2 => absurd h1 (Nat.not_lt.mpr h2)
  obtain ⟨c0, i0, k0⟩ := u_known (C := RX0) (T := TX0) (N := 11) hz inX0 (ht 25 (.instantiable RX0 11) (by decide +kernel))
  obtain ⟨c1, i1, k1⟩ := u_known (C := RX1) (T := TX1) (N := 4) hz inX1 (ht 136 (.instantiable RX1 4) (by decide +kernel))
  obtain ⟨c2, i2, k2⟩ := u_known (C := RX2) (T := TX2) (N := 6) hz inX2 (ht 159 (.instantiable RX2 6) (by decide +kernel))
  obtain ⟨c3, i3, k3⟩ := u_known (C := RX3) (T := TX3) (N := 3) hz inX3 (ht 214 (.instantiable RX3 3) (by decide +kernel))
  obtain ⟨c4, i4, k4⟩ := u_known (C := RX4) (T := TX4) (N := 11) hz inX4 (ht 88 (.instantiable RX4 11) (by decide +kernel))
  obtain ⟨c5, i5, k5⟩ := u_known (C := RX5) (T := TX5) (N := 5) hz inX5 (ht 187 (.instantiable RX5 5) (by decide +kernel))
  obtain ⟨c6, i6, k6⟩ := u_known (C := RX6) (T := TX6) (N := 12) hz inX6 (ht 17 (.instantiable RX6 12) (by decide +kernel))
  obtain ⟨c7, i7, k7⟩ := u_known (C := RX7) (T := TX7) (N := 33) hz inX7 (ht 755 (.instantiable RX7 33) (by decide +kernel))
  obtain ⟨cI, kI, pI, aI1, aI2, aI3⟩ := Cond.arrayClass_spec (hz _ ar_int)
  obtain ⟨cZ, kZ, pZ, aZ1, aZ2, aZ3⟩ := Cond.arrayClass_spec (hz _ ar_bool)
  have aB : va_AO "HueLease$Books" s := va_AO.of (ht 86 _ (by decide +kernel))
  have aS : va_AO "HueLease$Sheet" s := va_AO.of (ht 213 _ (by decide +kernel))
  obtain ⟨pB, cB, kB, aB1, aB2, aB3, aB4, aB5⟩ := Cond.arrayOver_spec aB
  obtain ⟨pS, cS, kS, aS1, aS2, aS3, aS4, aS5⟩ := Cond.arrayOver_spec aS
  obtain ⟨R, eR0, tR⟩ := va_Tof (tm := lwR "RENTS") (ty := .int) (N := 4) (f := zRents) (A := fun q : Nat => s.heap.size ≤ q) (by decide) (hs _ (lwR1 _ (by decide)).1) (va_eqt (hs _ (lwR1 _ (by decide)).2)) (fun j hj => va_eqt (hs _ (lwR2 j hj))) hA
  obtain ⟨F, eF0, tF⟩ := va_Tof (tm := lwR "FADINGS") (ty := .int) (N := 4) (f := zFades) (A := fun q : Nat => s.heap.size ≤ q) (by decide) (hs _ (lwR1 _ (by decide)).1) (va_eqt (hs _ (lwR1 _ (by decide)).2)) (fun j hj => va_eqt (hs _ (lwR3 j hj))) hA
  obtain ⟨K, V, vS, vE⟩ := vk_Sof (N := 6) (tm := lwS) (len := zLen) (byt := zByt) (A := fun q : Nat => s.heap.size ≤ q) (by decide) (fun i hi => hs _ (lwS1 i hi)) (fun i hi => hs _ (lwS2 i hi)) (fun i hi => hs _ (lwS3 i hi)) (fun i hi => hs _ (lwS4 i hi)) (fun i hi j hj => hs _ (lwS5 i hi j hj)) (fun i j hi hj hne => (lwS6 i hi j hj hne).imp (hs _) (hs _)) hA
  refine ⟨((fun n => match n with | 0 => c0 | 1 => c1 | 2 => c2 | 3 => c3 | 4 => c4 | 5 => c5 | 6 => c6 | _ => c7, fun n => match n with | 0 => i0 | 1 => i1 | 2 => i2 | 3 => i3 | 4 => i4 | 5 => i5 | 6 => i6 | _ => i7), (cI, cZ, cB, cS), s.heap.size, K, V, R, F, fun _ => 0), rfl, ⟨fun n q hq => ?_, fun n q hq => ?_⟩, ?_⟩
  · match n, hq with
    | 0, hq => cases hq; exact k0
    | 1, hq => cases hq; exact k1
    | 2, hq => cases hq; exact k2
    | 3, hq => cases hq; exact k3
    | 4, hq => cases hq; exact k4
    | 5, hq => cases hq; exact k5
    | 6, hq => cases hq; exact k6
    | 7, hq => cases hq; exact k7
    | n + 8, hq => cases hq
  · match n, hq with
    | 0, hq => cases hq; exact ⟨fun n z => ⟨fun k h => (by cases h), kI, aI2, pI, aI3⟩, aI1⟩
    | 1, hq => cases hq; exact ⟨fun n z => ⟨fun k h => (by cases h), kZ, aZ2, pZ, aZ3⟩, aZ1⟩
    | 2, hq => cases hq; exact ⟨fun n z => ⟨fun k h => (by cases h), kB, aB3, pB, aB4⟩, kB, pB, aB3, aB4, aB1, aB5⟩
    | 3, hq => cases hq; exact ⟨fun n z => ⟨fun k h => (by cases h), kS, aS3, pS, aS4⟩, kS, pS, aS3, aS4, aS1, aS5⟩
    | n + 4, hq => cases hq
  · refine ⟨?_, ?_, ⟨va_Zof (ht 440 _ (by decide +kernel)) (ht 1 _ (by decide +kernel)) eR0 hA, tR⟩, ⟨va_Zof (ht 535 _ (by decide +kernel)) (ht 1 _ (by decide +kernel)) eF0 hA, tF⟩, va_Zof (ht 329 _ (by decide +kernel)) (ht 10 _ (by decide +kernel)) (va_eqt (hs _ lwR4)) hA, va_Zqof (ht 345 _ (by decide +kernel)) (ht 12 _ (by decide +kernel)) (hs _ lwR5) hA, vS, fun i hi => ?_, aB, aS⟩
    · exact List.forall_mem_cons.mpr ⟨va_Nw.of rfl (ht 26 _ (by decide +kernel)), List.forall_mem_cons.mpr ⟨va_Nw.of rfl (ht 89 _ (by decide +kernel)), List.forall_mem_cons.mpr ⟨va_Nw.of rfl (ht 94 _ (by decide +kernel)), List.forall_mem_cons.mpr ⟨va_Nw.of rfl (ht 137 _ (by decide +kernel)), List.forall_mem_cons.mpr ⟨va_Nw.of rfl (ht 160 _ (by decide +kernel)), List.forall_mem_cons.mpr ⟨va_Nw.of rfl (ht 193 _ (by decide +kernel)), List.forall_mem_cons.mpr ⟨va_Nw.of rfl (ht 215 _ (by decide +kernel)), List.forall_mem_cons.mpr ⟨va_Nw.of rfl (ht 298 _ (by decide +kernel)), List.forall_mem_cons.mpr ⟨va_Nw.of rfl (ht 381 _ (by decide +kernel)), List.forall_mem_cons.mpr ⟨va_Nw.of rfl (ht 404 _ (by decide +kernel)), List.forall_mem_cons.mpr ⟨va_Nw.of rfl (ht 423 _ (by decide +kernel)), List.forall_mem_cons.mpr ⟨va_Nw.of rfl (ht 575 _ (by decide +kernel)), fun _ h => absurd h List.not_mem_nil⟩⟩⟩⟩⟩⟩⟩⟩⟩⟩⟩⟩
    · exact List.forall_mem_cons.mpr ⟨va_Nw.of rfl (ht 439 _ (by decide +kernel)), List.forall_mem_cons.mpr ⟨va_Nw.of rfl (ht 534 _ (by decide +kernel)), fun _ h => absurd h List.not_mem_nil⟩⟩
    · have e := vE i hi
      rcases (show i = 0 ∨ i = 1 ∨ i = 2 ∨ i = 3 ∨ i = 4 ∨ i = 5 by omega) with rfl | rfl | rfl | rfl | rfl | rfl
      · exact vk_R.of (ht 315 _ (by decide +kernel)) e
      · exact vk_R.of (ht 368 _ (by decide +kernel)) e
      · exact vk_R.of (ht 369 _ (by decide +kernel)) e
      · exact vk_R.of (ht 370 _ (by decide +kernel)) e
      · exact vk_R.of (ht 371 _ (by decide +kernel)) e
      · exact vk_R.of (ht 372 _ (by decide +kernel)) e
