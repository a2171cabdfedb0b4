/-- YOUR PART: from the entry, for every script of at most 384 ints, the law comes to its end with true ('hflags': the launch's flags, for a law that throws: no stack traces) -/
theorem whole_start {p : Program} {e : Env} {s : State} {m : MethodId} {below : List Frame} {meth : Method} {c : Code} (l : Launch) (hflags : l.flags = flags0) {b L : Nat} {xs : Nat → Int32} (hL : L ≤ 384) (C0 : lw_At p s m meth c b L xs) : W p l e room_1 s m #[Value.ref b] below meth c s.heap [] 0 0 (lw_Z below #[Value.ref b] s) (entryFrame m ([Value.ref b] : List Value).toArray 4) := by
  obtain ⟨G, hGb, hK, hSt⟩ := lw_ghost C0
  obtain ⟨hx, hb, hr, hml, hown, hts, hX, hbl, hlk, hgv⟩ := C0
  have hz : ∀ w ∈ zws, w.before #[Value.ref b] s = true := fun w h => hts w (List.mem_filter.mp h).1
  have hnA : ¬ zA G b := fun h => absurd hbl (Nat.not_lt.mpr (by rw [← hGb]; exact h))
  have ok : zOK G (p, l, e, room_1, s, m, #[Value.ref b], below, meth, c, lw_Z below #[Value.ref b] s) mL := ⟨hx, hb, hr, hml, hown, hlk, hz, hK, by rw [hGb]; exact Nat.le_refl _, hSt, (by show 100 ≤ 2048; omega), (by show 64 * 100 ≤ 84000; omega), (by show 600000 ≤ 600000; omega), (by show 7302250 ≤ 7302250; omega), Or.inr (Or.inr rfl)⟩
  have hlX : ∀ A : Nat → Nat, lX (zGw G A) (p, l, e, room_1, s, m, #[Value.ref b], below, meth, c, lw_Z below #[Value.ref b] s) b L xs := fun A => ⟨hX, hbl, hnA, hL⟩
  have body : Z G (p, l, e, room_1, s, m, #[Value.ref b], below, meth, c, lw_Z below #[Value.ref b] s) mL 0 0 (zV (fun _ => 0) (fun _ => eI G 0) 0) 0 [some (.ref b), none, none, none] [] := by
    refine c_mkI 7 k_X6 nw_L_7 ci_L_9 ⟨Nat.le_of_ble_eq_true rfl, Nat.le_of_ble_eq_true rfl, Nat.le_of_ble_eq_true rfl, Nat.le_of_ble_eq_true rfl⟩ (Nat.le_of_ble_eq_true rfl) dL_law_0 dL_law_3 dL_law_4 rfl fun A1 E1 g1 h1 d1 => ?_
    refine z_astore_n 8 [_, _, _, _] dL_law_7 (by decide) rfl rfl rfl ?_
    refine c_mkI 15 k_X7 nw_L_10 ci_L_12 ⟨Nat.le_of_ble_eq_true rfl, Nat.le_of_ble_eq_true rfl, Nat.le_of_ble_eq_true rfl, Nat.le_of_ble_eq_true rfl⟩ (Nat.le_of_ble_eq_true rfl) dL_law_8 dL_law_11 dL_law_12 rfl fun A2 E2 g2 h2 d2 => ?_
    refine z_astore_n 16 [_, _, _, _] dL_law_15 (by decide) rfl rfl rfl ?_
    refine z_iconst 17 dL_law_16 vi0 rfl ?_
    refine z_istore_n 18 [_, _, _, some (.int (nI 0))] dL_law_17 (by decide) rfl rfl rfl ?_
    have dn : ∀ k, k < 173 → zDone G 173 A2 E2 k := fun k hk => by
      rcases Nat.lt_or_ge k 158 with q | q
      · exact (d1 k (Nat.zero_le _) (by omega)).mono (fun i hi => g2 i hi) (h2 k (by omega)) (by omega)
      · exact d2 k (by omega) (by omega)
    refine Z.start dn ?_
    rw [← g2 0 (by omega)]
    refine fun ok H locs ls hP hD hS hl => W.widen (k := 600000) (n := 7302250) (by show 0 + 1 + 157 + 1 + 14 ≤ 600000; omega) (by show 0 + 12 + 1627 + 33 + 1122 ≤ 7302250; omega) ((?_ : YL (zGw G A2) _ s0 18 b 0 []) ok H locs ls hP hD hS hl)
    refine lw_loop (hlX A2) (fun τ j => ?_) L 0 (by omega) (by omega) s0 Inv_0
    refine z_iconst 1510 dL_law_1509 vi1 rfl ?_
    intro ok H locs ls hP hD hS hl
    refine va_forget (fun q hq => ?_) (lw_ret hx hb hr hlk dL_law_1510)
    rw [← hGb]
    exact hS.2.2 q hq
  rw [lg_entry_eq]
  have e0 : ∀ (k : Nat) (q : Nat × va_E), (zV (fun _ => 0) (fun _ => eI G 0) 0)[k]? = some q → False := fun k q hq => by
    rw [zV_no (Nat.zero_le k)] at hq
    cases hq
  exact body ok s.heap [] _ (fun k q hq => (e0 k q hq).elim) ⟨fun i j x y hi _ _ => (e0 i x hi).elim, fun k q hq => (e0 k q hq).elim⟩ va_S.rf (zEnt_has [Value.ref b] 4 (by show 1 ≤ 4; omega))
