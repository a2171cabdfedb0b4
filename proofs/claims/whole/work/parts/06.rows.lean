section ZW
variable {G : zG} {X : zX} {μ : zM} {a b : Nat} {ws : va_W} {pc : Nat} {L : List (Option Value)} {S : List Value}
theorem z_iconst (n : Nat) {m : Int} {v : Int32} (hd : decode (zMc μ) pc = .ok (.iconst m, 1)) (hv : Int32.ofInt m = v) (hn : pc + 1 = n) (k : Z G X μ a b ws n L (.int v :: S)) : Z G X μ a b ws pc L (S) := by
  subst hn
  intro ok H locs ls hP hD hS hl
  exact lv_iconst ok.1 ok.2.1 hd hv (k ok H locs ls hP hD hS hl)
theorem z_bipush (n : Nat) {m : Int} {v : Int32} (hd : decode (zMc μ) pc = .ok (.bipush m, 2)) (hv : (Int8.ofInt m).toInt32 = v) (hn : pc + 2 = n) (k : Z G X μ a b ws n L (.int v :: S)) : Z G X μ a b ws pc L (S) := by
  subst hn
  intro ok H locs ls hP hD hS hl
  exact lv_bipush ok.1 ok.2.1 hd hv (k ok H locs ls hP hD hS hl)
theorem z_sipush (n : Nat) {m : Int} {v : Int32} (hd : decode (zMc μ) pc = .ok (.sipush m, 3)) (hv : (Int16.ofInt m).toInt32 = v) (hn : pc + 3 = n) (k : Z G X μ a b ws n L (.int v :: S)) : Z G X μ a b ws pc L (S) := by
  subst hn
  intro ok H locs ls hP hD hS hl
  exact lv_sipush ok.1 ok.2.1 hd hv (k ok H locs ls hP hD hS hl)
theorem z_lconst (n : Nat) {m : Fin 2} {v : Int64} (hd : decode (zMc μ) pc = .ok (.lconst m, 1)) (hv : Int64.ofNat (m : Nat) = v) (hn : pc + 1 = n) (k : Z G X μ a b ws n L (.long v :: S)) : Z G X μ a b ws pc L (S) := by
  subst hn
  intro ok H locs ls hP hD hS hl
  exact lv_lconst ok.1 ok.2.1 hd hv (k ok H locs ls hP hD hS hl)
theorem z_null (n : Nat)  (hd : decode (zMc μ) pc = .ok (.aconst_null, 1))  (hn : pc + 1 = n) (k : Z G X μ a b ws n L (.null :: S)) : Z G X μ a b ws pc L (S) := by
  subst hn
  intro ok H locs ls hP hD hS hl
  exact lv_null ok.1 ok.2.1 hd (k ok H locs ls hP hD hS hl)
theorem z_iload_n (n : Nat) {m : Fin 4} {x : Int32} (hd : decode (zMc μ) pc = .ok (.iload_n m, 1)) (hv : L[(m : Nat)]? = some (some (.int x))) (hn : pc + 1 = n) (k : Z G X μ a b ws n L (.int x :: S)) : Z G X μ a b ws pc L (S) := by
  subst hn
  intro ok H locs ls hP hD hS hl
  exact lv_iload_n ok.1 ok.2.1 hd rfl (hl.2.2 _ _ hv) (k ok H locs ls hP hD hS hl)
theorem z_iload (n : Nat) {m : Nat} {x : Int32} (hd : decode (zMc μ) pc = .ok (.iload m, 2)) (hv : L[m]? = some (some (.int x))) (hn : pc + 2 = n) (k : Z G X μ a b ws n L (.int x :: S)) : Z G X μ a b ws pc L (S) := by
  subst hn
  intro ok H locs ls hP hD hS hl
  exact lv_iload ok.1 ok.2.1 hd (hl.2.2 _ _ hv) (k ok H locs ls hP hD hS hl)
theorem z_lload_n (n : Nat) {m : Fin 4} {x : Int64} (hd : decode (zMc μ) pc = .ok (.lload_n m, 1)) (hv : L[(m : Nat)]? = some (some (.long x))) (hn : pc + 1 = n) (k : Z G X μ a b ws n L (.long x :: S)) : Z G X μ a b ws pc L (S) := by
  subst hn
  intro ok H locs ls hP hD hS hl
  exact lv_lload_n ok.1 ok.2.1 hd rfl (hl.2.2 _ _ hv) (k ok H locs ls hP hD hS hl)
theorem z_lload (n : Nat) {m : Nat} {x : Int64} (hd : decode (zMc μ) pc = .ok (.lload m, 2)) (hv : L[m]? = some (some (.long x))) (hn : pc + 2 = n) (k : Z G X μ a b ws n L (.long x :: S)) : Z G X μ a b ws pc L (S) := by
  subst hn
  intro ok H locs ls hP hD hS hl
  exact lv_lload ok.1 ok.2.1 hd (hl.2.2 _ _ hv) (k ok H locs ls hP hD hS hl)
theorem z_aload_n (n : Nat) {m : Fin 4} {x : Nat} (hd : decode (zMc μ) pc = .ok (.aload_n m, 1)) (hv : L[(m : Nat)]? = some (some (.ref x))) (hn : pc + 1 = n) (k : Z G X μ a b ws n L (.ref x :: S)) : Z G X μ a b ws pc L (S) := by
  subst hn
  intro ok H locs ls hP hD hS hl
  exact lv_aload_n ok.1 ok.2.1 hd rfl (hl.2.2 _ _ hv) (k ok H locs ls hP hD hS hl)
theorem z_aload (n : Nat) {m : Nat} {x : Nat} (hd : decode (zMc μ) pc = .ok (.aload m, 2)) (hv : L[m]? = some (some (.ref x))) (hn : pc + 2 = n) (k : Z G X μ a b ws n L (.ref x :: S)) : Z G X μ a b ws pc L (S) := by
  subst hn
  intro ok H locs ls hP hD hS hl
  exact lv_aload ok.1 ok.2.1 hd (hl.2.2 _ _ hv) (k ok H locs ls hP hD hS hl)
theorem z_istore_n (n : Nat) (L' : List (Option Value)) {m : Fin 4} {x : Int32} (hd : decode (zMc μ) pc = .ok (.istore_n m, 1)) (hm : (m : Nat) < zMl μ) (hz : zok L m = true) (hL : L.set m (some (.int x)) = L') (hn : pc + 1 = n) (k : Z G X μ a b ws n L' S) : Z G X μ a b ws pc L (.int x :: S) := by
  subst hn
  subst hL
  intro ok H locs ls hP hD hS hl
  exact lv_istore_n ok.1 ok.2.1 hd rfl hl.has hm rfl (fun ls' h' => k ok H locs ls' hP hD hS (zL.set1 hz h'))
theorem z_istore (n : Nat) (L' : List (Option Value)) {m : Nat} {x : Int32} (hd : decode (zMc μ) pc = .ok (.istore m, 2)) (hm : (m : Nat) < zMl μ) (hz : zok L m = true) (hL : L.set m (some (.int x)) = L') (hn : pc + 2 = n) (k : Z G X μ a b ws n L' S) : Z G X μ a b ws pc L (.int x :: S) := by
  subst hn
  subst hL
  intro ok H locs ls hP hD hS hl
  exact lv_istore ok.1 ok.2.1 hd hl.has hm rfl (fun ls' h' => k ok H locs ls' hP hD hS (zL.set1 hz h'))
theorem z_astore_n (n : Nat) (L' : List (Option Value)) {m : Fin 4} {x : Nat} (hd : decode (zMc μ) pc = .ok (.astore_n m, 1)) (hm : (m : Nat) < zMl μ) (hz : zok L m = true) (hL : L.set m (some (.ref x)) = L') (hn : pc + 1 = n) (k : Z G X μ a b ws n L' S) : Z G X μ a b ws pc L (.ref x :: S) := by
  subst hn
  subst hL
  intro ok H locs ls hP hD hS hl
  exact lv_astore_n ok.1 ok.2.1 hd rfl hl.has hm rfl (fun ls' h' => k ok H locs ls' hP hD hS (zL.set1 hz h'))
theorem z_astore (n : Nat) (L' : List (Option Value)) {m : Nat} {x : Nat} (hd : decode (zMc μ) pc = .ok (.astore m, 2)) (hm : (m : Nat) < zMl μ) (hz : zok L m = true) (hL : L.set m (some (.ref x)) = L') (hn : pc + 2 = n) (k : Z G X μ a b ws n L' S) : Z G X μ a b ws pc L (.ref x :: S) := by
  subst hn
  subst hL
  intro ok H locs ls hP hD hS hl
  exact lv_astore ok.1 ok.2.1 hd hl.has hm rfl (fun ls' h' => k ok H locs ls' hP hD hS (zL.set1 hz h'))
theorem z_lstore_n (n : Nat) (L' : List (Option Value)) {m : Fin 4} {x : Int64} (hd : decode (zMc μ) pc = .ok (.lstore_n m, 1)) (hm : (m : Nat) + 1 < zMl μ) (hz : zok L m = true) (hL : (L.set m (some (.long x))).set ((m : Nat) + 1) none = L') (hn : pc + 1 = n) (k : Z G X μ a b ws n L' S) : Z G X μ a b ws pc L (.long x :: S) := by
  subst hn
  subst hL
  intro ok H locs ls hP hD hS hl
  exact lv_lstore_n ok.1 ok.2.1 hd rfl hl.has hm rfl (fun ls' h' => k ok H locs ls' hP hD hS (zL.set2 hz h'))
theorem z_lstore (n : Nat) (L' : List (Option Value)) {m : Nat} {x : Int64} (hd : decode (zMc μ) pc = .ok (.lstore m, 2)) (hm : (m : Nat) + 1 < zMl μ) (hz : zok L m = true) (hL : (L.set m (some (.long x))).set ((m : Nat) + 1) none = L') (hn : pc + 2 = n) (k : Z G X μ a b ws n L' S) : Z G X μ a b ws pc L (.long x :: S) := by
  subst hn
  subst hL
  intro ok H locs ls hP hD hS hl
  exact lv_lstore ok.1 ok.2.1 hd hl.has hm rfl (fun ls' h' => k ok H locs ls' hP hD hS (zL.set2 hz h'))
theorem z_iinc (n : Nat) (L' : List (Option Value)) {m : Nat} {c : Int} {x v : Int32} (hd : decode (zMc μ) pc = .ok (.iinc m c, 3)) (hx : L[m]? = some (some (.int x))) (hv : x + Int32.ofInt c = v) (hm : m < zMl μ) (hz : zok L m = true) (hL : L.set m (some (.int v)) = L') (hn : pc + 3 = n) (k : Z G X μ a b ws n L' S) : Z G X μ a b ws pc L S := by
  subst hn
  subst hL
  intro ok H locs ls hP hD hS hl
  obtain ⟨j, hj⟩ := List.getElem?_of_mem (zlv_mem hx)
  exact lv_iinc ok.1 ok.2.1 hd hl.has hj hv hm rfl (fun ls' h' => k ok H locs ls' hP hD hS (zL.set1 hz h'))
theorem z_iadd (n : Nat) {x y : Int32} (hd : decode (zMc μ) pc = .ok (.iadd, 1))  (hn : pc + 1 = n) (k : Z G X μ a b ws n L (.int (x + y) :: S)) : Z G X μ a b ws pc L (.int y :: .int x :: S) := by
  subst hn
  intro ok H locs ls hP hD hS hl
  exact lv_iadd ok.1 ok.2.1 hd (k ok H locs ls hP hD hS hl)
theorem z_isub (n : Nat) {x y : Int32} (hd : decode (zMc μ) pc = .ok (.isub, 1))  (hn : pc + 1 = n) (k : Z G X μ a b ws n L (.int (x - y) :: S)) : Z G X μ a b ws pc L (.int y :: .int x :: S) := by
  subst hn
  intro ok H locs ls hP hD hS hl
  exact lv_isub ok.1 ok.2.1 hd (k ok H locs ls hP hD hS hl)
theorem z_imul (n : Nat) {x y : Int32} (hd : decode (zMc μ) pc = .ok (.imul, 1))  (hn : pc + 1 = n) (k : Z G X μ a b ws n L (.int (x * y) :: S)) : Z G X μ a b ws pc L (.int y :: .int x :: S) := by
  subst hn
  intro ok H locs ls hP hD hS hl
  exact lv_imul ok.1 ok.2.1 hd (k ok H locs ls hP hD hS hl)
theorem z_iand (n : Nat) {x y : Int32} (hd : decode (zMc μ) pc = .ok (.iand, 1))  (hn : pc + 1 = n) (k : Z G X μ a b ws n L (.int (x &&& y) :: S)) : Z G X μ a b ws pc L (.int y :: .int x :: S) := by
  subst hn
  intro ok H locs ls hP hD hS hl
  exact lv_iand ok.1 ok.2.1 hd (k ok H locs ls hP hD hS hl)
theorem z_ior (n : Nat) {x y : Int32} (hd : decode (zMc μ) pc = .ok (.ior, 1))  (hn : pc + 1 = n) (k : Z G X μ a b ws n L (.int (x ||| y) :: S)) : Z G X μ a b ws pc L (.int y :: .int x :: S) := by
  subst hn
  intro ok H locs ls hP hD hS hl
  exact lv_ior ok.1 ok.2.1 hd (k ok H locs ls hP hD hS hl)
theorem z_ixor (n : Nat) {x y : Int32} (hd : decode (zMc μ) pc = .ok (.ixor, 1))  (hn : pc + 1 = n) (k : Z G X μ a b ws n L (.int (x ^^^ y) :: S)) : Z G X μ a b ws pc L (.int y :: .int x :: S) := by
  subst hn
  intro ok H locs ls hP hD hS hl
  exact lv_ixor ok.1 ok.2.1 hd (k ok H locs ls hP hD hS hl)
theorem z_ishl (n : Nat) {x y : Int32} (hd : decode (zMc μ) pc = .ok (.ishl, 1))  (hn : pc + 1 = n) (k : Z G X μ a b ws n L (.int (x <<< (y &&& 31)) :: S)) : Z G X μ a b ws pc L (.int y :: .int x :: S) := by
  subst hn
  intro ok H locs ls hP hD hS hl
  exact lv_ishl ok.1 ok.2.1 hd (k ok H locs ls hP hD hS hl)
theorem z_ishr (n : Nat) {x y : Int32} (hd : decode (zMc μ) pc = .ok (.ishr, 1))  (hn : pc + 1 = n) (k : Z G X μ a b ws n L (.int (x >>> (y &&& 31)) :: S)) : Z G X μ a b ws pc L (.int y :: .int x :: S) := by
  subst hn
  intro ok H locs ls hP hD hS hl
  exact lv_ishr ok.1 ok.2.1 hd (k ok H locs ls hP hD hS hl)
theorem z_iushr (n : Nat) {x y v : Int32} (hd : decode (zMc μ) pc = .ok (.iushr, 1)) (hv : (x.toUInt32 >>> (y.toUInt32 &&& Int32.toUInt32 31)).toInt32 = v) (hn : pc + 1 = n) (k : Z G X μ a b ws n L (.int v :: S)) : Z G X μ a b ws pc L (.int y :: .int x :: S) := by
  subst hn
  intro ok H locs ls hP hD hS hl
  exact lv_iushr ok.1 ok.2.1 hd hv (k ok H locs ls hP hD hS hl)
theorem z_idiv (n : Nat) {x y : Int32} (hd : decode (zMc μ) pc = .ok (.idiv, 1)) (hne : ¬ y = 0) (hn : pc + 1 = n) (k : Z G X μ a b ws n L (.int (x / y) :: S)) : Z G X μ a b ws pc L (.int y :: .int x :: S) := by
  subst hn
  intro ok H locs ls hP hD hS hl
  exact lv_idiv ok.1 ok.2.1 hd hne (k ok H locs ls hP hD hS hl)
theorem z_irem (n : Nat) {x y : Int32} (hd : decode (zMc μ) pc = .ok (.irem, 1)) (hne : ¬ y = 0) (hn : pc + 1 = n) (k : Z G X μ a b ws n L (.int (x - x / y * y) :: S)) : Z G X μ a b ws pc L (.int y :: .int x :: S) := by
  subst hn
  intro ok H locs ls hP hD hS hl
  exact lv_irem ok.1 ok.2.1 hd hne (k ok H locs ls hP hD hS hl)
theorem z_ineg (n : Nat) {x : Int32} (hd : decode (zMc μ) pc = .ok (.ineg, 1))  (hn : pc + 1 = n) (k : Z G X μ a b ws n L (.int (-x) :: S)) : Z G X μ a b ws pc L (.int x :: S) := by
  subst hn
  intro ok H locs ls hP hD hS hl
  exact lv_ineg ok.1 ok.2.1 hd (k ok H locs ls hP hD hS hl)
theorem z_ladd (n : Nat) {x y : Int64} (hd : decode (zMc μ) pc = .ok (.ladd, 1))  (hn : pc + 1 = n) (k : Z G X μ a b ws n L (.long (x + y) :: S)) : Z G X μ a b ws pc L (.long y :: .long x :: S) := by
  subst hn
  intro ok H locs ls hP hD hS hl
  exact lv_ladd ok.1 ok.2.1 hd (k ok H locs ls hP hD hS hl)
theorem z_lsub (n : Nat) {x y : Int64} (hd : decode (zMc μ) pc = .ok (.lsub, 1))  (hn : pc + 1 = n) (k : Z G X μ a b ws n L (.long (x - y) :: S)) : Z G X μ a b ws pc L (.long y :: .long x :: S) := by
  subst hn
  intro ok H locs ls hP hD hS hl
  exact lv_lsub ok.1 ok.2.1 hd (k ok H locs ls hP hD hS hl)
theorem z_lmul (n : Nat) {x y : Int64} (hd : decode (zMc μ) pc = .ok (.lmul, 1))  (hn : pc + 1 = n) (k : Z G X μ a b ws n L (.long (x * y) :: S)) : Z G X μ a b ws pc L (.long y :: .long x :: S) := by
  subst hn
  intro ok H locs ls hP hD hS hl
  exact lv_lmul ok.1 ok.2.1 hd (k ok H locs ls hP hD hS hl)
theorem z_ldiv (n : Nat) {x y : Int64} (hd : decode (zMc μ) pc = .ok (.ldiv, 1)) (hne : ¬ y = 0) (hn : pc + 1 = n) (k : Z G X μ a b ws n L (.long (x / y) :: S)) : Z G X μ a b ws pc L (.long y :: .long x :: S) := by
  subst hn
  intro ok H locs ls hP hD hS hl
  exact lv_ldiv ok.1 ok.2.1 hd hne (k ok H locs ls hP hD hS hl)
theorem z_lrem (n : Nat) {x y : Int64} (hd : decode (zMc μ) pc = .ok (.lrem, 1)) (hne : ¬ y = 0) (hn : pc + 1 = n) (k : Z G X μ a b ws n L (.long (x - x / y * y) :: S)) : Z G X μ a b ws pc L (.long y :: .long x :: S) := by
  subst hn
  intro ok H locs ls hP hD hS hl
  exact lv_lrem ok.1 ok.2.1 hd hne (k ok H locs ls hP hD hS hl)
theorem z_i2l (n : Nat) {x : Int32} (hd : decode (zMc μ) pc = .ok (.i2l, 1))  (hn : pc + 1 = n) (k : Z G X μ a b ws n L (.long x.toInt64 :: S)) : Z G X μ a b ws pc L (.int x :: S) := by
  subst hn
  intro ok H locs ls hP hD hS hl
  exact lv_i2l ok.1 ok.2.1 hd rfl (k ok H locs ls hP hD hS hl)
theorem z_l2i (n : Nat) {x : Int64} (hd : decode (zMc μ) pc = .ok (.l2i, 1))  (hn : pc + 1 = n) (k : Z G X μ a b ws n L (.int x.toInt32 :: S)) : Z G X μ a b ws pc L (.long x :: S) := by
  subst hn
  intro ok H locs ls hP hD hS hl
  exact lv_l2i ok.1 ok.2.1 hd rfl (k ok H locs ls hP hD hS hl)
theorem z_i2b (n : Nat) {x : Int32} (hd : decode (zMc μ) pc = .ok (.i2b, 1))  (hn : pc + 1 = n) (k : Z G X μ a b ws n L (.int x.toInt8.toInt32 :: S)) : Z G X μ a b ws pc L (.int x :: S) := by
  subst hn
  intro ok H locs ls hP hD hS hl
  exact lv_i2b ok.1 ok.2.1 hd rfl (k ok H locs ls hP hD hS hl)
theorem z_i2s (n : Nat) {x : Int32} (hd : decode (zMc μ) pc = .ok (.i2s, 1))  (hn : pc + 1 = n) (k : Z G X μ a b ws n L (.int x.toInt16.toInt32 :: S)) : Z G X μ a b ws pc L (.int x :: S) := by
  subst hn
  intro ok H locs ls hP hD hS hl
  exact lv_i2s ok.1 ok.2.1 hd rfl (k ok H locs ls hP hD hS hl)
theorem z_i2c (n : Nat) {x : Int32} (hd : decode (zMc μ) pc = .ok (.i2c, 1))  (hn : pc + 1 = n) (k : Z G X μ a b ws n L (.int (x.toUInt32 % 65536).toInt32 :: S)) : Z G X μ a b ws pc L (.int x :: S) := by
  subst hn
  intro ok H locs ls hP hD hS hl
  exact lv_i2c ok.1 ok.2.1 hd rfl (k ok H locs ls hP hD hS hl)
theorem z_lcmp (n : Nat) {x y : Int64} (hd : decode (zMc μ) pc = .ok (.lcmp, 1))  (hn : pc + 1 = n) (k : Z G X μ a b ws n L (.int (lg_cmp x y) :: S)) : Z G X μ a b ws pc L (.long y :: .long x :: S) := by
  subst hn
  intro ok H locs ls hP hD hS hl
  exact W.lcmp ok.1 ok.2.1 hd (k ok H locs ls hP hD hS hl)
theorem z_dup (n : Nat) {va : Value} (hd : decode (zMc μ) pc = .ok (.dup, 1)) (hva : va.category = 1) (hn : pc + 1 = n) (k : Z G X μ a b ws n L (va :: va :: S)) : Z G X μ a b ws pc L (va :: S) := by
  subst hn
  intro ok H locs ls hP hD hS hl
  exact lv_dup ok.1 ok.2.1 hd hva (k ok H locs ls hP hD hS hl)
theorem z_pop (n : Nat) {va : Value} (hd : decode (zMc μ) pc = .ok (.pop, 1)) (hva : va.category = 1) (hn : pc + 1 = n) (k : Z G X μ a b ws n L (S)) : Z G X μ a b ws pc L (va :: S) := by
  subst hn
  intro ok H locs ls hP hD hS hl
  exact lv_pop ok.1 ok.2.1 hd hva (k ok H locs ls hP hD hS hl)
theorem z_dup_x1 (n : Nat) {va vb : Value} (hd : decode (zMc μ) pc = .ok (.dup_x1, 1)) (hva : va.category = 1) (hvb : vb.category = 1) (hn : pc + 1 = n) (k : Z G X μ a b ws n L (va :: vb :: va :: S)) : Z G X μ a b ws pc L (va :: vb :: S) := by
  subst hn
  intro ok H locs ls hP hD hS hl
  exact lv_dup_x1 ok.1 ok.2.1 hd hva hvb (k ok H locs ls hP hD hS hl)
theorem z_dup_x2 (n : Nat) {va vb vd : Value} (hd : decode (zMc μ) pc = .ok (.dup_x2, 1)) (hva : va.category = 1) (hvb : vb.category = 1) (hvd : vd.category = 1) (hn : pc + 1 = n) (k : Z G X μ a b ws n L (va :: vb :: vd :: va :: S)) : Z G X μ a b ws pc L (va :: vb :: vd :: S) := by
  subst hn
  intro ok H locs ls hP hD hS hl
  exact lv_dup_x2 ok.1 ok.2.1 hd hva hvb hvd (k ok H locs ls hP hD hS hl)
theorem z_dup2 (n : Nat) {va vb : Value} (hd : decode (zMc μ) pc = .ok (.dup2, 1)) (hva : va.category = 1) (hvb : vb.category = 1) (hn : pc + 1 = n) (k : Z G X μ a b ws n L (va :: vb :: va :: vb :: S)) : Z G X μ a b ws pc L (va :: vb :: S) := by
  subst hn
  intro ok H locs ls hP hD hS hl
  exact lv_dup2_11 ok.1 ok.2.1 hd hva hvb (k ok H locs ls hP hD hS hl)
theorem z_if_eq (t n : Nat) {x : Int32} {off : Int} (hd : decode (zMc μ) pc = .ok (.ifCond .eq off, 3)) (ht : (pc : Int) + off = (t : Int)) (hn : pc + 3 = n) (kt : x = 0 → Z G X μ a b ws t L S) (kf : ¬ (x = 0) → Z G X μ a b ws n L S) : Z G X μ a b ws pc L (.int x :: S) := by
  subst hn
  intro ok H locs ls hP hD hS hl
  exact lv_if_eq ok.1 ok.2.1 hd ht (fun h => kt h ok H locs ls hP hD hS hl) (fun h => kf h ok H locs ls hP hD hS hl)
theorem z_if_eq_t (t : Nat) {x : Int32} {off : Int} (hd : decode (zMc μ) pc = .ok (.ifCond .eq off, 3)) (ht : (pc : Int) + off = (t : Int)) (h : x = 0) (k : Z G X μ a b ws t L S) : Z G X μ a b ws pc L (.int x :: S) := z_if_eq t (pc + 3) hd ht rfl (fun _ => k) (fun h9 => absurd h h9)
theorem z_if_eq_f (n : Nat) {x : Int32} {off : Int} (t : Nat) (hd : decode (zMc μ) pc = .ok (.ifCond .eq off, 3)) (ht : (pc : Int) + off = (t : Int)) (h : ¬ (x = 0)) (hn : pc + 3 = n) (k : Z G X μ a b ws n L S) : Z G X μ a b ws pc L (.int x :: S) := z_if_eq t n hd ht hn (fun h9 => absurd h9 h) (fun _ => k)
theorem z_icmp_eq (t n : Nat) {x y : Int32} {off : Int} (hd : decode (zMc μ) pc = .ok (.if_icmp .eq off, 3)) (ht : (pc : Int) + off = (t : Int)) (hn : pc + 3 = n) (kt : x = y → Z G X μ a b ws t L S) (kf : ¬ (x = y) → Z G X μ a b ws n L S) : Z G X μ a b ws pc L (.int y :: .int x :: S) := by
  subst hn
  intro ok H locs ls hP hD hS hl
  exact lv_icmp_eq ok.1 ok.2.1 hd ht (fun h => kt h ok H locs ls hP hD hS hl) (fun h => kf h ok H locs ls hP hD hS hl)
theorem z_icmp_eq_t (t : Nat) {x y : Int32} {off : Int} (hd : decode (zMc μ) pc = .ok (.if_icmp .eq off, 3)) (ht : (pc : Int) + off = (t : Int)) (h : x = y) (k : Z G X μ a b ws t L S) : Z G X μ a b ws pc L (.int y :: .int x :: S) := z_icmp_eq t (pc + 3) hd ht rfl (fun _ => k) (fun h9 => absurd h h9)
theorem z_icmp_eq_f (n : Nat) {x y : Int32} {off : Int} (t : Nat) (hd : decode (zMc μ) pc = .ok (.if_icmp .eq off, 3)) (ht : (pc : Int) + off = (t : Int)) (h : ¬ (x = y)) (hn : pc + 3 = n) (k : Z G X μ a b ws n L S) : Z G X μ a b ws pc L (.int y :: .int x :: S) := z_icmp_eq t n hd ht hn (fun h9 => absurd h9 h) (fun _ => k)
theorem z_if_ne (t n : Nat) {x : Int32} {off : Int} (hd : decode (zMc μ) pc = .ok (.ifCond .ne off, 3)) (ht : (pc : Int) + off = (t : Int)) (hn : pc + 3 = n) (kt : ¬ x = 0 → Z G X μ a b ws t L S) (kf : x = 0 → Z G X μ a b ws n L S) : Z G X μ a b ws pc L (.int x :: S) := by
  subst hn
  intro ok H locs ls hP hD hS hl
  exact lv_if_ne ok.1 ok.2.1 hd ht (fun h => kt h ok H locs ls hP hD hS hl) (fun h => kf h ok H locs ls hP hD hS hl)
theorem z_if_ne_t (t : Nat) {x : Int32} {off : Int} (hd : decode (zMc μ) pc = .ok (.ifCond .ne off, 3)) (ht : (pc : Int) + off = (t : Int)) (h : ¬ x = 0) (k : Z G X μ a b ws t L S) : Z G X μ a b ws pc L (.int x :: S) := z_if_ne t (pc + 3) hd ht rfl (fun _ => k) (fun h9 => absurd h9 h)
theorem z_if_ne_f (n : Nat) {x : Int32} {off : Int} (t : Nat) (hd : decode (zMc μ) pc = .ok (.ifCond .ne off, 3)) (ht : (pc : Int) + off = (t : Int)) (h : x = 0) (hn : pc + 3 = n) (k : Z G X μ a b ws n L S) : Z G X μ a b ws pc L (.int x :: S) := z_if_ne t n hd ht hn (fun h9 => absurd h h9) (fun _ => k)
theorem z_icmp_ne (t n : Nat) {x y : Int32} {off : Int} (hd : decode (zMc μ) pc = .ok (.if_icmp .ne off, 3)) (ht : (pc : Int) + off = (t : Int)) (hn : pc + 3 = n) (kt : ¬ x = y → Z G X μ a b ws t L S) (kf : x = y → Z G X μ a b ws n L S) : Z G X μ a b ws pc L (.int y :: .int x :: S) := by
  subst hn
  intro ok H locs ls hP hD hS hl
  exact lv_icmp_ne ok.1 ok.2.1 hd ht (fun h => kt h ok H locs ls hP hD hS hl) (fun h => kf h ok H locs ls hP hD hS hl)
theorem z_icmp_ne_t (t : Nat) {x y : Int32} {off : Int} (hd : decode (zMc μ) pc = .ok (.if_icmp .ne off, 3)) (ht : (pc : Int) + off = (t : Int)) (h : ¬ x = y) (k : Z G X μ a b ws t L S) : Z G X μ a b ws pc L (.int y :: .int x :: S) := z_icmp_ne t (pc + 3) hd ht rfl (fun _ => k) (fun h9 => absurd h9 h)
theorem z_icmp_ne_f (n : Nat) {x y : Int32} {off : Int} (t : Nat) (hd : decode (zMc μ) pc = .ok (.if_icmp .ne off, 3)) (ht : (pc : Int) + off = (t : Int)) (h : x = y) (hn : pc + 3 = n) (k : Z G X μ a b ws n L S) : Z G X μ a b ws pc L (.int y :: .int x :: S) := z_icmp_ne t n hd ht hn (fun h9 => absurd h h9) (fun _ => k)
theorem z_if_lt (t n : Nat) {x : Int32} {off : Int} (hd : decode (zMc μ) pc = .ok (.ifCond .lt off, 3)) (ht : (pc : Int) + off = (t : Int)) (hn : pc + 3 = n) (kt : x < 0 → Z G X μ a b ws t L S) (kf : ¬ (x < 0) → Z G X μ a b ws n L S) : Z G X μ a b ws pc L (.int x :: S) := by
  subst hn
  intro ok H locs ls hP hD hS hl
  exact lv_if_lt ok.1 ok.2.1 hd ht (fun h => kt h ok H locs ls hP hD hS hl) (fun h => kf h ok H locs ls hP hD hS hl)
theorem z_if_lt_t (t : Nat) {x : Int32} {off : Int} (hd : decode (zMc μ) pc = .ok (.ifCond .lt off, 3)) (ht : (pc : Int) + off = (t : Int)) (h : x < 0) (k : Z G X μ a b ws t L S) : Z G X μ a b ws pc L (.int x :: S) := z_if_lt t (pc + 3) hd ht rfl (fun _ => k) (fun h9 => absurd h h9)
theorem z_if_lt_f (n : Nat) {x : Int32} {off : Int} (t : Nat) (hd : decode (zMc μ) pc = .ok (.ifCond .lt off, 3)) (ht : (pc : Int) + off = (t : Int)) (h : ¬ (x < 0)) (hn : pc + 3 = n) (k : Z G X μ a b ws n L S) : Z G X μ a b ws pc L (.int x :: S) := z_if_lt t n hd ht hn (fun h9 => absurd h9 h) (fun _ => k)
theorem z_icmp_lt (t n : Nat) {x y : Int32} {off : Int} (hd : decode (zMc μ) pc = .ok (.if_icmp .lt off, 3)) (ht : (pc : Int) + off = (t : Int)) (hn : pc + 3 = n) (kt : x < y → Z G X μ a b ws t L S) (kf : ¬ (x < y) → Z G X μ a b ws n L S) : Z G X μ a b ws pc L (.int y :: .int x :: S) := by
  subst hn
  intro ok H locs ls hP hD hS hl
  exact lv_icmp_lt ok.1 ok.2.1 hd ht (fun h => kt h ok H locs ls hP hD hS hl) (fun h => kf h ok H locs ls hP hD hS hl)
theorem z_icmp_lt_t (t : Nat) {x y : Int32} {off : Int} (hd : decode (zMc μ) pc = .ok (.if_icmp .lt off, 3)) (ht : (pc : Int) + off = (t : Int)) (h : x < y) (k : Z G X μ a b ws t L S) : Z G X μ a b ws pc L (.int y :: .int x :: S) := z_icmp_lt t (pc + 3) hd ht rfl (fun _ => k) (fun h9 => absurd h h9)
theorem z_icmp_lt_f (n : Nat) {x y : Int32} {off : Int} (t : Nat) (hd : decode (zMc μ) pc = .ok (.if_icmp .lt off, 3)) (ht : (pc : Int) + off = (t : Int)) (h : ¬ (x < y)) (hn : pc + 3 = n) (k : Z G X μ a b ws n L S) : Z G X μ a b ws pc L (.int y :: .int x :: S) := z_icmp_lt t n hd ht hn (fun h9 => absurd h9 h) (fun _ => k)
theorem z_if_ge (t n : Nat) {x : Int32} {off : Int} (hd : decode (zMc μ) pc = .ok (.ifCond .ge off, 3)) (ht : (pc : Int) + off = (t : Int)) (hn : pc + 3 = n) (kt : 0 ≤ x → Z G X μ a b ws t L S) (kf : ¬ (0 ≤ x) → Z G X μ a b ws n L S) : Z G X μ a b ws pc L (.int x :: S) := by
  subst hn
  intro ok H locs ls hP hD hS hl
  exact lv_if_ge ok.1 ok.2.1 hd ht (fun h => kt h ok H locs ls hP hD hS hl) (fun h => kf h ok H locs ls hP hD hS hl)
theorem z_if_ge_t (t : Nat) {x : Int32} {off : Int} (hd : decode (zMc μ) pc = .ok (.ifCond .ge off, 3)) (ht : (pc : Int) + off = (t : Int)) (h : 0 ≤ x) (k : Z G X μ a b ws t L S) : Z G X μ a b ws pc L (.int x :: S) := z_if_ge t (pc + 3) hd ht rfl (fun _ => k) (fun h9 => absurd h h9)
theorem z_if_ge_f (n : Nat) {x : Int32} {off : Int} (t : Nat) (hd : decode (zMc μ) pc = .ok (.ifCond .ge off, 3)) (ht : (pc : Int) + off = (t : Int)) (h : ¬ (0 ≤ x)) (hn : pc + 3 = n) (k : Z G X μ a b ws n L S) : Z G X μ a b ws pc L (.int x :: S) := z_if_ge t n hd ht hn (fun h9 => absurd h9 h) (fun _ => k)
theorem z_icmp_ge (t n : Nat) {x y : Int32} {off : Int} (hd : decode (zMc μ) pc = .ok (.if_icmp .ge off, 3)) (ht : (pc : Int) + off = (t : Int)) (hn : pc + 3 = n) (kt : y ≤ x → Z G X μ a b ws t L S) (kf : ¬ (y ≤ x) → Z G X μ a b ws n L S) : Z G X μ a b ws pc L (.int y :: .int x :: S) := by
  subst hn
  intro ok H locs ls hP hD hS hl
  exact lv_icmp_ge ok.1 ok.2.1 hd ht (fun h => kt h ok H locs ls hP hD hS hl) (fun h => kf h ok H locs ls hP hD hS hl)
theorem z_icmp_ge_t (t : Nat) {x y : Int32} {off : Int} (hd : decode (zMc μ) pc = .ok (.if_icmp .ge off, 3)) (ht : (pc : Int) + off = (t : Int)) (h : y ≤ x) (k : Z G X μ a b ws t L S) : Z G X μ a b ws pc L (.int y :: .int x :: S) := z_icmp_ge t (pc + 3) hd ht rfl (fun _ => k) (fun h9 => absurd h h9)
theorem z_icmp_ge_f (n : Nat) {x y : Int32} {off : Int} (t : Nat) (hd : decode (zMc μ) pc = .ok (.if_icmp .ge off, 3)) (ht : (pc : Int) + off = (t : Int)) (h : ¬ (y ≤ x)) (hn : pc + 3 = n) (k : Z G X μ a b ws n L S) : Z G X μ a b ws pc L (.int y :: .int x :: S) := z_icmp_ge t n hd ht hn (fun h9 => absurd h9 h) (fun _ => k)
theorem z_if_gt (t n : Nat) {x : Int32} {off : Int} (hd : decode (zMc μ) pc = .ok (.ifCond .gt off, 3)) (ht : (pc : Int) + off = (t : Int)) (hn : pc + 3 = n) (kt : 0 < x → Z G X μ a b ws t L S) (kf : ¬ (0 < x) → Z G X μ a b ws n L S) : Z G X μ a b ws pc L (.int x :: S) := by
  subst hn
  intro ok H locs ls hP hD hS hl
  exact lv_if_gt ok.1 ok.2.1 hd ht (fun h => kt h ok H locs ls hP hD hS hl) (fun h => kf h ok H locs ls hP hD hS hl)
theorem z_if_gt_t (t : Nat) {x : Int32} {off : Int} (hd : decode (zMc μ) pc = .ok (.ifCond .gt off, 3)) (ht : (pc : Int) + off = (t : Int)) (h : 0 < x) (k : Z G X μ a b ws t L S) : Z G X μ a b ws pc L (.int x :: S) := z_if_gt t (pc + 3) hd ht rfl (fun _ => k) (fun h9 => absurd h h9)
theorem z_if_gt_f (n : Nat) {x : Int32} {off : Int} (t : Nat) (hd : decode (zMc μ) pc = .ok (.ifCond .gt off, 3)) (ht : (pc : Int) + off = (t : Int)) (h : ¬ (0 < x)) (hn : pc + 3 = n) (k : Z G X μ a b ws n L S) : Z G X μ a b ws pc L (.int x :: S) := z_if_gt t n hd ht hn (fun h9 => absurd h9 h) (fun _ => k)
theorem z_icmp_gt (t n : Nat) {x y : Int32} {off : Int} (hd : decode (zMc μ) pc = .ok (.if_icmp .gt off, 3)) (ht : (pc : Int) + off = (t : Int)) (hn : pc + 3 = n) (kt : y < x → Z G X μ a b ws t L S) (kf : ¬ (y < x) → Z G X μ a b ws n L S) : Z G X μ a b ws pc L (.int y :: .int x :: S) := by
  subst hn
  intro ok H locs ls hP hD hS hl
  exact lv_icmp_gt ok.1 ok.2.1 hd ht (fun h => kt h ok H locs ls hP hD hS hl) (fun h => kf h ok H locs ls hP hD hS hl)
theorem z_icmp_gt_t (t : Nat) {x y : Int32} {off : Int} (hd : decode (zMc μ) pc = .ok (.if_icmp .gt off, 3)) (ht : (pc : Int) + off = (t : Int)) (h : y < x) (k : Z G X μ a b ws t L S) : Z G X μ a b ws pc L (.int y :: .int x :: S) := z_icmp_gt t (pc + 3) hd ht rfl (fun _ => k) (fun h9 => absurd h h9)
theorem z_icmp_gt_f (n : Nat) {x y : Int32} {off : Int} (t : Nat) (hd : decode (zMc μ) pc = .ok (.if_icmp .gt off, 3)) (ht : (pc : Int) + off = (t : Int)) (h : ¬ (y < x)) (hn : pc + 3 = n) (k : Z G X μ a b ws n L S) : Z G X μ a b ws pc L (.int y :: .int x :: S) := z_icmp_gt t n hd ht hn (fun h9 => absurd h9 h) (fun _ => k)
theorem z_if_le (t n : Nat) {x : Int32} {off : Int} (hd : decode (zMc μ) pc = .ok (.ifCond .le off, 3)) (ht : (pc : Int) + off = (t : Int)) (hn : pc + 3 = n) (kt : x ≤ 0 → Z G X μ a b ws t L S) (kf : ¬ (x ≤ 0) → Z G X μ a b ws n L S) : Z G X μ a b ws pc L (.int x :: S) := by
  subst hn
  intro ok H locs ls hP hD hS hl
  exact lv_if_le ok.1 ok.2.1 hd ht (fun h => kt h ok H locs ls hP hD hS hl) (fun h => kf h ok H locs ls hP hD hS hl)
theorem z_if_le_t (t : Nat) {x : Int32} {off : Int} (hd : decode (zMc μ) pc = .ok (.ifCond .le off, 3)) (ht : (pc : Int) + off = (t : Int)) (h : x ≤ 0) (k : Z G X μ a b ws t L S) : Z G X μ a b ws pc L (.int x :: S) := z_if_le t (pc + 3) hd ht rfl (fun _ => k) (fun h9 => absurd h h9)
theorem z_if_le_f (n : Nat) {x : Int32} {off : Int} (t : Nat) (hd : decode (zMc μ) pc = .ok (.ifCond .le off, 3)) (ht : (pc : Int) + off = (t : Int)) (h : ¬ (x ≤ 0)) (hn : pc + 3 = n) (k : Z G X μ a b ws n L S) : Z G X μ a b ws pc L (.int x :: S) := z_if_le t n hd ht hn (fun h9 => absurd h9 h) (fun _ => k)
theorem z_icmp_le (t n : Nat) {x y : Int32} {off : Int} (hd : decode (zMc μ) pc = .ok (.if_icmp .le off, 3)) (ht : (pc : Int) + off = (t : Int)) (hn : pc + 3 = n) (kt : x ≤ y → Z G X μ a b ws t L S) (kf : ¬ (x ≤ y) → Z G X μ a b ws n L S) : Z G X μ a b ws pc L (.int y :: .int x :: S) := by
  subst hn
  intro ok H locs ls hP hD hS hl
  exact lv_icmp_le ok.1 ok.2.1 hd ht (fun h => kt h ok H locs ls hP hD hS hl) (fun h => kf h ok H locs ls hP hD hS hl)
theorem z_icmp_le_t (t : Nat) {x y : Int32} {off : Int} (hd : decode (zMc μ) pc = .ok (.if_icmp .le off, 3)) (ht : (pc : Int) + off = (t : Int)) (h : x ≤ y) (k : Z G X μ a b ws t L S) : Z G X μ a b ws pc L (.int y :: .int x :: S) := z_icmp_le t (pc + 3) hd ht rfl (fun _ => k) (fun h9 => absurd h h9)
theorem z_icmp_le_f (n : Nat) {x y : Int32} {off : Int} (t : Nat) (hd : decode (zMc μ) pc = .ok (.if_icmp .le off, 3)) (ht : (pc : Int) + off = (t : Int)) (h : ¬ (x ≤ y)) (hn : pc + 3 = n) (k : Z G X μ a b ws n L S) : Z G X μ a b ws pc L (.int y :: .int x :: S) := z_icmp_le t n hd ht hn (fun h9 => absurd h9 h) (fun _ => k)
theorem z_goto (t : Nat) {off : Int} (hd : decode (zMc μ) pc = .ok (.goto off, 3)) (ht : (pc : Int) + off = (t : Int)) (k : Z G X μ a b ws t L S) : Z G X μ a b ws pc L S := fun ok H locs ls hP hD hS hl => lv_goto ok.1 ok.2.1 hd ht (k ok H locs ls hP hD hS hl)
theorem z_tsIn (t : Nat) {dflt lo hi : Int} {offs : Array Int} {len : Nat} {x : Int32} {off : Int} (hd : decode (zMc μ) pc = .ok (.tableswitch dflt lo hi offs, len)) (h1 : ¬ x.toInt < lo) (h2 : ¬ hi < x.toInt) (ho : offs[(x.toInt - lo).toNat]? = some off) (ht : (pc : Int) + off = (t : Int)) (k : Z G X μ a b ws t L S) : Z G X μ a b ws pc L (.int x :: S) := fun ok H locs ls hP hD hS hl => lv_tableIn ok.1 ok.2.1 hd h1 h2 ho ht (k ok H locs ls hP hD hS hl)
theorem z_tsOut (t : Nat) {dflt lo hi : Int} {offs : Array Int} {len : Nat} {x : Int32} (hd : decode (zMc μ) pc = .ok (.tableswitch dflt lo hi offs, len)) (h : x.toInt < lo ∨ hi < x.toInt) (ht : (pc : Int) + dflt = (t : Int)) (k : Z G X μ a b ws t L S) : Z G X μ a b ws pc L (.int x :: S) := fun ok H locs ls hP hD hS hl => lv_tableOut ok.1 ok.2.1 hd h ht (k ok H locs ls hP hD hS hl)
theorem z_lookup (t : Nat) {dflt : Int} {ps : Array (Int × Int)} {len : Nat} {x : Int32} {off : Int} (hd : decode (zMc μ) pc = .ok (.lookupswitch dflt ps, len)) (hp : (ps.toList.zip (ps.toList.drop 1)).all (fun (a, next) => a.1 < next.1) = true) (ho : Op.lookupswitch.offset ps.toList dflt x.toInt = off) (ht : (pc : Int) + off = (t : Int)) (k : Z G X μ a b ws t L S) : Z G X μ a b ws pc L (.int x :: S) := fun ok H locs ls hP hD hS hl => lv_lookup ok.1 ok.2.1 hd hp ho ht (k ok H locs ls hP hD hS hl)
theorem z_ldc (n : Nat) {idx : Nat} {v : Int32} (hc : Cond.constant (zMo μ) idx v ∈ zws) (hd : decode (zMc μ) pc = .ok (.ldc idx, 2)) (hn : pc + 2 = n) (k : Z G X μ a b ws n L (.int v :: S)) : Z G X μ a b ws pc L S := by
  subst hn
  intro ok H locs ls hP hD hS hl
  exact lv_ldc ok.1 ok.2.1 ok.2.2.2.2.1 (ok.2.2.2.2.2.2.1 _ hc) hd (k ok H locs ls hP hD hS hl)
theorem z_ldc2 (n : Nat) {idx : Nat} {v : Int64} (hc : Cond.constantLong (zMo μ) idx v ∈ zws) (hd : decode (zMc μ) pc = .ok (.ldc2_w idx, 3)) (hn : pc + 3 = n) (k : Z G X μ a b ws n L (.long v :: S)) : Z G X μ a b ws pc L S := by
  subst hn
  intro ok H locs ls hP hD hS hl
  exact lv_ldc2 ok.1 ok.2.1 ok.2.2.2.2.1 (ok.2.2.2.2.2.2.1 _ hc) hd (k ok H locs ls hP hD hS hl)
/-- a field, as an instruction of the class 'own' names it: slot j of the class ci -/
def zFld (own : String) (idx ci j : Nat) : Prop := ∃ (C : String) (T : u_T) (N : Nat), vwCl[ci]? = some (C, T, N) ∧ j < N ∧ (∀ w ∈ u_ws C T N, w ∈ zws) ∧ Cond.fieldLink own idx (T j).1 (T j).2.1 (T j).2.2.1 ∈ zws
def zFldP (own : String) (idx ci j : Nat) (ty : FieldType) (fin : Bool) : Prop := ∃ (C : String) (T : u_T) (N : Nat) (ty0 : Nat → FieldType), vwCl[ci]? = some (C, T, N) ∧ j < N ∧ (∀ w ∈ u_ws C T N, w ∈ zws) ∧ Cond.fieldLink own idx (T j).1 (T j).2.1 (T j).2.2.1 ∈ zws ∧ (∀ k, k < N → parseFieldDescriptor (T k).2.2.1 = some (ty0 k)) ∧ (∀ a, a < N → ∀ b, b < N → a ≠ b → (T a).2.1 ≠ (T b).2.1) ∧ (T j).2.2.2 = fin ∧ ty0 j = ty ∧ (fin = true → (T j).1 = own)
theorem z_get (n r : Nat) {q idx ci j : Nat} {fs : List Value} {v : Value} (hw : ws[r]? = some (q, .inr (ci, fs))) (hf : zFld (zMo μ) idx ci j) (hv : fs[j]? = some v) (hd : decode (zMc μ) pc = .ok (.getfield idx, 3)) (hn : pc + 3 = n) (k : Z G X μ a b ws n L (v :: S)) : Z G X μ a b ws pc L (.ref q :: S) := by
  subst hn
  intro ok H locs ls hP hD hS hl
  obtain ⟨C, T, N, h1, h2, h3, h4⟩ := hf
  exact va_get ok.1 ok.2.1 ok.2.2.2.2.2.2.1 h3 ok.2.2.2.2.1 ok.2.2.2.2.2.2.2.1 hP r hw h1 j h2 (ok.2.2.2.2.2.2.1 _ h4) (fun _ h9 => h9) hv hd (k ok H locs ls hP hD hS hl)
theorem z_put (n r : Nat) {q idx ci j : Nat} {fs : List Value} {v : Value} {ty : FieldType} (hw : ws[r]? = some (q, .inr (ci, fs))) (hf : zFldP (zMo μ) idx ci j ty false) (hnr : narrow ty v = v) (hft : fits ty v = true) (hj : j < fs.length) (hd : decode (zMc μ) pc = .ok (.putfield idx, 3)) (hn : pc + 3 = n) (k : Z G X μ a b (ws.set r (q, .inr (ci, fs.set j v))) n L S) : Z G X μ a b ws pc L (v :: .ref q :: S) := by
  subst hn
  intro ok H locs ls hP hD hS hl
  obtain ⟨C, T, N, ty0, h1, h2, h3, h4, h5, h6, h7, h8, -⟩ := hf
  exact va_put ok.1 ok.2.1 ok.2.2.2.2.2.2.1 h3 ty0 h5 h6 ok.2.2.2.2.1 ok.2.2.2.2.2.2.2.1 hP hD hS r hw h1 j h2 (ok.2.2.2.2.2.2.1 _ h4) (fun _ h9 => h9) h7 ((h5 j h2).trans (congrArg some h8)) hnr hft hj hd (fun H1 locs1 hP1 hD1 hS1 => k ok H1 locs1 ls hP1 hD1 hS1 hl)
theorem z_putF (n r : Nat) {q idx ci j : Nat} {fs : List Value} {v : Value} {ty : FieldType} (hw : ws[r]? = some (q, .inr (ci, fs))) (hf : zFldP (zMo μ) idx ci j ty true) (hk : zMk μ ≠ 0) (ho : zMo μ ≠ "HueLeaseLaw") (hnr : narrow ty v = v) (hft : fits ty v = true) (hj : j < fs.length) (hd : decode (zMc μ) pc = .ok (.putfield idx, 3)) (hn : pc + 3 = n) (k : Z G X μ a b (ws.set r (q, .inr (ci, fs.set j v))) n L S) : Z G X μ a b ws pc L (v :: .ref q :: S) := by
  subst hn
  intro ok H locs ls hP hD hS hl
  obtain ⟨C, T, N, ty0, h1, h2, h3, h4, h5, h6, h7, h8, h9⟩ := hf
  exact va_putF ok.1 ok.2.1 ok.2.2.2.2.2.2.1 h3 ty0 h5 h6 ok.2.2.2.2.1 ok.2.2.2.2.2.2.2.1 hP hD hS r hw h1 j h2 (ok.2.2.2.2.2.2.1 _ h4) (fun _ h9 => h9) h7 (ok.2.2.2.2.2.2.2.2.2.2.2.2.2.2.resolve_right (fun h => h.elim hk ho)) (h9 rfl) ((h5 j h2).trans (congrArg some h8)) hnr hft hj hd (fun H1 locs1 hP1 hD1 hS1 => k ok H1 locs1 ls hP1 hD1 hS1 hl)
theorem z_iald (n r j : Nat) {q N : Nat} {f : Nat → Int32} {i : Int32} (hw : ws[r]? = some (q, .inl (zcI G, N, .inl f))) (hi : i = nI j) (hj : j < N) (hN : N < 2 ^ 31) (hd : decode (zMc μ) pc = .ok (.iaload, 1)) (hn : pc + 1 = n) (k : Z G X μ a b ws n L (.int (f j) :: S)) : Z G X μ a b ws pc L (.int i :: .ref q :: S) := by
  subst hn; subst hi
  intro ok H locs ls hP hD hS hl
  refine va_iald ok.1 ok.2.1 ok.2.2.2.2.2.2.2.1 hP r 0 hw rfl (vp_in_nI hj hN) hd ?_
  rw [nI_clamp (Nat.lt_trans hj hN)]
  exact k ok H locs ls hP hD hS hl
theorem z_iast (n r j : Nat) {q N : Nat} {f : Nat → Int32} {i x : Int32} (hw : ws[r]? = some (q, .inl (zcI G, N, .inl f))) (hi : i = nI j) (hj : j < N) (hN : N < 2 ^ 31) (hd : decode (zMc μ) pc = .ok (.iastore, 1)) (hn : pc + 1 = n) (k : Z G X μ a b (ws.set r (q, .inl (zcI G, N, .inl (upd f j x)))) n L S) : Z G X μ a b ws pc L (.int x :: .int i :: .ref q :: S) := by
  subst hn; subst hi
  intro ok H locs ls hP hD hS hl
  refine va_iast ok.1 ok.2.1 ok.2.2.2.2.2.2.2.1 hP hD hS r 0 hw rfl (vp_in_nI hj hN) hd ?_
  rw [nI_clamp (Nat.lt_trans hj hN)]
  exact fun H1 locs1 hP1 hD1 hS1 => k ok H1 locs1 ls hP1 hD1 hS1 hl
theorem z_zald (n r j : Nat) {q N : Nat} {f : Nat → Int32} {i : Int32} (hw : ws[r]? = some (q, .inl (zcZ G, N, .inl f))) (hi : i = nI j) (hj : j < N) (hN : N < 2 ^ 31) (hd : decode (zMc μ) pc = .ok (.baload, 1)) (hn : pc + 1 = n) (k : Z G X μ a b ws n L (.int (f j) :: S)) : Z G X μ a b ws pc L (.int i :: .ref q :: S) := by
  subst hn; subst hi
  intro ok H locs ls hP hD hS hl
  refine va_zald ok.1 ok.2.1 ok.2.2.2.2.2.2.2.1 hP r 1 hw rfl (vp_in_nI hj hN) hd ?_
  rw [nI_clamp (Nat.lt_trans hj hN)]
  exact k ok H locs ls hP hD hS hl
theorem z_zast (n r j : Nat) {q N : Nat} {f : Nat → Int32} {i x : Int32} (hw : ws[r]? = some (q, .inl (zcZ G, N, .inl f))) (hi : i = nI j) (hj : j < N) (hN : N < 2 ^ 31) (hx : vp_nar .boolean x = x) (hd : decode (zMc μ) pc = .ok (.bastore, 1)) (hn : pc + 1 = n) (k : Z G X μ a b (ws.set r (q, .inl (zcZ G, N, .inl (upd f j x)))) n L S) : Z G X μ a b ws pc L (.int x :: .int i :: .ref q :: S) := by
  subst hn; subst hi
  intro ok H locs ls hP hD hS hl
  refine va_zast ok.1 ok.2.1 ok.2.2.2.2.2.2.2.1 hP hD hS r 1 hw rfl (vp_in_nI hj hN) hd ?_
  rw [nI_clamp (Nat.lt_trans hj hN), hx]
  exact fun H1 locs1 hP1 hD1 hS1 => k ok H1 locs1 ls hP1 hD1 hS1 hl
theorem z_aald (n r j : Nat) {q N t0 : Nat} {cA : ClassId} {C : String} {f : Nat → Option Nat} {i : Int32} (hw : ws[r]? = some (q, .inl (cA, N, .inr (.inr (.inr (.inr f)))))) (ht : (zGt G)[t0]? = some (cA, .object C)) (hi : i = nI j) (hj : j < N) (hN : N < 2 ^ 31) (hd : decode (zMc μ) pc = .ok (.aaload, 1)) (hn : pc + 1 = n) (k : Z G X μ a b ws n L (va_rf (f j) :: S)) : Z G X μ a b ws pc L (.int i :: .ref q :: S) := by
  subst hn; subst hi
  intro ok H locs ls hP hD hS hl
  refine va_aldq ok.1 ok.2.1 ok.2.2.2.2.2.2.2.1 hP r t0 hw ht (vp_in_nI hj hN) hd ?_
  rw [nI_clamp (Nat.lt_trans hj hN)]
  exact k ok H locs ls hP hD hS hl
theorem z_alen (n r t0 : Nat) {q : Nat} {cA : ClassId} {x : vp_A} {ty : FieldType} {v : Int32} (hw : ws[r]? = some (q, .inl (cA, x))) (ht : (zGt G)[t0]? = some (cA, ty)) (hv : Int32.ofNat x.1 = v) (hd : decode (zMc μ) pc = .ok (.arraylength, 1)) (hn : pc + 1 = n) (k : Z G X μ a b ws n L (.int v :: S)) : Z G X μ a b ws pc L (.ref q :: S) := by
  subst hn
  intro ok H locs ls hP hD hS hl
  exact va_alen ok.1 ok.2.1 ok.2.2.2.2.2.2.2.1 hP r t0 hw ht hv hd (k ok H locs ls hP hD hS hl)
theorem z_gsR (n : Nat) (ho : zMo μ = "HueLease$Books") (hd : decode (zMc μ) pc = .ok (.getstatic 60, 3)) (hn : pc + 3 = n) (k : Z G X μ a b ws n L (.ref (zGR G) :: S)) : Z G X μ a b ws pc L S := by
  subst hn
  intro ok H locs ls hP hD hS hl
  have hs := ok.2.2.2.2.2.2.2.2.2.1
  exact va_getsN ok.1 ok.2.1 hs.2.2.1.1 hS (by rw [← ho]; exact ok.2.2.2.2.1) (va_Nw.use rfl (hs.2.1 ("HueLease$Books", 60, "HueLease", "RENTS", "[I") (by decide))) (fun _ h9 => h9) hd (k ok H locs ls hP hD hS hl)
theorem z_gsF (n : Nat) (ho : zMo μ = "HueLease$Books") (hd : decode (zMc μ) pc = .ok (.getstatic 92, 3)) (hn : pc + 3 = n) (k : Z G X μ a b ws n L (.ref (zGF G) :: S)) : Z G X μ a b ws pc L S := by
  subst hn
  intro ok H locs ls hP hD hS hl
  have hs := ok.2.2.2.2.2.2.2.2.2.1
  exact va_getsN ok.1 ok.2.1 hs.2.2.2.1.1 hS (by rw [← ho]; exact ok.2.2.2.2.1) (va_Nw.use rfl (hs.2.1 ("HueLease$Books", 92, "HueLease", "FADINGS", "[I") (by decide))) (fun _ h9 => h9) hd (k ok H locs ls hP hD hS hl)
theorem z_tR (n j : Nat) {i v : Int32} (hi : i = nI j) (hj : j < 4) (hv : zRents j = .int v) (hd : decode (zMc μ) pc = .ok (.iaload, 1)) (hn : pc + 1 = n) (k : Z G X μ a b ws n L (.int v :: S)) : Z G X μ a b ws pc L (.int i :: .ref (zGR G) :: S) := by
  subst hn; subst hi
  intro ok H locs ls hP hD hS hl
  exact va_ti ok.1 ok.2.1 ok.2.2.2.2.2.2.2.2.2.1.2.2.1.2 hS (vp_in_nI hj (by decide)) (by rw [nI_clamp (by omega)]; exact hv) hd (k ok H locs ls hP hD hS hl)
theorem z_tF (n j : Nat) {i v : Int32} (hi : i = nI j) (hj : j < 4) (hv : zFades j = .int v) (hd : decode (zMc μ) pc = .ok (.iaload, 1)) (hn : pc + 1 = n) (k : Z G X μ a b ws n L (.int v :: S)) : Z G X μ a b ws pc L (.int i :: .ref (zGF G) :: S) := by
  subst hn; subst hi
  intro ok H locs ls hP hD hS hl
  exact va_ti ok.1 ok.2.1 ok.2.2.2.2.2.2.2.2.2.1.2.2.2.1.2 hS (vp_in_nI hj (by decide)) (by rw [nI_clamp (by omega)]; exact hv) hd (k ok H locs ls hP hD hS hl)
end ZW
