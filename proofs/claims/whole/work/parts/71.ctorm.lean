/-! ===== the reference is made ===== -/
theorem k_X7 {l : Launch} {G : zG} : Cto l yX7_init mX7_init G 7 fX7 (158) 15 := by
  intro A E hE
  refine zMet.of (by decide) rfl (Nat.le_of_ble_eq_true rfl) (Or.inl rfl) fun X hX hq => ?_
  subst hX
  show Z G X mX7_init 0 0 (zV A E (158 + 1)) 0 [some (.ref (A (158)))] []
  have I0 : zI G A E (158) [] (158 + 1) A E := zI.rf
  replace hE : E (158) = .inr (7, [.null, .int 0, .int 0, .null, .int 0, .int 0, .int 0, .int 0, .int 0, .null, .int 0, .int 0, .int 0, .int 0, .int 0, .int 0, .int 0, .int 0, .null, .null, .int 0, .null, .int 0, .null, .null, .null, .int 0, .null, .null, .null, .null, .null, .int 0]) := hE
  refine z_aload_n 1 dX7_init_0 rfl rfl ?_
  refine c_obj 4 ob_X7 (Nat.le_of_ble_eq_true rfl) (Nat.le_of_ble_eq_true rfl) dX7_init_1 rfl ?_
  refine z_aload_n 5 dX7_init_4 rfl rfl ?_
  refine z_sipush 8 dX7_init_5 vs330 rfl ?_
  refine c_newI 10 (M := 330) (by decide) (by decide) (Nat.le_of_ble_eq_true rfl) (Nat.le_of_ble_eq_true rfl) dX7_init_8 rfl fun A1 E1 g1 h1 e1 => ?_
  have I1 := I0.arr g1 h1 (zDone.I (sh159) e1 (fun j hj => (s0_0 (by omega) (by omega) (by omega) (by omega) : s0 _ = 0).symm))
  have f2 : E1 (158) = .inr (7, [.null, .int 0, .int 0, .null, .int 0, .int 0, .int 0, .int 0, .int 0, .null, .int 0, .int 0, .int 0, .int 0, .int 0, .int 0, .int 0, .int 0, .null, .null, .int 0, .null, .int 0, .null, .null, .null, .int 0, .null, .null, .null, .null, .null, .int 0]) := by
    rw [h1 _ I0.1, hE]
  refine c_putF 13 (158) I1.1 I1.q f2 fp_X7_7 (by decide) hoX7 rfl rfl (Nat.le_of_ble_eq_true rfl) dX7_init_10 rfl fun E3 h3 e3 => ?_
  have I3 := I1.put h3 (Or.inl rfl)
  have f3 : E3 (158) = .inr (7, [.ref (A1 (159)), .int 0, .int 0, .null, .int 0, .int 0, .int 0, .int 0, .int 0, .null, .int 0, .int 0, .int 0, .int 0, .int 0, .int 0, .int 0, .int 0, .null, .null, .int 0, .null, .int 0, .null, .null, .null, .int 0, .null, .null, .null, .null, .null, .int 0]) := e3
  refine z_aload_n 14 dX7_init_13 rfl rfl ?_
  refine z_bipush 16 dX7_init_14 vb55 rfl ?_
  refine c_newI 18 (M := 55) (by decide) (by decide) (Nat.le_of_ble_eq_true rfl) (Nat.le_of_ble_eq_true rfl) dX7_init_16 rfl fun A4 E4 g4 h4 e4 => ?_
  have I4 := I3.arr g4 h4 (zDone.I (sh160) e4 (fun j hj => (s0_0 (by omega) (by omega) (by omega) (by omega) : s0 _ = 0).symm))
  have f5 : E4 (158) = .inr (7, [.ref (A4 (159)), .int 0, .int 0, .null, .int 0, .int 0, .int 0, .int 0, .int 0, .null, .int 0, .int 0, .int 0, .int 0, .int 0, .int 0, .int 0, .int 0, .null, .null, .int 0, .null, .int 0, .null, .null, .null, .int 0, .null, .null, .null, .null, .null, .int 0]) := by
    rw [h4 _ I3.1, f3, g4 (159) (by omega)]
  refine c_putF 21 (158) I4.1 I4.q f5 fp_X7_13 (by decide) hoX7 rfl rfl (Nat.le_of_ble_eq_true rfl) dX7_init_18 rfl fun E6 h6 e6 => ?_
  have I6 := I4.put h6 (Or.inl rfl)
  have f6 : E6 (158) = .inr (7, [.ref (A4 (159)), .int 0, .int 0, .ref (A4 (160)), .int 0, .int 0, .int 0, .int 0, .int 0, .null, .int 0, .int 0, .int 0, .int 0, .int 0, .int 0, .int 0, .int 0, .null, .null, .int 0, .null, .int 0, .null, .null, .null, .int 0, .null, .null, .null, .null, .null, .int 0]) := e6
  refine z_aload_n 22 dX7_init_21 rfl rfl ?_
  refine z_sipush 25 dX7_init_22 vs160 rfl ?_
  refine c_newI 27 (M := 160) (by decide) (by decide) (Nat.le_of_ble_eq_true rfl) (Nat.le_of_ble_eq_true rfl) dX7_init_25 rfl fun A7 E7 g7 h7 e7 => ?_
  have I7 := I6.arr g7 h7 (zDone.I (sh161) e7 (fun j hj => (s0_0 (by omega) (by omega) (by omega) (by omega) : s0 _ = 0).symm))
  have f8 : E7 (158) = .inr (7, [.ref (A7 (159)), .int 0, .int 0, .ref (A7 (160)), .int 0, .int 0, .int 0, .int 0, .int 0, .null, .int 0, .int 0, .int 0, .int 0, .int 0, .int 0, .int 0, .int 0, .null, .null, .int 0, .null, .int 0, .null, .null, .null, .int 0, .null, .null, .null, .null, .null, .int 0]) := by
    rw [h7 _ I6.1, f6, g7 (159) (by omega), g7 (160) (by omega)]
  refine c_putF 30 (158) I7.1 I7.q f8 fp_X7_16 (by decide) hoX7 rfl rfl (Nat.le_of_ble_eq_true rfl) dX7_init_27 rfl fun E9 h9 e9 => ?_
  have I9 := I7.put h9 (Or.inl rfl)
  have f9 : E9 (158) = .inr (7, [.ref (A7 (159)), .int 0, .int 0, .ref (A7 (160)), .int 0, .int 0, .int 0, .int 0, .int 0, .ref (A7 (161)), .int 0, .int 0, .int 0, .int 0, .int 0, .int 0, .int 0, .int 0, .null, .null, .int 0, .null, .int 0, .null, .null, .null, .int 0, .null, .null, .null, .null, .null, .int 0]) := e9
  refine z_aload_n 31 dX7_init_30 rfl rfl ?_
  refine z_bipush 33 dX7_init_31 vb7 rfl ?_
  refine c_newI 35 (M := 7) (by decide) (by decide) (Nat.le_of_ble_eq_true rfl) (Nat.le_of_ble_eq_true rfl) dX7_init_33 rfl fun A10 E10 g10 h10 e10 => ?_
  have I10 := I9.opn g10 h10
  have f11 : E10 (158) = .inr (7, [.ref (A10 (159)), .int 0, .int 0, .ref (A10 (160)), .int 0, .int 0, .int 0, .int 0, .int 0, .ref (A10 (161)), .int 0, .int 0, .int 0, .int 0, .int 0, .int 0, .int 0, .int 0, .null, .null, .int 0, .null, .int 0, .null, .null, .null, .int 0, .null, .null, .null, .null, .null, .int 0]) := by
    rw [h10 _ I9.1, f9, g10 (159) (by omega), g10 (160) (by omega), g10 (161) (by omega)]
  refine z_dup 36 dX7_init_35 rfl rfl ?_
  refine z_iconst 37 dX7_init_36 vi0 rfl ?_
  refine z_iconst 38 dX7_init_37 vi0 rfl ?_
  refine c_iast 39 (162) 0 (by decide) rfl e10 (by decide) (by decide) (by decide) dX7_init_38 rfl fun E12 h12 e12 => ?_
  have I12 := I10.put h12 (Or.inr ⟨by decide, by decide⟩)
  have f12 := (h12 (158) (by decide)).trans f11
  refine z_dup 40 dX7_init_39 rfl rfl ?_
  refine z_iconst 41 dX7_init_40 vi1 rfl ?_
  refine z_iconst 42 dX7_init_41 vi5 rfl ?_
  refine c_iast 43 (162) 1 (by decide) rfl e12 (by decide) (by decide) (by decide) dX7_init_42 rfl fun E13 h13 e13 => ?_
  have I13 := I12.put h13 (Or.inr ⟨by decide, by decide⟩)
  have f13 := (h13 (158) (by decide)).trans f12
  refine z_dup 44 dX7_init_43 rfl rfl ?_
  refine z_iconst 45 dX7_init_44 vi2 rfl ?_
  refine z_bipush 47 dX7_init_45 vb12 rfl ?_
  refine c_iast 48 (162) 2 (by decide) rfl e13 (by decide) (by decide) (by decide) dX7_init_47 rfl fun E14 h14 e14 => ?_
  have I14 := I13.put h14 (Or.inr ⟨by decide, by decide⟩)
  have f14 := (h14 (158) (by decide)).trans f13
  refine z_dup 49 dX7_init_48 rfl rfl ?_
  refine z_iconst 50 dX7_init_49 vi3 rfl ?_
  refine z_bipush 52 dX7_init_50 vb17 rfl ?_
  refine c_iast 53 (162) 3 (by decide) rfl e14 (by decide) (by decide) (by decide) dX7_init_52 rfl fun E15 h15 e15 => ?_
  have I15 := I14.put h15 (Or.inr ⟨by decide, by decide⟩)
  have f15 := (h15 (158) (by decide)).trans f14
  refine z_dup 54 dX7_init_53 rfl rfl ?_
  refine z_iconst 55 dX7_init_54 vi4 rfl ?_
  refine z_bipush 57 dX7_init_55 vb25 rfl ?_
  refine c_iast 58 (162) 4 (by decide) rfl e15 (by decide) (by decide) (by decide) dX7_init_57 rfl fun E16 h16 e16 => ?_
  have I16 := I15.put h16 (Or.inr ⟨by decide, by decide⟩)
  have f16 := (h16 (158) (by decide)).trans f15
  refine z_dup 59 dX7_init_58 rfl rfl ?_
  refine z_iconst 60 dX7_init_59 vi5 rfl ?_
  refine z_bipush 62 dX7_init_60 vb28 rfl ?_
  refine c_iast 63 (162) 5 (by decide) rfl e16 (by decide) (by decide) (by decide) dX7_init_62 rfl fun E17 h17 e17 => ?_
  have I17 := I16.put h17 (Or.inr ⟨by decide, by decide⟩)
  have f17 := (h17 (158) (by decide)).trans f16
  refine z_dup 64 dX7_init_63 rfl rfl ?_
  refine z_bipush 66 dX7_init_64 vb6 rfl ?_
  refine z_bipush 68 dX7_init_66 vb32 rfl ?_
  refine c_iast 69 (162) 6 (by decide) rfl e17 (by decide) (by decide) (by decide) dX7_init_68 rfl fun E18 h18 e18 => ?_
  have I18 := I17.put h18 (Or.inr ⟨by decide, by decide⟩)
  have f18 := (h18 (158) (by decide)).trans f17
  have I19 : zI G A E (158) [] _ A10 E18 := I18.fin (fun k hk _ => by
    cases List.mem_singleton.mp hk
    exact zDone.I (sh162) e18 (by decide +kernel))
  refine c_putF 72 (158) I19.1 I19.q f18 fp_X7_19 (by decide) hoX7 rfl rfl (Nat.le_of_ble_eq_true rfl) dX7_init_69 rfl fun E20 h20 e20 => ?_
  have I20 := I19.put h20 (Or.inl rfl)
  have f20 : E20 (158) = .inr (7, [.ref (A10 (159)), .int 0, .int 0, .ref (A10 (160)), .int 0, .int 0, .int 0, .int 0, .int 0, .ref (A10 (161)), .int 0, .int 0, .int 0, .int 0, .int 0, .int 0, .int 0, .int 0, .ref (A10 (162)), .null, .int 0, .null, .int 0, .null, .null, .null, .int 0, .null, .null, .null, .null, .null, .int 0]) := e20
  refine z_aload_n 73 dX7_init_72 rfl rfl ?_
  refine z_bipush 75 dX7_init_73 vb32 rfl ?_
  refine c_newI 77 (M := 32) (by decide) (by decide) (Nat.le_of_ble_eq_true rfl) (Nat.le_of_ble_eq_true rfl) dX7_init_75 rfl fun A21 E21 g21 h21 e21 => ?_
  have I21 := I20.opn g21 h21
  have f22 : E21 (158) = .inr (7, [.ref (A21 (159)), .int 0, .int 0, .ref (A21 (160)), .int 0, .int 0, .int 0, .int 0, .int 0, .ref (A21 (161)), .int 0, .int 0, .int 0, .int 0, .int 0, .int 0, .int 0, .int 0, .ref (A21 (162)), .null, .int 0, .null, .int 0, .null, .null, .null, .int 0, .null, .null, .null, .null, .null, .int 0]) := by
    rw [h21 _ I20.1, f20, g21 (159) (by omega), g21 (160) (by omega), g21 (161) (by omega), g21 (162) (by omega)]
  refine z_dup 78 dX7_init_77 rfl rfl ?_
  refine z_iconst 79 dX7_init_78 vi0 rfl ?_
  refine z_bipush 81 dX7_init_79 vb112 rfl ?_
  refine c_iast 82 (163) 0 (by decide) rfl e21 (by decide) (by decide) (by decide) dX7_init_81 rfl fun E23 h23 e23 => ?_
  have I23 := I21.put h23 (Or.inr ⟨by decide, by decide⟩)
  have f23 := (h23 (158) (by decide)).trans f22
  refine z_dup 83 dX7_init_82 rfl rfl ?_
  refine z_iconst 84 dX7_init_83 vi1 rfl ?_
  refine z_bipush 86 dX7_init_84 vb108 rfl ?_
  refine c_iast 87 (163) 1 (by decide) rfl e23 (by decide) (by decide) (by decide) dX7_init_86 rfl fun E24 h24 e24 => ?_
  have I24 := I23.put h24 (Or.inr ⟨by decide, by decide⟩)
  have f24 := (h24 (158) (by decide)).trans f23
  refine z_dup 88 dX7_init_87 rfl rfl ?_
  refine z_iconst 89 dX7_init_88 vi2 rfl ?_
  refine z_bipush 91 dX7_init_89 vb97 rfl ?_
  refine c_iast 92 (163) 2 (by decide) rfl e24 (by decide) (by decide) (by decide) dX7_init_91 rfl fun E25 h25 e25 => ?_
  have I25 := I24.put h25 (Or.inr ⟨by decide, by decide⟩)
  have f25 := (h25 (158) (by decide)).trans f24
  refine z_dup 93 dX7_init_92 rfl rfl ?_
  refine z_iconst 94 dX7_init_93 vi3 rfl ?_
  refine z_bipush 96 dX7_init_94 vb105 rfl ?_
  refine c_iast 97 (163) 3 (by decide) rfl e25 (by decide) (by decide) (by decide) dX7_init_96 rfl fun E26 h26 e26 => ?_
  have I26 := I25.put h26 (Or.inr ⟨by decide, by decide⟩)
  have f26 := (h26 (158) (by decide)).trans f25
  refine z_dup 98 dX7_init_97 rfl rfl ?_
  refine z_iconst 99 dX7_init_98 vi4 rfl ?_
  refine z_bipush 101 dX7_init_99 vb110 rfl ?_
  refine c_iast 102 (163) 4 (by decide) rfl e26 (by decide) (by decide) (by decide) dX7_init_101 rfl fun E27 h27 e27 => ?_
  have I27 := I26.put h27 (Or.inr ⟨by decide, by decide⟩)
  have f27 := (h27 (158) (by decide)).trans f26
  refine z_dup 103 dX7_init_102 rfl rfl ?_
  refine z_iconst 104 dX7_init_103 vi5 rfl ?_
  refine z_bipush 106 dX7_init_104 vb108 rfl ?_
  refine c_iast 107 (163) 5 (by decide) rfl e27 (by decide) (by decide) (by decide) dX7_init_106 rfl fun E28 h28 e28 => ?_
  have I28 := I27.put h28 (Or.inr ⟨by decide, by decide⟩)
  have f28 := (h28 (158) (by decide)).trans f27
  refine z_dup 108 dX7_init_107 rfl rfl ?_
  refine z_bipush 110 dX7_init_108 vb6 rfl ?_
  refine z_bipush 112 dX7_init_110 vb97 rfl ?_
  refine c_iast 113 (163) 6 (by decide) rfl e28 (by decide) (by decide) (by decide) dX7_init_112 rfl fun E29 h29 e29 => ?_
  have I29 := I28.put h29 (Or.inr ⟨by decide, by decide⟩)
  have f29 := (h29 (158) (by decide)).trans f28
  refine z_dup 114 dX7_init_113 rfl rfl ?_
  refine z_bipush 116 dX7_init_114 vb7 rfl ?_
  refine z_bipush 118 dX7_init_116 vb115 rfl ?_
  refine c_iast 119 (163) 7 (by decide) rfl e29 (by decide) (by decide) (by decide) dX7_init_118 rfl fun E30 h30 e30 => ?_
  have I30 := I29.put h30 (Or.inr ⟨by decide, by decide⟩)
  have f30 := (h30 (158) (by decide)).trans f29
  refine z_dup 120 dX7_init_119 rfl rfl ?_
  refine z_bipush 122 dX7_init_120 vb8 rfl ?_
  refine z_bipush 124 dX7_init_122 vb116 rfl ?_
  refine c_iast 125 (163) 8 (by decide) rfl e30 (by decide) (by decide) (by decide) dX7_init_124 rfl fun E31 h31 e31 => ?_
  have I31 := I30.put h31 (Or.inr ⟨by decide, by decide⟩)
  have f31 := (h31 (158) (by decide)).trans f30
  refine z_dup 126 dX7_init_125 rfl rfl ?_
  refine z_bipush 128 dX7_init_126 vb9 rfl ?_
  refine z_bipush 130 dX7_init_128 vb105 rfl ?_
  refine c_iast 131 (163) 9 (by decide) rfl e31 (by decide) (by decide) (by decide) dX7_init_130 rfl fun E32 h32 e32 => ?_
  have I32 := I31.put h32 (Or.inr ⟨by decide, by decide⟩)
  have f32 := (h32 (158) (by decide)).trans f31
  refine z_dup 132 dX7_init_131 rfl rfl ?_
  refine z_bipush 134 dX7_init_132 vb10 rfl ?_
  refine z_bipush 136 dX7_init_134 vb110 rfl ?_
  refine c_iast 137 (163) 10 (by decide) rfl e32 (by decide) (by decide) (by decide) dX7_init_136 rfl fun E33 h33 e33 => ?_
  have I33 := I32.put h33 (Or.inr ⟨by decide, by decide⟩)
  have f33 := (h33 (158) (by decide)).trans f32
  refine z_dup 138 dX7_init_137 rfl rfl ?_
  refine z_bipush 140 dX7_init_138 vb11 rfl ?_
  refine z_bipush 142 dX7_init_140 vb103 rfl ?_
  refine c_iast 143 (163) 11 (by decide) rfl e33 (by decide) (by decide) (by decide) dX7_init_142 rfl fun E34 h34 e34 => ?_
  have I34 := I33.put h34 (Or.inr ⟨by decide, by decide⟩)
  have f34 := (h34 (158) (by decide)).trans f33
  refine z_dup 144 dX7_init_143 rfl rfl ?_
  refine z_bipush 146 dX7_init_144 vb12 rfl ?_
  refine z_bipush 148 dX7_init_146 vb114 rfl ?_
  refine c_iast 149 (163) 12 (by decide) rfl e34 (by decide) (by decide) (by decide) dX7_init_148 rfl fun E35 h35 e35 => ?_
  have I35 := I34.put h35 (Or.inr ⟨by decide, by decide⟩)
  have f35 := (h35 (158) (by decide)).trans f34
  refine z_dup 150 dX7_init_149 rfl rfl ?_
  refine z_bipush 152 dX7_init_150 vb13 rfl ?_
  refine z_bipush 154 dX7_init_152 vb111 rfl ?_
  refine c_iast 155 (163) 13 (by decide) rfl e35 (by decide) (by decide) (by decide) dX7_init_154 rfl fun E36 h36 e36 => ?_
  have I36 := I35.put h36 (Or.inr ⟨by decide, by decide⟩)
  have f36 := (h36 (158) (by decide)).trans f35
  refine z_dup 156 dX7_init_155 rfl rfl ?_
  refine z_bipush 158 dX7_init_156 vb14 rfl ?_
  refine z_bipush 160 dX7_init_158 vb121 rfl ?_
  refine c_iast 161 (163) 14 (by decide) rfl e36 (by decide) (by decide) (by decide) dX7_init_160 rfl fun E37 h37 e37 => ?_
  have I37 := I36.put h37 (Or.inr ⟨by decide, by decide⟩)
  have f37 := (h37 (158) (by decide)).trans f36
  refine z_dup 162 dX7_init_161 rfl rfl ?_
  refine z_bipush 164 dX7_init_162 vb15 rfl ?_
  refine z_bipush 166 dX7_init_164 vb97 rfl ?_
  refine c_iast 167 (163) 15 (by decide) rfl e37 (by decide) (by decide) (by decide) dX7_init_166 rfl fun E38 h38 e38 => ?_
  have I38 := I37.put h38 (Or.inr ⟨by decide, by decide⟩)
  have f38 := (h38 (158) (by decide)).trans f37
  refine z_dup 168 dX7_init_167 rfl rfl ?_
  refine z_bipush 170 dX7_init_168 vb16 rfl ?_
  refine z_bipush 172 dX7_init_170 vb108 rfl ?_
  refine c_iast 173 (163) 16 (by decide) rfl e38 (by decide) (by decide) (by decide) dX7_init_172 rfl fun E39 h39 e39 => ?_
  have I39 := I38.put h39 (Or.inr ⟨by decide, by decide⟩)
  have f39 := (h39 (158) (by decide)).trans f38
  refine z_dup 174 dX7_init_173 rfl rfl ?_
  refine z_bipush 176 dX7_init_174 vb17 rfl ?_
  refine z_bipush 178 dX7_init_176 vb102 rfl ?_
  refine c_iast 179 (163) 17 (by decide) rfl e39 (by decide) (by decide) (by decide) dX7_init_178 rfl fun E40 h40 e40 => ?_
  have I40 := I39.put h40 (Or.inr ⟨by decide, by decide⟩)
  have f40 := (h40 (158) (by decide)).trans f39
  refine z_dup 180 dX7_init_179 rfl rfl ?_
  refine z_bipush 182 dX7_init_180 vb18 rfl ?_
  refine z_bipush 184 dX7_init_182 vb117 rfl ?_
  refine c_iast 185 (163) 18 (by decide) rfl e40 (by decide) (by decide) (by decide) dX7_init_184 rfl fun E41 h41 e41 => ?_
  have I41 := I40.put h41 (Or.inr ⟨by decide, by decide⟩)
  have f41 := (h41 (158) (by decide)).trans f40
  refine z_dup 186 dX7_init_185 rfl rfl ?_
  refine z_bipush 188 dX7_init_186 vb19 rfl ?_
  refine z_bipush 190 dX7_init_188 vb103 rfl ?_
  refine c_iast 191 (163) 19 (by decide) rfl e41 (by decide) (by decide) (by decide) dX7_init_190 rfl fun E42 h42 e42 => ?_
  have I42 := I41.put h42 (Or.inr ⟨by decide, by decide⟩)
  have f42 := (h42 (158) (by decide)).trans f41
  refine z_dup 192 dX7_init_191 rfl rfl ?_
  refine z_bipush 194 dX7_init_192 vb20 rfl ?_
  refine z_bipush 196 dX7_init_194 vb105 rfl ?_
  refine c_iast 197 (163) 20 (by decide) rfl e42 (by decide) (by decide) (by decide) dX7_init_196 rfl fun E43 h43 e43 => ?_
  have I43 := I42.put h43 (Or.inr ⟨by decide, by decide⟩)
  have f43 := (h43 (158) (by decide)).trans f42
  refine z_dup 198 dX7_init_197 rfl rfl ?_
  refine z_bipush 200 dX7_init_198 vb21 rfl ?_
  refine z_bipush 202 dX7_init_200 vb116 rfl ?_
  refine c_iast 203 (163) 21 (by decide) rfl e43 (by decide) (by decide) (by decide) dX7_init_202 rfl fun E44 h44 e44 => ?_
  have I44 := I43.put h44 (Or.inr ⟨by decide, by decide⟩)
  have f44 := (h44 (158) (by decide)).trans f43
  refine z_dup 204 dX7_init_203 rfl rfl ?_
  refine z_bipush 206 dX7_init_204 vb22 rfl ?_
  refine z_bipush 208 dX7_init_206 vb105 rfl ?_
  refine c_iast 209 (163) 22 (by decide) rfl e44 (by decide) (by decide) (by decide) dX7_init_208 rfl fun E45 h45 e45 => ?_
  have I45 := I44.put h45 (Or.inr ⟨by decide, by decide⟩)
  have f45 := (h45 (158) (by decide)).trans f44
  refine z_dup 210 dX7_init_209 rfl rfl ?_
  refine z_bipush 212 dX7_init_210 vb23 rfl ?_
  refine z_bipush 214 dX7_init_212 vb118 rfl ?_
  refine c_iast 215 (163) 23 (by decide) rfl e45 (by decide) (by decide) (by decide) dX7_init_214 rfl fun E46 h46 e46 => ?_
  have I46 := I45.put h46 (Or.inr ⟨by decide, by decide⟩)
  have f46 := (h46 (158) (by decide)).trans f45
  refine z_dup 216 dX7_init_215 rfl rfl ?_
  refine z_bipush 218 dX7_init_216 vb24 rfl ?_
  refine z_bipush 220 dX7_init_218 vb101 rfl ?_
  refine c_iast 221 (163) 24 (by decide) rfl e46 (by decide) (by decide) (by decide) dX7_init_220 rfl fun E47 h47 e47 => ?_
  have I47 := I46.put h47 (Or.inr ⟨by decide, by decide⟩)
  have f47 := (h47 (158) (by decide)).trans f46
  refine z_dup 222 dX7_init_221 rfl rfl ?_
  refine z_bipush 224 dX7_init_222 vb25 rfl ?_
  refine z_bipush 226 dX7_init_224 vb111 rfl ?_
  refine c_iast 227 (163) 25 (by decide) rfl e47 (by decide) (by decide) (by decide) dX7_init_226 rfl fun E48 h48 e48 => ?_
  have I48 := I47.put h48 (Or.inr ⟨by decide, by decide⟩)
  have f48 := (h48 (158) (by decide)).trans f47
  refine z_dup 228 dX7_init_227 rfl rfl ?_
  refine z_bipush 230 dX7_init_228 vb26 rfl ?_
  refine z_bipush 232 dX7_init_230 vb110 rfl ?_
  refine c_iast 233 (163) 26 (by decide) rfl e48 (by decide) (by decide) (by decide) dX7_init_232 rfl fun E49 h49 e49 => ?_
  have I49 := I48.put h49 (Or.inr ⟨by decide, by decide⟩)
  have f49 := (h49 (158) (by decide)).trans f48
  refine z_dup 234 dX7_init_233 rfl rfl ?_
  refine z_bipush 236 dX7_init_234 vb27 rfl ?_
  refine z_bipush 238 dX7_init_236 vb101 rfl ?_
  refine c_iast 239 (163) 27 (by decide) rfl e49 (by decide) (by decide) (by decide) dX7_init_238 rfl fun E50 h50 e50 => ?_
  have I50 := I49.put h50 (Or.inr ⟨by decide, by decide⟩)
  have f50 := (h50 (158) (by decide)).trans f49
  refine z_dup 240 dX7_init_239 rfl rfl ?_
  refine z_bipush 242 dX7_init_240 vb28 rfl ?_
  refine z_bipush 244 dX7_init_242 vb108 rfl ?_
  refine c_iast 245 (163) 28 (by decide) rfl e50 (by decide) (by decide) (by decide) dX7_init_244 rfl fun E51 h51 e51 => ?_
  have I51 := I50.put h51 (Or.inr ⟨by decide, by decide⟩)
  have f51 := (h51 (158) (by decide)).trans f50
  refine z_dup 246 dX7_init_245 rfl rfl ?_
  refine z_bipush 248 dX7_init_246 vb29 rfl ?_
  refine z_bipush 250 dX7_init_248 vb101 rfl ?_
  refine c_iast 251 (163) 29 (by decide) rfl e51 (by decide) (by decide) (by decide) dX7_init_250 rfl fun E52 h52 e52 => ?_
  have I52 := I51.put h52 (Or.inr ⟨by decide, by decide⟩)
  have f52 := (h52 (158) (by decide)).trans f51
  refine z_dup 252 dX7_init_251 rfl rfl ?_
  refine z_bipush 254 dX7_init_252 vb30 rfl ?_
  refine z_bipush 256 dX7_init_254 vb110 rfl ?_
  refine c_iast 257 (163) 30 (by decide) rfl e52 (by decide) (by decide) (by decide) dX7_init_256 rfl fun E53 h53 e53 => ?_
  have I53 := I52.put h53 (Or.inr ⟨by decide, by decide⟩)
  have f53 := (h53 (158) (by decide)).trans f52
  refine z_dup 258 dX7_init_257 rfl rfl ?_
  refine z_bipush 260 dX7_init_258 vb31 rfl ?_
  refine z_bipush 262 dX7_init_260 vb116 rfl ?_
  refine c_iast 263 (163) 31 (by decide) rfl e53 (by decide) (by decide) (by decide) dX7_init_262 rfl fun E54 h54 e54 => ?_
  have I54 := I53.put h54 (Or.inr ⟨by decide, by decide⟩)
  have f54 := (h54 (158) (by decide)).trans f53
  have I55 : zI G A E (158) [] _ A21 E54 := I54.fin (fun k hk _ => by
    cases List.mem_singleton.mp hk
    exact zDone.I (sh163) e54 (by decide +kernel))
  refine c_putF 266 (158) I55.1 I55.q f54 fp_X7_22 (by decide) hoX7 rfl rfl (Nat.le_of_ble_eq_true rfl) dX7_init_263 rfl fun E56 h56 e56 => ?_
  have I56 := I55.put h56 (Or.inl rfl)
  have f56 : E56 (158) = .inr (7, [.ref (A21 (159)), .int 0, .int 0, .ref (A21 (160)), .int 0, .int 0, .int 0, .int 0, .int 0, .ref (A21 (161)), .int 0, .int 0, .int 0, .int 0, .int 0, .int 0, .int 0, .int 0, .ref (A21 (162)), .ref (A21 (163)), .int 0, .null, .int 0, .null, .null, .null, .int 0, .null, .null, .null, .null, .null, .int 0]) := e56
  refine z_aload_n 267 dX7_init_266 rfl rfl ?_
  refine z_iconst 268 dX7_init_267 vi4 rfl ?_
  refine c_newI 270 (M := 4) (by decide) (by decide) (Nat.le_of_ble_eq_true rfl) (Nat.le_of_ble_eq_true rfl) dX7_init_268 rfl fun A57 E57 g57 h57 e57 => ?_
  have I57 := I56.arr g57 h57 (zDone.I (sh164) e57 (fun j hj => (s0_0 (by omega) (by omega) (by omega) (by omega) : s0 _ = 0).symm))
  have f58 : E57 (158) = .inr (7, [.ref (A57 (159)), .int 0, .int 0, .ref (A57 (160)), .int 0, .int 0, .int 0, .int 0, .int 0, .ref (A57 (161)), .int 0, .int 0, .int 0, .int 0, .int 0, .int 0, .int 0, .int 0, .ref (A57 (162)), .ref (A57 (163)), .int 0, .null, .int 0, .null, .null, .null, .int 0, .null, .null, .null, .null, .null, .int 0]) := by
    rw [h57 _ I56.1, f56, g57 (159) (by omega), g57 (160) (by omega), g57 (161) (by omega), g57 (162) (by omega), g57 (163) (by omega)]
  refine c_putF 273 (158) I57.1 I57.q f58 fp_X7_25 (by decide) hoX7 rfl rfl (Nat.le_of_ble_eq_true rfl) dX7_init_270 rfl fun E59 h59 e59 => ?_
  have I59 := I57.put h59 (Or.inl rfl)
  have f59 : E59 (158) = .inr (7, [.ref (A57 (159)), .int 0, .int 0, .ref (A57 (160)), .int 0, .int 0, .int 0, .int 0, .int 0, .ref (A57 (161)), .int 0, .int 0, .int 0, .int 0, .int 0, .int 0, .int 0, .int 0, .ref (A57 (162)), .ref (A57 (163)), .int 0, .ref (A57 (164)), .int 0, .null, .null, .null, .int 0, .null, .null, .null, .null, .null, .int 0]) := e59
  refine z_aload_n 274 dX7_init_273 rfl rfl ?_
  refine z_iconst 275 dX7_init_274 vi5 rfl ?_
  refine c_newI 277 (M := 5) (by decide) (by decide) (Nat.le_of_ble_eq_true rfl) (Nat.le_of_ble_eq_true rfl) dX7_init_275 rfl fun A60 E60 g60 h60 e60 => ?_
  have I60 := I59.arr g60 h60 (zDone.I (sh165) e60 (fun j hj => (s0_0 (by omega) (by omega) (by omega) (by omega) : s0 _ = 0).symm))
  have f61 : E60 (158) = .inr (7, [.ref (A60 (159)), .int 0, .int 0, .ref (A60 (160)), .int 0, .int 0, .int 0, .int 0, .int 0, .ref (A60 (161)), .int 0, .int 0, .int 0, .int 0, .int 0, .int 0, .int 0, .int 0, .ref (A60 (162)), .ref (A60 (163)), .int 0, .ref (A60 (164)), .int 0, .null, .null, .null, .int 0, .null, .null, .null, .null, .null, .int 0]) := by
    rw [h60 _ I59.1, f59, g60 (159) (by omega), g60 (160) (by omega), g60 (161) (by omega), g60 (162) (by omega), g60 (163) (by omega), g60 (164) (by omega)]
  refine c_putF 280 (158) I60.1 I60.q f61 fp_X7_28 (by decide) hoX7 rfl rfl (Nat.le_of_ble_eq_true rfl) dX7_init_277 rfl fun E62 h62 e62 => ?_
  have I62 := I60.put h62 (Or.inl rfl)
  have f62 : E62 (158) = .inr (7, [.ref (A60 (159)), .int 0, .int 0, .ref (A60 (160)), .int 0, .int 0, .int 0, .int 0, .int 0, .ref (A60 (161)), .int 0, .int 0, .int 0, .int 0, .int 0, .int 0, .int 0, .int 0, .ref (A60 (162)), .ref (A60 (163)), .int 0, .ref (A60 (164)), .int 0, .ref (A60 (165)), .null, .null, .int 0, .null, .null, .null, .null, .null, .int 0]) := e62
  refine z_aload_n 281 dX7_init_280 rfl rfl ?_
  refine z_iconst 282 dX7_init_281 vi5 rfl ?_
  refine c_newI 284 (M := 5) (by decide) (by decide) (Nat.le_of_ble_eq_true rfl) (Nat.le_of_ble_eq_true rfl) dX7_init_282 rfl fun A63 E63 g63 h63 e63 => ?_
  have I63 := I62.arr g63 h63 (zDone.I (sh166) e63 (fun j hj => (s0_0 (by omega) (by omega) (by omega) (by omega) : s0 _ = 0).symm))
  have f64 : E63 (158) = .inr (7, [.ref (A63 (159)), .int 0, .int 0, .ref (A63 (160)), .int 0, .int 0, .int 0, .int 0, .int 0, .ref (A63 (161)), .int 0, .int 0, .int 0, .int 0, .int 0, .int 0, .int 0, .int 0, .ref (A63 (162)), .ref (A63 (163)), .int 0, .ref (A63 (164)), .int 0, .ref (A63 (165)), .null, .null, .int 0, .null, .null, .null, .null, .null, .int 0]) := by
    rw [h63 _ I62.1, f62, g63 (159) (by omega), g63 (160) (by omega), g63 (161) (by omega), g63 (162) (by omega), g63 (163) (by omega), g63 (164) (by omega), g63 (165) (by omega)]
  refine c_putF 287 (158) I63.1 I63.q f64 fp_X7_31 (by decide) hoX7 rfl rfl (Nat.le_of_ble_eq_true rfl) dX7_init_284 rfl fun E65 h65 e65 => ?_
  have I65 := I63.put h65 (Or.inl rfl)
  have f65 : E65 (158) = .inr (7, [.ref (A63 (159)), .int 0, .int 0, .ref (A63 (160)), .int 0, .int 0, .int 0, .int 0, .int 0, .ref (A63 (161)), .int 0, .int 0, .int 0, .int 0, .int 0, .int 0, .int 0, .int 0, .ref (A63 (162)), .ref (A63 (163)), .int 0, .ref (A63 (164)), .int 0, .ref (A63 (165)), .ref (A63 (166)), .null, .int 0, .null, .null, .null, .null, .null, .int 0]) := e65
  refine z_aload_n 288 dX7_init_287 rfl rfl ?_
  refine z_bipush 290 dX7_init_288 vb18 rfl ?_
  refine c_newI 292 (M := 18) (by decide) (by decide) (Nat.le_of_ble_eq_true rfl) (Nat.le_of_ble_eq_true rfl) dX7_init_290 rfl fun A66 E66 g66 h66 e66 => ?_
  have I66 := I65.arr g66 h66 (zDone.I (sh167) e66 (fun j hj => (s0_0 (by omega) (by omega) (by omega) (by omega) : s0 _ = 0).symm))
  have f67 : E66 (158) = .inr (7, [.ref (A66 (159)), .int 0, .int 0, .ref (A66 (160)), .int 0, .int 0, .int 0, .int 0, .int 0, .ref (A66 (161)), .int 0, .int 0, .int 0, .int 0, .int 0, .int 0, .int 0, .int 0, .ref (A66 (162)), .ref (A66 (163)), .int 0, .ref (A66 (164)), .int 0, .ref (A66 (165)), .ref (A66 (166)), .null, .int 0, .null, .null, .null, .null, .null, .int 0]) := by
    rw [h66 _ I65.1, f65, g66 (159) (by omega), g66 (160) (by omega), g66 (161) (by omega), g66 (162) (by omega), g66 (163) (by omega), g66 (164) (by omega), g66 (165) (by omega), g66 (166) (by omega)]
  refine c_putF 295 (158) I66.1 I66.q f67 fp_X7_34 (by decide) hoX7 rfl rfl (Nat.le_of_ble_eq_true rfl) dX7_init_292 rfl fun E68 h68 e68 => ?_
  have I68 := I66.put h68 (Or.inl rfl)
  have f68 : E68 (158) = .inr (7, [.ref (A66 (159)), .int 0, .int 0, .ref (A66 (160)), .int 0, .int 0, .int 0, .int 0, .int 0, .ref (A66 (161)), .int 0, .int 0, .int 0, .int 0, .int 0, .int 0, .int 0, .int 0, .ref (A66 (162)), .ref (A66 (163)), .int 0, .ref (A66 (164)), .int 0, .ref (A66 (165)), .ref (A66 (166)), .ref (A66 (167)), .int 0, .null, .null, .null, .null, .null, .int 0]) := e68
  refine z_aload_n 296 dX7_init_295 rfl rfl ?_
  refine z_sipush 299 dX7_init_296 vs336 rfl ?_
  refine c_newI 301 (M := 336) (by decide) (by decide) (Nat.le_of_ble_eq_true rfl) (Nat.le_of_ble_eq_true rfl) dX7_init_299 rfl fun A69 E69 g69 h69 e69 => ?_
  have I69 := I68.arr g69 h69 (zDone.I (sh168) e69 (fun j hj => (s0_0 (by omega) (by omega) (by omega) (by omega) : s0 _ = 0).symm))
  have f70 : E69 (158) = .inr (7, [.ref (A69 (159)), .int 0, .int 0, .ref (A69 (160)), .int 0, .int 0, .int 0, .int 0, .int 0, .ref (A69 (161)), .int 0, .int 0, .int 0, .int 0, .int 0, .int 0, .int 0, .int 0, .ref (A69 (162)), .ref (A69 (163)), .int 0, .ref (A69 (164)), .int 0, .ref (A69 (165)), .ref (A69 (166)), .ref (A69 (167)), .int 0, .null, .null, .null, .null, .null, .int 0]) := by
    rw [h69 _ I68.1, f68, g69 (159) (by omega), g69 (160) (by omega), g69 (161) (by omega), g69 (162) (by omega), g69 (163) (by omega), g69 (164) (by omega), g69 (165) (by omega), g69 (166) (by omega), g69 (167) (by omega)]
  refine c_putF 304 (158) I69.1 I69.q f70 fp_X7_37 (by decide) hoX7 rfl rfl (Nat.le_of_ble_eq_true rfl) dX7_init_301 rfl fun E71 h71 e71 => ?_
  have I71 := I69.put h71 (Or.inl rfl)
  have f71 : E71 (158) = .inr (7, [.ref (A69 (159)), .int 0, .int 0, .ref (A69 (160)), .int 0, .int 0, .int 0, .int 0, .int 0, .ref (A69 (161)), .int 0, .int 0, .int 0, .int 0, .int 0, .int 0, .int 0, .int 0, .ref (A69 (162)), .ref (A69 (163)), .int 0, .ref (A69 (164)), .int 0, .ref (A69 (165)), .ref (A69 (166)), .ref (A69 (167)), .int 0, .ref (A69 (168)), .null, .null, .null, .null, .int 0]) := e71
  refine z_aload_n 305 dX7_init_304 rfl rfl ?_
  refine z_iconst 306 dX7_init_305 vi2 rfl ?_
  refine c_newZ 308 (M := 2) (by decide) (by decide) (Nat.le_of_ble_eq_true rfl) (Nat.le_of_ble_eq_true rfl) dX7_init_306 rfl fun A72 E72 g72 h72 e72 => ?_
  have I72 := I71.arr g72 h72 (zDone.Z (sh169) e72 (fun j hj => s0_0 (by omega) (by omega) (by omega) (by omega)))
  have f73 : E72 (158) = .inr (7, [.ref (A72 (159)), .int 0, .int 0, .ref (A72 (160)), .int 0, .int 0, .int 0, .int 0, .int 0, .ref (A72 (161)), .int 0, .int 0, .int 0, .int 0, .int 0, .int 0, .int 0, .int 0, .ref (A72 (162)), .ref (A72 (163)), .int 0, .ref (A72 (164)), .int 0, .ref (A72 (165)), .ref (A72 (166)), .ref (A72 (167)), .int 0, .ref (A72 (168)), .null, .null, .null, .null, .int 0]) := by
    rw [h72 _ I71.1, f71, g72 (159) (by omega), g72 (160) (by omega), g72 (161) (by omega), g72 (162) (by omega), g72 (163) (by omega), g72 (164) (by omega), g72 (165) (by omega), g72 (166) (by omega), g72 (167) (by omega), g72 (168) (by omega)]
  refine c_putF 311 (158) I72.1 I72.q f73 fp_X7_40 (by decide) hoX7 rfl rfl (Nat.le_of_ble_eq_true rfl) dX7_init_308 rfl fun E74 h74 e74 => ?_
  have I74 := I72.put h74 (Or.inl rfl)
  have f74 : E74 (158) = .inr (7, [.ref (A72 (159)), .int 0, .int 0, .ref (A72 (160)), .int 0, .int 0, .int 0, .int 0, .int 0, .ref (A72 (161)), .int 0, .int 0, .int 0, .int 0, .int 0, .int 0, .int 0, .int 0, .ref (A72 (162)), .ref (A72 (163)), .int 0, .ref (A72 (164)), .int 0, .ref (A72 (165)), .ref (A72 (166)), .ref (A72 (167)), .int 0, .ref (A72 (168)), .ref (A72 (169)), .null, .null, .null, .int 0]) := e74
  refine z_aload_n 312 dX7_init_311 rfl rfl ?_
  refine z_iconst 313 dX7_init_312 vi4 rfl ?_
  refine c_newI 315 (M := 4) (by decide) (by decide) (Nat.le_of_ble_eq_true rfl) (Nat.le_of_ble_eq_true rfl) dX7_init_313 rfl fun A75 E75 g75 h75 e75 => ?_
  have I75 := I74.opn g75 h75
  have f76 : E75 (158) = .inr (7, [.ref (A75 (159)), .int 0, .int 0, .ref (A75 (160)), .int 0, .int 0, .int 0, .int 0, .int 0, .ref (A75 (161)), .int 0, .int 0, .int 0, .int 0, .int 0, .int 0, .int 0, .int 0, .ref (A75 (162)), .ref (A75 (163)), .int 0, .ref (A75 (164)), .int 0, .ref (A75 (165)), .ref (A75 (166)), .ref (A75 (167)), .int 0, .ref (A75 (168)), .ref (A75 (169)), .null, .null, .null, .int 0]) := by
    rw [h75 _ I74.1, f74, g75 (159) (by omega), g75 (160) (by omega), g75 (161) (by omega), g75 (162) (by omega), g75 (163) (by omega), g75 (164) (by omega), g75 (165) (by omega), g75 (166) (by omega), g75 (167) (by omega), g75 (168) (by omega), g75 (169) (by omega)]
  refine z_dup 316 dX7_init_315 rfl rfl ?_
  refine z_iconst 317 dX7_init_316 vi0 rfl ?_
  refine z_bipush 319 dX7_init_317 vbm4 rfl ?_
  refine c_iast 320 (170) 0 (by decide) rfl e75 (by decide) (by decide) (by decide) dX7_init_319 rfl fun E77 h77 e77 => ?_
  have I77 := I75.put h77 (Or.inr ⟨by decide, by decide⟩)
  have f77 := (h77 (158) (by decide)).trans f76
  refine z_dup 321 dX7_init_320 rfl rfl ?_
  refine z_iconst 322 dX7_init_321 vi1 rfl ?_
  refine z_bipush 324 dX7_init_322 vbm4 rfl ?_
  refine c_iast 325 (170) 1 (by decide) rfl e77 (by decide) (by decide) (by decide) dX7_init_324 rfl fun E78 h78 e78 => ?_
  have I78 := I77.put h78 (Or.inr ⟨by decide, by decide⟩)
  have f78 := (h78 (158) (by decide)).trans f77
  refine z_dup 326 dX7_init_325 rfl rfl ?_
  refine z_iconst 327 dX7_init_326 vi2 rfl ?_
  refine z_bipush 329 dX7_init_327 vbm4 rfl ?_
  refine c_iast 330 (170) 2 (by decide) rfl e78 (by decide) (by decide) (by decide) dX7_init_329 rfl fun E79 h79 e79 => ?_
  have I79 := I78.put h79 (Or.inr ⟨by decide, by decide⟩)
  have f79 := (h79 (158) (by decide)).trans f78
  refine z_dup 331 dX7_init_330 rfl rfl ?_
  refine z_iconst 332 dX7_init_331 vi3 rfl ?_
  refine z_bipush 334 dX7_init_332 vbm4 rfl ?_
  refine c_iast 335 (170) 3 (by decide) rfl e79 (by decide) (by decide) (by decide) dX7_init_334 rfl fun E80 h80 e80 => ?_
  have I80 := I79.put h80 (Or.inr ⟨by decide, by decide⟩)
  have f80 := (h80 (158) (by decide)).trans f79
  have I81 : zI G A E (158) [] _ A75 E80 := I80.fin (fun k hk _ => by
    cases List.mem_singleton.mp hk
    exact zDone.I (sh170) e80 (by decide +kernel))
  refine c_putF 338 (158) I81.1 I81.q f80 fp_X7_44 (by decide) hoX7 rfl rfl (Nat.le_of_ble_eq_true rfl) dX7_init_335 rfl fun E82 h82 e82 => ?_
  have I82 := I81.put h82 (Or.inl rfl)
  have f82 : E82 (158) = .inr (7, [.ref (A75 (159)), .int 0, .int 0, .ref (A75 (160)), .int 0, .int 0, .int 0, .int 0, .int 0, .ref (A75 (161)), .int 0, .int 0, .int 0, .int 0, .int 0, .int 0, .int 0, .int 0, .ref (A75 (162)), .ref (A75 (163)), .int 0, .ref (A75 (164)), .int 0, .ref (A75 (165)), .ref (A75 (166)), .ref (A75 (167)), .int 0, .ref (A75 (168)), .ref (A75 (169)), .ref (A75 (170)), .null, .null, .int 0]) := e82
  refine z_aload_n 339 dX7_init_338 rfl rfl ?_
  refine z_iconst 340 dX7_init_339 vi4 rfl ?_
  refine c_newI 342 (M := 4) (by decide) (by decide) (Nat.le_of_ble_eq_true rfl) (Nat.le_of_ble_eq_true rfl) dX7_init_340 rfl fun A83 E83 g83 h83 e83 => ?_
  have I83 := I82.arr g83 h83 (zDone.I (sh171) e83 (fun j hj => (s0_0 (by omega) (by omega) (by omega) (by omega) : s0 _ = 0).symm))
  have f84 : E83 (158) = .inr (7, [.ref (A83 (159)), .int 0, .int 0, .ref (A83 (160)), .int 0, .int 0, .int 0, .int 0, .int 0, .ref (A83 (161)), .int 0, .int 0, .int 0, .int 0, .int 0, .int 0, .int 0, .int 0, .ref (A83 (162)), .ref (A83 (163)), .int 0, .ref (A83 (164)), .int 0, .ref (A83 (165)), .ref (A83 (166)), .ref (A83 (167)), .int 0, .ref (A83 (168)), .ref (A83 (169)), .ref (A83 (170)), .null, .null, .int 0]) := by
    rw [h83 _ I82.1, f82, g83 (159) (by omega), g83 (160) (by omega), g83 (161) (by omega), g83 (162) (by omega), g83 (163) (by omega), g83 (164) (by omega), g83 (165) (by omega), g83 (166) (by omega), g83 (167) (by omega), g83 (168) (by omega), g83 (169) (by omega), g83 (170) (by omega)]
  refine c_putF 345 (158) I83.1 I83.q f84 fp_X7_47 (by decide) hoX7 rfl rfl (Nat.le_of_ble_eq_true rfl) dX7_init_342 rfl fun E85 h85 e85 => ?_
  have I85 := I83.put h85 (Or.inl rfl)
  have f85 : E85 (158) = .inr (7, [.ref (A83 (159)), .int 0, .int 0, .ref (A83 (160)), .int 0, .int 0, .int 0, .int 0, .int 0, .ref (A83 (161)), .int 0, .int 0, .int 0, .int 0, .int 0, .int 0, .int 0, .int 0, .ref (A83 (162)), .ref (A83 (163)), .int 0, .ref (A83 (164)), .int 0, .ref (A83 (165)), .ref (A83 (166)), .ref (A83 (167)), .int 0, .ref (A83 (168)), .ref (A83 (169)), .ref (A83 (170)), .ref (A83 (171)), .null, .int 0]) := e85
  refine z_aload_n 346 dX7_init_345 rfl rfl ?_
  refine z_sipush 349 dX7_init_346 vs160 rfl ?_
  refine c_newI 351 (M := 160) (by decide) (by decide) (Nat.le_of_ble_eq_true rfl) (Nat.le_of_ble_eq_true rfl) dX7_init_349 rfl fun A86 E86 g86 h86 e86 => ?_
  have I86 := I85.arr g86 h86 (zDone.I (sh172) e86 (fun j hj => (s0_0 (by omega) (by omega) (by omega) (by omega) : s0 _ = 0).symm))
  have f87 : E86 (158) = .inr (7, [.ref (A86 (159)), .int 0, .int 0, .ref (A86 (160)), .int 0, .int 0, .int 0, .int 0, .int 0, .ref (A86 (161)), .int 0, .int 0, .int 0, .int 0, .int 0, .int 0, .int 0, .int 0, .ref (A86 (162)), .ref (A86 (163)), .int 0, .ref (A86 (164)), .int 0, .ref (A86 (165)), .ref (A86 (166)), .ref (A86 (167)), .int 0, .ref (A86 (168)), .ref (A86 (169)), .ref (A86 (170)), .ref (A86 (171)), .null, .int 0]) := by
    rw [h86 _ I85.1, f85, g86 (159) (by omega), g86 (160) (by omega), g86 (161) (by omega), g86 (162) (by omega), g86 (163) (by omega), g86 (164) (by omega), g86 (165) (by omega), g86 (166) (by omega), g86 (167) (by omega), g86 (168) (by omega), g86 (169) (by omega), g86 (170) (by omega), g86 (171) (by omega)]
  refine c_putF 354 (158) I86.1 I86.q f87 fp_X7_50 (by decide) hoX7 rfl rfl (Nat.le_of_ble_eq_true rfl) dX7_init_351 rfl fun E88 h88 e88 => ?_
  have I88 := I86.put h88 (Or.inl rfl)
  have f88 : E88 (158) = .inr (7, [.ref (A86 (159)), .int 0, .int 0, .ref (A86 (160)), .int 0, .int 0, .int 0, .int 0, .int 0, .ref (A86 (161)), .int 0, .int 0, .int 0, .int 0, .int 0, .int 0, .int 0, .int 0, .ref (A86 (162)), .ref (A86 (163)), .int 0, .ref (A86 (164)), .int 0, .ref (A86 (165)), .ref (A86 (166)), .ref (A86 (167)), .int 0, .ref (A86 (168)), .ref (A86 (169)), .ref (A86 (170)), .ref (A86 (171)), .ref (A86 (172)), .int 0]) := e88
  refine z_vret hq rfl dX7_init_354 rfl rfl ?_
  refine I88.post (zDone.O (sh158) (by decide) (f88.trans (by
    show _ = (Sum.inr (7, [.ref (A86 (159)), .int (s0 (400 * 158 + 1)), .int (s0 (400 * 158 + 2)), .ref (A86 (160)), .int (s0 (400 * 158 + 4)), .int (s0 (400 * 158 + 5)), .int (s0 (400 * 158 + 6)), .int (s0 (400 * 158 + 7)), .int (s0 (400 * 158 + 8)), .ref (A86 (161)), .int (s0 (400 * 158 + 10)), .int (s0 (400 * 158 + 11)), .int (s0 (400 * 158 + 12)), .int (s0 (400 * 158 + 13)), .int (s0 (400 * 158 + 14)), .int (s0 (400 * 158 + 15)), .int (s0 (400 * 158 + 16)), .int (s0 (400 * 158 + 17)), .ref (A86 (162)), .ref (A86 (163)), .int (s0 (400 * 158 + 20)), .ref (A86 (164)), .int (s0 (400 * 158 + 22)), .ref (A86 (165)), .ref (A86 (166)), .ref (A86 (167)), .int (s0 (400 * 158 + 26)), .ref (A86 (168)), .ref (A86 (169)), .ref (A86 (170)), .ref (A86 (171)), .ref (A86 (172)), .int (s0 (400 * 158 + 32))]) : va_E)
    rw [s0_0 (x := 400 * 158 + 1) (by omega) (by omega) (by omega) (by omega), s0_0 (x := 400 * 158 + 2) (by omega) (by omega) (by omega) (by omega), s0_0 (x := 400 * 158 + 4) (by omega) (by omega) (by omega) (by omega), s0_0 (x := 400 * 158 + 5) (by omega) (by omega) (by omega) (by omega), s0_0 (x := 400 * 158 + 6) (by omega) (by omega) (by omega) (by omega), s0_0 (x := 400 * 158 + 7) (by omega) (by omega) (by omega) (by omega), s0_0 (x := 400 * 158 + 8) (by omega) (by omega) (by omega) (by omega), s0_0 (x := 400 * 158 + 10) (by omega) (by omega) (by omega) (by omega), s0_0 (x := 400 * 158 + 11) (by omega) (by omega) (by omega) (by omega), s0_0 (x := 400 * 158 + 12) (by omega) (by omega) (by omega) (by omega), s0_0 (x := 400 * 158 + 13) (by omega) (by omega) (by omega) (by omega), s0_0 (x := 400 * 158 + 14) (by omega) (by omega) (by omega) (by omega), s0_0 (x := 400 * 158 + 15) (by omega) (by omega) (by omega) (by omega), s0_0 (x := 400 * 158 + 16) (by omega) (by omega) (by omega) (by omega), s0_0 (x := 400 * 158 + 17) (by omega) (by omega) (by omega) (by omega), s0_0 (x := 400 * 158 + 20) (by omega) (by omega) (by omega) (by omega), s0_0 (x := 400 * 158 + 22) (by omega) (by omega) (by omega) (by omega), s0_0 (x := 400 * 158 + 26) (by omega) (by omega) (by omega) (by omega), s0_0 (x := 400 * 158 + 32) (by omega) (by omega) (by omega) (by omega)]))) rfl
