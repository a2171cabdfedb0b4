/-! ===== facts for the constructors ===== -/
def mX0_init : zM := (RX0, cX0_init, none, 1, 1, 6, 53)
def fX0 : List Value := [.int 0, .int 0, .int 0, .int 0, .int 0, .null, .null, .null, .null, .null, .null]
theorem dfX0 : ∀ j, j < 11 → defaultValue (tyX0 j) = vp_V fX0 j := by
  intro j hj
  match j, hj with
  | 0, _ => rfl
  | 1, _ => rfl
  | 2, _ => rfl
  | 3, _ => rfl
  | 4, _ => rfl
  | 5, _ => rfl
  | 6, _ => rfl
  | 7, _ => rfl
  | 8, _ => rfl
  | 9, _ => rfl
  | 10, _ => rfl
  | j + 11, h => omega
def mX1_init : zM := (RX1, cX1_init, none, 1, 1, 3, 18)
def fX1 : List Value := [.int 0, .null, .null, .null]
theorem dfX1 : ∀ j, j < 4 → defaultValue (tyX1 j) = vp_V fX1 j := by
  intro j hj
  match j, hj with
  | 0, _ => rfl
  | 1, _ => rfl
  | 2, _ => rfl
  | 3, _ => rfl
  | j + 4, h => omega
def mX2_init : zM := (RX2, cX2_init, none, 1, 1, 2, 10)
def fX2 : List Value := [.int 0, .int 0, .null, .null, .int 0, .int 0]
theorem dfX2 : ∀ j, j < 6 → defaultValue (tyX2 j) = vp_V fX2 j := by
  intro j hj
  match j, hj with
  | 0, _ => rfl
  | 1, _ => rfl
  | 2, _ => rfl
  | 3, _ => rfl
  | 4, _ => rfl
  | 5, _ => rfl
  | j + 6, h => omega
def mX3_init : zM := (RX3, cX3_init, none, 1, 1, 1, 40)
def fX3 : List Value := [.int 0, .int 0, .null]
theorem dfX3 : ∀ j, j < 3 → defaultValue (tyX3 j) = vp_V fX3 j := by
  intro j hj
  match j, hj with
  | 0, _ => rfl
  | 1, _ => rfl
  | 2, _ => rfl
  | j + 3, h => omega
def mX4_init : zM := (RX4, cX4_init, none, 1, 2, 15, 288)
def fX4 : List Value := [.null, .int 0, .int 0, .int 0, .null, .null, .int 0, .int 0, .int 0, .int 0, .int 0]
theorem dfX4 : ∀ j, j < 11 → defaultValue (tyX4 j) = vp_V fX4 j := by
  intro j hj
  match j, hj with
  | 0, _ => rfl
  | 1, _ => rfl
  | 2, _ => rfl
  | 3, _ => rfl
  | 4, _ => rfl
  | 5, _ => rfl
  | 6, _ => rfl
  | 7, _ => rfl
  | 8, _ => rfl
  | 9, _ => rfl
  | 10, _ => rfl
  | j + 11, h => omega
def mX5_init : zM := (RX5, cX5_init, none, 2, 2, 64, 585)
def fX5 : List Value := [.int 0, .int 0, .int 0, .int 0, .null]
theorem dfX5 : ∀ j, j < 5 → defaultValue (tyX5 j) = vp_V fX5 j := by
  intro j hj
  match j, hj with
  | 0, _ => rfl
  | 1, _ => rfl
  | 2, _ => rfl
  | 3, _ => rfl
  | 4, _ => rfl
  | j + 5, h => omega
def mX6_init : zM := (RX6, cX6_init, none, 2, 3, 157, 1627)
def fX6 : List Value := [.null, .null, .null, .null, .null, .null, .null, .null, .null, .null, .null, .int 0]
theorem dfX6 : ∀ j, j < 12 → defaultValue (tyX6 j) = vp_V fX6 j := by
  intro j hj
  match j, hj with
  | 0, _ => rfl
  | 1, _ => rfl
  | 2, _ => rfl
  | 3, _ => rfl
  | 4, _ => rfl
  | 5, _ => rfl
  | 6, _ => rfl
  | 7, _ => rfl
  | 8, _ => rfl
  | 9, _ => rfl
  | 10, _ => rfl
  | 11, _ => rfl
  | j + 12, h => omega
def mX7_init : zM := (RX7, cX7_init, none, 1, 1, 14, 1122)
def fX7 : List Value := [.null, .int 0, .int 0, .null, .int 0, .int 0, .int 0, .int 0, .int 0, .null, .int 0, .int 0, .int 0, .int 0, .int 0, .int 0, .int 0, .int 0, .null, .null, .int 0, .null, .int 0, .null, .null, .null, .int 0, .null, .null, .null, .null, .null, .int 0]
theorem dfX7 : ∀ j, j < 33 → defaultValue (tyX7 j) = vp_V fX7 j := by
  intro j hj
  match j, hj with
  | 0, _ => rfl
  | 1, _ => rfl
  | 2, _ => rfl
  | 3, _ => rfl
  | 4, _ => rfl
  | 5, _ => rfl
  | 6, _ => rfl
  | 7, _ => rfl
  | 8, _ => rfl
  | 9, _ => rfl
  | 10, _ => rfl
  | 11, _ => rfl
  | 12, _ => rfl
  | 13, _ => rfl
  | 14, _ => rfl
  | 15, _ => rfl
  | 16, _ => rfl
  | 17, _ => rfl
  | 18, _ => rfl
  | 19, _ => rfl
  | 20, _ => rfl
  | 21, _ => rfl
  | 22, _ => rfl
  | 23, _ => rfl
  | 24, _ => rfl
  | 25, _ => rfl
  | 26, _ => rfl
  | 27, _ => rfl
  | 28, _ => rfl
  | 29, _ => rfl
  | 30, _ => rfl
  | 31, _ => rfl
  | 32, _ => rfl
  | j + 33, h => omega
theorem kl_L_7 : Cond.classLink RL 7 RX6 ∈ zws := zws_t 16 (by decide +kernel) rfl
theorem nw_L_7 : zNew RL 7 6 fX6 12 := ⟨RX6, TX6, tyX6, rfl, inX6, tyX6_ok, kl_L_7, zws_t 17 (by decide +kernel) rfl, zws_t 1 (by decide +kernel) rfl, dfX6⟩
theorem ci_L_9 : zCI RL 9 yX6_init mX6_init 0 := ⟨zws_t 18 (by decide +kernel) rfl, rfl, zws_t 19 (by decide +kernel) rfl, zws_t 1 (by decide +kernel) rfl, zws_t 20 (by decide +kernel) rfl, rfl, by decide +kernel, by decide +kernel, by decide +kernel⟩
theorem ob_X6 : Cond.methodLink RX6 1 Lib.objectInit ∈ zws := zws_t 21 (by decide +kernel) rfl
theorem kl_X6_7 : Cond.classLink RX6 7 RX0 ∈ zws := zws_t 24 (by decide +kernel) rfl
theorem nw_X6_7 : zNew RX6 7 0 fX0 11 := ⟨RX0, TX0, tyX0, rfl, inX0, tyX0_ok, kl_X6_7, zws_t 25 (by decide +kernel) rfl, zws_t 2 (by decide +kernel) rfl, dfX0⟩
theorem ci_X6_9 : zCIN RX6 9 yX0_init mX0_init 0 := ⟨by decide +kernel, rfl, zws_t 27 (by decide +kernel) rfl, zws_t 2 (by decide +kernel) rfl, zws_t 28 (by decide +kernel) rfl, rfl, by decide +kernel, by decide +kernel, by decide +kernel⟩
theorem ob_X0 : Cond.methodLink RX0 3 Lib.objectInit ∈ zws := zws_t 29 (by decide +kernel) rfl
theorem kl_X6_34 : Cond.classLink RX6 34 RX4 ∈ zws := zws_t 87 (by decide +kernel) rfl
theorem nw_X6_34 : zNew RX6 34 4 fX4 11 := ⟨RX4, TX4, tyX4, rfl, inX4, tyX4_ok, kl_X6_34, zws_t 88 (by decide +kernel) rfl, zws_t 3 (by decide +kernel) rfl, dfX4⟩
theorem ci_X6_36 : zCIN RX6 36 yX4_init mX4_init 0 := ⟨by decide +kernel, rfl, zws_t 90 (by decide +kernel) rfl, zws_t 3 (by decide +kernel) rfl, zws_t 91 (by decide +kernel) rfl, rfl, by decide +kernel, by decide +kernel, by decide +kernel⟩
theorem ob_X4 : Cond.methodLink RX4 3 Lib.objectInit ∈ zws := zws_t 92 (by decide +kernel) rfl
theorem kl_X4_15 : Cond.classLink RX4 15 RX0 ∈ zws := zws_t 93 (by decide +kernel) rfl
theorem nw_X4_15 : zNew RX4 15 0 fX0 11 := ⟨RX0, TX0, tyX0, rfl, inX0, tyX0_ok, kl_X4_15, zws_t 25 (by decide +kernel) rfl, zws_t 2 (by decide +kernel) rfl, dfX0⟩
theorem ci_X4_17 : zCIN RX4 17 yX0_init mX0_init 0 := ⟨by decide +kernel, rfl, zws_t 27 (by decide +kernel) rfl, zws_t 2 (by decide +kernel) rfl, zws_t 28 (by decide +kernel) rfl, rfl, by decide +kernel, by decide +kernel, by decide +kernel⟩
theorem kl_X6_41 : Cond.classLink RX6 41 RX1 ∈ zws := zws_t 135 (by decide +kernel) rfl
theorem nw_X6_41 : zNew RX6 41 1 fX1 4 := ⟨RX1, TX1, tyX1, rfl, inX1, tyX1_ok, kl_X6_41, zws_t 136 (by decide +kernel) rfl, zws_t 4 (by decide +kernel) rfl, dfX1⟩
theorem ci_X6_43 : zCIN RX6 43 yX1_init mX1_init 0 := ⟨by decide +kernel, rfl, zws_t 138 (by decide +kernel) rfl, zws_t 4 (by decide +kernel) rfl, zws_t 139 (by decide +kernel) rfl, rfl, by decide +kernel, by decide +kernel, by decide +kernel⟩
theorem ob_X1 : Cond.methodLink RX1 3 Lib.objectInit ∈ zws := zws_t 140 (by decide +kernel) rfl
theorem kl_X6_48 : Cond.classLink RX6 48 RX2 ∈ zws := zws_t 158 (by decide +kernel) rfl
theorem nw_X6_48 : zNew RX6 48 2 fX2 6 := ⟨RX2, TX2, tyX2, rfl, inX2, tyX2_ok, kl_X6_48, zws_t 159 (by decide +kernel) rfl, zws_t 5 (by decide +kernel) rfl, dfX2⟩
theorem ci_X6_50 : zCIN RX6 50 yX2_init mX2_init 0 := ⟨by decide +kernel, rfl, zws_t 161 (by decide +kernel) rfl, zws_t 5 (by decide +kernel) rfl, zws_t 162 (by decide +kernel) rfl, rfl, by decide +kernel, by decide +kernel, by decide +kernel⟩
theorem ob_X2 : Cond.methodLink RX2 3 Lib.objectInit ∈ zws := zws_t 163 (by decide +kernel) rfl
theorem kl_X6_55 : Cond.classLink RX6 55 RX5 ∈ zws := zws_t 186 (by decide +kernel) rfl
theorem nw_X6_55 : zNew RX6 55 5 fX5 5 := ⟨RX5, TX5, tyX5, rfl, inX5, tyX5_ok, kl_X6_55, zws_t 187 (by decide +kernel) rfl, zws_t 6 (by decide +kernel) rfl, dfX5⟩
theorem ci_X6_57 : zCI RX6 57 yX5_init mX5_init 0 := ⟨zws_t 188 (by decide +kernel) rfl, rfl, zws_t 189 (by decide +kernel) rfl, zws_t 6 (by decide +kernel) rfl, zws_t 190 (by decide +kernel) rfl, rfl, by decide +kernel, by decide +kernel, by decide +kernel⟩
theorem ob_X5 : Cond.methodLink RX5 3 Lib.objectInit ∈ zws := zws_t 191 (by decide +kernel) rfl
theorem kl_X5_9 : Cond.classLink RX5 9 RX0 ∈ zws := zws_t 192 (by decide +kernel) rfl
theorem nw_X5_9 : zNew RX5 9 0 fX0 11 := ⟨RX0, TX0, tyX0, rfl, inX0, tyX0_ok, kl_X5_9, zws_t 25 (by decide +kernel) rfl, zws_t 2 (by decide +kernel) rfl, dfX0⟩
theorem ci_X5_17 : zCIN RX5 17 yX0_init mX0_init 0 := ⟨by decide +kernel, rfl, zws_t 27 (by decide +kernel) rfl, zws_t 2 (by decide +kernel) rfl, zws_t 28 (by decide +kernel) rfl, rfl, by decide +kernel, by decide +kernel, by decide +kernel⟩
theorem kl_X6_62 : Cond.classLink RX6 62 RX3 ∈ zws := zws_t 212 (by decide +kernel) rfl
theorem nw_X6_62 : zNew RX6 62 3 fX3 3 := ⟨RX3, TX3, tyX3, rfl, inX3, tyX3_ok, kl_X6_62, zws_t 214 (by decide +kernel) rfl, zws_t 7 (by decide +kernel) rfl, dfX3⟩
theorem ci_X6_72 : zCIN RX6 72 yX3_init mX3_init 0 := ⟨by decide +kernel, rfl, zws_t 216 (by decide +kernel) rfl, zws_t 7 (by decide +kernel) rfl, zws_t 217 (by decide +kernel) rfl, rfl, by decide +kernel, by decide +kernel, by decide +kernel⟩
theorem ob_X3 : Cond.methodLink RX3 3 Lib.objectInit ∈ zws := zws_t 218 (by decide +kernel) rfl
theorem kl_L_10 : Cond.classLink RL 10 RX7 ∈ zws := zws_t 754 (by decide +kernel) rfl
theorem nw_L_10 : zNew RL 10 7 fX7 33 := ⟨RX7, TX7, tyX7, rfl, inX7, tyX7_ok, kl_L_10, zws_t 755 (by decide +kernel) rfl, zws_t 8 (by decide +kernel) rfl, dfX7⟩
theorem ci_L_12 : zCI RL 12 yX7_init mX7_init 0 := ⟨zws_t 756 (by decide +kernel) rfl, rfl, zws_t 757 (by decide +kernel) rfl, zws_t 8 (by decide +kernel) rfl, zws_t 758 (by decide +kernel) rfl, rfl, by decide +kernel, by decide +kernel, by decide +kernel⟩
theorem ob_X7 : Cond.methodLink RX7 1 Lib.objectInit ∈ zws := zws_t 759 (by decide +kernel) rfl
