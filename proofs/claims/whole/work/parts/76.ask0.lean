/-! ===== the questions that change nothing ===== -/
theorem q_fault {l : Launch} {G : zG} {σ : Nat → Int32} (h : Inv σ) : Pr l G σ yX6_fault mX6_fault yX7_fault mX7_fault [] := by
  obtain ⟨α, J⟩ := h
  exact Pr.n J x_fault r_fault (J.2.1.2.2.1.trans J.2.2.2.2.1.symm)
theorem q_torn {l : Launch} {G : zG} {σ : Nat → Int32} (h : Inv σ) : Pr l G σ yX6_torn mX6_torn yX7_torn mX7_torn [] := by
  obtain ⟨α, J⟩ := h
  exact Pr.n J x_torn r_torn (J.2.1.2.2.2.1.trans J.2.2.2.2.2.1.symm)
theorem q_rule {l : Launch} {G : zG} {σ : Nat → Int32} {a : Int32} (h : Inv σ) : Pr l G σ yX6_rule mX6_rule yX7_rule mX7_rule [.int a] := by
  obtain ⟨α, J⟩ := h
  exact Pr.n J (x_rule J.2.1.1 J.1.1.1 J.1.1.2.1) (r_rule J.2.2.1 J.1.1.1) rfl
theorem q_colour {l : Launch} {G : zG} {σ : Nat → Int32} {a b : Int32} (h : Inv σ) : Pr l G σ yX6_colour mX6_colour yX7_colour mX7_colour [.int a, .int b] := by
  obtain ⟨α, J⟩ := h
  exact Pr.n J (x_colour J.2.1.1 J.1.1.1) (r_colour J.2.2.1 J.1.1.1) rfl
theorem q_one {l : Launch} {G : zG} {σ : Nat → Int32} {a b : Int32} (h : Inv σ) : Pr l G σ yX6_one mX6_one yX7_one mX7_one [.int a, .int b] := by
  obtain ⟨α, J⟩ := h
  exact Pr.n J (x_one J.2.1.1 J.1.1.1) (r_one J.2.2.1 J.1.1.1) rfl
theorem q_holds {l : Launch} {G : zG} {σ : Nat → Int32} {a b : Int32} (h : Inv σ) : Pr l G σ yX6_holds mX6_holds yX7_holds mX7_holds [.int a, .int b] := by
  obtain ⟨α, J⟩ := h
  exact Pr.n J (x_holds J.2.1.1 J.1.1.1) (r_holds J.2.2.1 J.1.1.1) rfl
theorem q_off {l : Launch} {G : zG} {σ : Nat → Int32} {a b : Int32} (h : Inv σ) : Pr l G σ yX6_off mX6_off yX7_off mX7_off [.int a, .int b] := by
  obtain ⟨α, J⟩ := h
  exact Pr.n J (x_off J.2.1.1 J.1.1.1) (r_off J.2.2.1 J.1.1.1) rfl
theorem q_runs {l : Launch} {G : zG} {σ : Nat → Int32} {a b : Int32} (h : Inv σ) : Pr l G σ yX6_runs mX6_runs yX7_runs mX7_runs [.int a, .int b] := by
  obtain ⟨α, J⟩ := h
  exact Pr.q J (x_runs J.2.1.1 J.1.1.1 J.1.1.2.1 J.1.1.s) (fun τ J1 => r_runs J1.2.2.1 J.1.1.1 J.1.1.s)
theorem q_ahead {l : Launch} {G : zG} {σ : Nat → Int32} {a b c : Int32} (h : Inv σ) : Pr l G σ yX6_ahead mX6_ahead yX7_ahead mX7_ahead [.int a, .int b, .int c] := by
  obtain ⟨α, J⟩ := h
  exact Pr.q J (x_ahead J.2.1.1 J.1.1.1) (fun τ J1 => r_ahead J1.2.2.1 J.1.1.1 J.1.1.s)
theorem q_lasts {l : Launch} {G : zG} {σ : Nat → Int32} {a : Int32} (h : Inv σ) : Pr l G σ yX6_lasts mX6_lasts yX7_lasts mX7_lasts [.int a] := by
  obtain ⟨α, J⟩ := h
  exact Pr.q J (x_lasts J.2.1.1 J.1.1.1) (fun τ J1 => r_lasts J1.2.2.1 J.1.1.1)
theorem q_mix {l : Launch} {G : zG} {σ : Nat → Int32} {a b c : Int32} (h : Inv σ) : Pr l G σ yX6_mix mX6_mix yX7_mix mX7_mix [.int a, .int b, .int c] := by
  obtain ⟨α, J⟩ := h
  exact Pr.q J (x_mix J.2.1.1 J.1.1.1) (fun τ J1 => r_mix J1.2.2.1 J.1.1.1)
theorem q_cheap {l : Launch} {G : zG} {σ : Nat → Int32} {a b c : Int32} (h : Inv σ) : Pr l G σ yX6_cheap mX6_cheap yX7_cheap mX7_cheap [.int a, .int b, .int c] := by
  obtain ⟨α, J⟩ := h
  exact Pr.q J (x_cheap J.2.1.1 J.1.1.1) (fun τ J1 => r_cheap J1.2.2.1 J.1.1.1)
theorem q_more {l : Launch} {G : zG} {σ : Nat → Int32} {a b : Int32} (h : Inv σ) : Pr l G σ yX6_more mX6_more yX7_more mX7_more [.int a, .int b] := by
  obtain ⟨α, J⟩ := h
  exact Pr.q J (x_more J.2.1.1 J.1.1.1) (fun τ J1 => r_more J1.2.2.1 J.1.1.1 J.1.1.s)
theorem q_swap {l : Launch} {G : zG} {σ : Nat → Int32} {a : Int32} (h : Inv σ) : Pr l G σ yX6_swap mX6_swap yX7_swap mX7_swap [.int a] := by
  obtain ⟨α, J⟩ := h
  exact Pr.q J (x_swap J.2.1.1 J.1.1.1) (fun τ J1 => r_swap J1.2.2.1 J.1.1.1 J.1.1.2.1 J.1.1.s)
theorem q_shed {l : Launch} {G : zG} {σ : Nat → Int32} {a b : Int32} (h : Inv σ) : Pr l G σ yX6_shed mX6_shed yX7_shed mX7_shed [.int a, .int b] := by
  obtain ⟨α, J⟩ := h
  exact Pr.q J (x_shed J.2.1.1 J.1.1.1) (fun τ J1 => r_shed J1.2.2.1 J.1.1.1 J.1.1.s)
theorem q_need {l : Launch} {G : zG} {σ : Nat → Int32} {a b : Int32} (h : Inv σ) : Pr l G σ yX6_need mX6_need yX7_need mX7_need [.int a, .int b] := by
  obtain ⟨α, J⟩ := h
  exact Pr.q J (x_need J.2.1.1 J.1.1.1 J.1.1.s) (fun τ J1 => r_need J1.2.2.1 J.1.1.1 J.1.1.s)
theorem q_kind {l : Launch} {G : zG} {σ : Nat → Int32} {a b c : Int32} (h : Inv σ) : Pr l G σ yX6_kind mX6_kind yX7_kind mX7_kind [.int a, .int b, .int c] := by
  obtain ⟨α, J⟩ := h
  exact Pr.q J (x_kind J.2.1.1 J.1.1.1 J.1.1.2.1) (fun τ J1 => r_kind J1.2.2.1 J.1.1.1 J.1.1.s)
theorem q_luck {l : Launch} {G : zG} {σ : Nat → Int32} {a b c d e : Int32} (h : Inv σ) : PrL l G σ yX6_luck mX6_luck yX7_luck mX7_luck [.int a, .int b, .int c, .int d, .int e] := by
  obtain ⟨α, J⟩ := h
  exact Pr.ql J (x_luck J.2.1.1 J.1.1.1) (fun τ J1 => r_luck J1.2.2.1 J.1.1.1)
theorem q_mean {l : Launch} {G : zG} {σ : Nat → Int32} {a b c : Int32} (h : Inv σ) : PrL l G σ yX6_mean mX6_mean yX7_mean mX7_mean [.int a, .int b, .int c] := by
  obtain ⟨α, J⟩ := h
  exact Pr.ql J (x_mean J.2.1.1 J.1.1.1 J.1.1.2.1) (fun τ J1 => r_mean J1.2.2.1 J.1.1.1)
theorem q_kinds {l : Launch} {G : zG} {σ : Nat → Int32} {a : Int32} (h : Inv σ) : Pr l G σ yX6_kinds mX6_kinds yX7_kinds mX7_kinds [.int a] := by
  obtain ⟨α, J⟩ := h
  exact Pr.q J (x_kinds J.2.1.1 J.1.1.1 J.2.1.2.2.2.2.1 J.1.2.2.1) (fun τ J1 => r_kinds J1.2.2.1 J.1.1.1 J1.2.2.2.2.2.2.1 J.1.2.2.1)
theorem q_drops {l : Launch} {G : zG} {σ : Nat → Int32} {a b : Int32} (h : Inv σ) : Pr l G σ yX6_drops mX6_drops yX7_drops mX7_drops [.int a, .int b] := by
  obtain ⟨α, J⟩ := h
  exact Pr.q J (x_drops J.2.1.1 J.1.1.1 J.2.1.2.2.2.2.1 J.1.2.2.1) (fun τ J1 => r_drops J1.2.2.1 J.1.1.1 J1.2.2.2.2.2.2.1 J.1.2.2.1)
theorem q_ask {l : Launch} {G : zG} {σ : Nat → Int32} {a b : Int32} (h : Inv σ) : Pr l G σ yX6_ask mX6_ask yX7_ask mX7_ask [.int a, .int b] := by
  obtain ⟨α, J⟩ := h
  exact Pr.q J (x_ask J.2.1.1 J.1.1.1 J.2.1.2.2.2.2.1 J.1.2.2.1) (fun τ J1 => r_ask J1.2.2.1 J.1.1.1 J1.2.2.2.2.2.2.1 J.1.2.2.1)
theorem q_drift {l : Launch} {G : zG} {σ : Nat → Int32} {a b c : Int32} (h : Inv σ) : Pr l G σ yX6_drift mX6_drift yX7_drift mX7_drift [.int a, .int b, .int c] := by
  obtain ⟨α, J⟩ := h
  exact Pr.q J (x_drift J.2.1.1 J.1.1.1 J.1.1.2.1) (fun τ J1 => r_drift J1.2.2.1 J.1.1.1)
