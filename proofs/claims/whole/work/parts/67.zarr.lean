/-! ===== facts for the constructors ===== -/
theorem ar_int : Cond.arrayClass .int ∈ zws := zws_t 85 (by decide +kernel) rfl
theorem ar_bool : Cond.arrayClass .boolean ∈ zws := zws_t 134 (by decide +kernel) rfl
theorem ob_inst : Cond.instanceMethod Lib.objectInit ∈ zws := zws_t 22 (by decide +kernel) rfl
theorem ob_code : Cond.code Lib.objectInit ⟨#[0xb1]⟩ 1 none ∈ zws := zws_t 23 (by decide +kernel) rfl
