/-! words of the tables, each by itself (laid by program) -/
theorem q_0 : Cond.methodLink RX5 344 Lib.Math.abs.name ∈ ww_tb := by decide +kernel
theorem q_1 : Cond.static Lib.Math.abs.name ∈ ww_tb := by decide +kernel
theorem q_2 : Cond.initialized "java/lang/Math" ∈ ww_tb := by decide +kernel
theorem q_3 : Cond.code Lib.Math.abs.name Lib.Math.abs.code 1 (some .int) ∈ ww_tb := by decide +kernel
