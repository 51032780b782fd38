/-! The four exceptions that the class throws: their words stand in the table -/
theorem xi_I : Cond.initialized "java/lang/IndexOutOfBoundsException" ∈ yW := by decide +kernel
theorem xi_S : Cond.initialized "java/lang/IllegalStateException" ∈ yW := by decide +kernel
theorem xi_A : Cond.initialized "java/lang/IllegalArgumentException" ∈ yW := by decide +kernel
theorem xi_M : Cond.initialized "java/lang/ArithmeticException" ∈ yW := by decide +kernel
theorem xa_I : ∀ w ∈ vx_atS "YearFractions" 165 "java/lang/IndexOutOfBoundsException" ["java/lang/RuntimeException", "java/lang/Exception"], w ∈ yW ∨ w ∈ yNs := by decide +kernel
theorem xa_S : ∀ w ∈ vx_atS "YearFractions" 237 "java/lang/IllegalStateException" ["java/lang/RuntimeException", "java/lang/Exception"], w ∈ yW ∨ w ∈ yNs := by decide +kernel
theorem xa_A : ∀ w ∈ vx_atS "YearFractions" 52 "java/lang/IllegalArgumentException" ["java/lang/RuntimeException", "java/lang/Exception"], w ∈ yW ∨ w ∈ yNs := by decide +kernel
theorem xa_M : ∀ w ∈ vx_atS "YearFractions" 145 "java/lang/ArithmeticException" ["java/lang/RuntimeException", "java/lang/Exception"], w ∈ yW ∨ w ∈ yNs := by decide +kernel
theorem xg_I : ∀ w ∈ Cond.classLink "YearFractions" 161 "java/lang/IndexOutOfBoundsException" :: Cond.initialized "java/lang/IndexOutOfBoundsException" :: vx_atS "YearFractions" 165 "java/lang/IndexOutOfBoundsException" ["java/lang/RuntimeException", "java/lang/Exception"], vx_ot w = true := by decide +kernel
theorem xg_S : ∀ w ∈ Cond.classLink "YearFractions" 233 "java/lang/IllegalStateException" :: Cond.initialized "java/lang/IllegalStateException" :: vx_atS "YearFractions" 237 "java/lang/IllegalStateException" ["java/lang/RuntimeException", "java/lang/Exception"], vx_ot w = true := by decide +kernel
theorem xg_A : ∀ w ∈ Cond.classLink "YearFractions" 48 "java/lang/IllegalArgumentException" :: Cond.initialized "java/lang/IllegalArgumentException" :: vx_atS "YearFractions" 52 "java/lang/IllegalArgumentException" ["java/lang/RuntimeException", "java/lang/Exception"], vx_ot w = true := by decide +kernel
theorem xg_M : ∀ w ∈ Cond.classLink "YearFractions" 141 "java/lang/ArithmeticException" :: Cond.initialized "java/lang/ArithmeticException" :: vx_atS "YearFractions" 145 "java/lang/ArithmeticException" ["java/lang/RuntimeException", "java/lang/Exception"], vx_ot w = true := by decide +kernel
