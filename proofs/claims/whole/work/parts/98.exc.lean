/-! The words of the throws. -/
set_option maxRecDepth 100000 in
theorem oa_IllegalArgumentException : ∀ w ∈ Bundle.ownAtoms "CarrierLink" 57 "java/lang/IllegalArgumentException" ["java/lang/RuntimeException", "java/lang/Exception"], w ∈ lw_k := by decide +kernel
theorem cl_IllegalArgumentException : Cond.classLink "CarrierLink" 53 "java/lang/IllegalArgumentException" ∈ lw_k := by decide +kernel
theorem clL_IllegalArgumentException : Cond.classLink "CarrierLinkLaw" 13 "java/lang/IllegalArgumentException" ∈ lw_k := by decide +kernel
theorem ini_IllegalArgumentException : Cond.initialized "java/lang/IllegalArgumentException" ∈ lw_k := by decide +kernel
theorem ca_IllegalArgumentException : Cond.castable "java/lang/IllegalArgumentException" "java/lang/IllegalArgumentException" ∈ lw_k := by decide +kernel
set_option maxRecDepth 100000 in
theorem oa_IllegalStateException : ∀ w ∈ Bundle.ownAtoms "CarrierLink" 64 "java/lang/IllegalStateException" ["java/lang/RuntimeException", "java/lang/Exception"], w ∈ lw_k := by decide +kernel
theorem cl_IllegalStateException : Cond.classLink "CarrierLink" 60 "java/lang/IllegalStateException" ∈ lw_k := by decide +kernel
theorem clL_IllegalStateException : Cond.classLink "CarrierLinkLaw" 15 "java/lang/IllegalStateException" ∈ lw_k := by decide +kernel
theorem ini_IllegalStateException : Cond.initialized "java/lang/IllegalStateException" ∈ lw_k := by decide +kernel
theorem ca_IllegalStateException : Cond.castable "java/lang/IllegalStateException" "java/lang/IllegalStateException" ∈ lw_k := by decide +kernel
set_option maxRecDepth 100000 in
theorem oa_IndexOutOfBoundsException : ∀ w ∈ Bundle.ownAtoms "CarrierLink" 105 "java/lang/IndexOutOfBoundsException" ["java/lang/RuntimeException", "java/lang/Exception"], w ∈ lw_k := by decide +kernel
theorem cl_IndexOutOfBoundsException : Cond.classLink "CarrierLink" 101 "java/lang/IndexOutOfBoundsException" ∈ lw_k := by decide +kernel
theorem clL_IndexOutOfBoundsException : Cond.classLink "CarrierLinkLaw" 21 "java/lang/IndexOutOfBoundsException" ∈ lw_k := by decide +kernel
theorem ini_IndexOutOfBoundsException : Cond.initialized "java/lang/IndexOutOfBoundsException" ∈ lw_k := by decide +kernel
theorem ca_IndexOutOfBoundsException : Cond.castable "java/lang/IndexOutOfBoundsException" "java/lang/IndexOutOfBoundsException" ∈ lw_k := by decide +kernel
theorem str_55 : Cond.stringRef "CarrierLink" 55 "rate or seed" ∈ lw_tbl := by decide +kernel
theorem str_62 : Cond.stringRef "CarrierLink" 62 "no bytes" ∈ lw_tbl := by decide +kernel
theorem str_103 : Cond.stringRef "CarrierLink" 103 "no such sample" ∈ lw_tbl := by decide +kernel
theorem str_113 : Cond.stringRef "CarrierLink" 113 "lead, echo or turns" ∈ lw_tbl := by decide +kernel
theorem str_115 : Cond.stringRef "CarrierLink" 115 "no frame" ∈ lw_tbl := by decide +kernel
theorem str_139 : Cond.stringRef "CarrierLink" 139 "nothing on the air" ∈ lw_tbl := by decide +kernel
