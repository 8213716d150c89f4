theorem qk_IOOBE : Cond.classLink "Foundry" 102 "java/lang/IndexOutOfBoundsException" ∈ lw_all := lw_mem 912 (by decide +kernel) (by decide +kernel)
theorem qi_IOOBE : Cond.initialized "java/lang/IndexOutOfBoundsException" ∈ lw_all := lw_mem 85 (by decide +kernel) (by decide +kernel)
theorem qg_IOOBE : ∀ w ∈ (vx_at0 "Foundry" 104 "java/lang/IndexOutOfBoundsException" ["java/lang/RuntimeException", "java/lang/Exception"]).filter goodWord, w ∈ lw_all := lw_memT (by decide +kernel)
theorem qo_IOOBE : ∀ w ∈ Cond.classLink "Foundry" 102 "java/lang/IndexOutOfBoundsException" :: Cond.initialized "java/lang/IndexOutOfBoundsException" :: vx_at0 "Foundry" 104 "java/lang/IndexOutOfBoundsException" ["java/lang/RuntimeException", "java/lang/Exception"], vx_ot w = true := by decide +kernel
theorem qk_IAE : Cond.classLink "Foundry" 105 "java/lang/IllegalArgumentException" ∈ lw_all := lw_mem 933 (by decide +kernel) (by decide +kernel)
theorem qi_IAE : Cond.initialized "java/lang/IllegalArgumentException" ∈ lw_all := lw_mem 92 (by decide +kernel) (by decide +kernel)
theorem qg_IAE : ∀ w ∈ (vx_at0 "Foundry" 107 "java/lang/IllegalArgumentException" ["java/lang/RuntimeException", "java/lang/Exception"]).filter goodWord, w ∈ lw_all := lw_memT (by decide +kernel)
theorem qo_IAE : ∀ w ∈ Cond.classLink "Foundry" 105 "java/lang/IllegalArgumentException" :: Cond.initialized "java/lang/IllegalArgumentException" :: vx_at0 "Foundry" 107 "java/lang/IllegalArgumentException" ["java/lang/RuntimeException", "java/lang/Exception"], vx_ot w = true := by decide +kernel
theorem qk_NSEE : Cond.classLink "Foundry" 108 "java/util/NoSuchElementException" ∈ lw_all := lw_mem 938 (by decide +kernel) (by decide +kernel)
theorem qi_NSEE : Cond.initialized "java/util/NoSuchElementException" ∈ lw_all := lw_mem 93 (by decide +kernel) (by decide +kernel)
theorem qg_NSEE : ∀ w ∈ (vx_at0 "Foundry" 110 "java/util/NoSuchElementException" ["java/lang/RuntimeException", "java/lang/Exception"]).filter goodWord, w ∈ lw_all := lw_memT (by decide +kernel)
theorem qo_NSEE : ∀ w ∈ Cond.classLink "Foundry" 108 "java/util/NoSuchElementException" :: Cond.initialized "java/util/NoSuchElementException" :: vx_at0 "Foundry" 110 "java/util/NoSuchElementException" ["java/lang/RuntimeException", "java/lang/Exception"], vx_ot w = true := by decide +kernel
theorem qk_ISE : Cond.classLink "Foundry" 111 "java/lang/IllegalStateException" ∈ lw_all := lw_mem 953 (by decide +kernel) (by decide +kernel)
theorem qi_ISE : Cond.initialized "java/lang/IllegalStateException" ∈ lw_all := lw_mem 94 (by decide +kernel) (by decide +kernel)
theorem qg_ISE : ∀ w ∈ (vx_at0 "Foundry" 113 "java/lang/IllegalStateException" ["java/lang/RuntimeException", "java/lang/Exception"]).filter goodWord, w ∈ lw_all := lw_memT (by decide +kernel)
theorem qo_ISE : ∀ w ∈ Cond.classLink "Foundry" 111 "java/lang/IllegalStateException" :: Cond.initialized "java/lang/IllegalStateException" :: vx_at0 "Foundry" 113 "java/lang/IllegalStateException" ["java/lang/RuntimeException", "java/lang/Exception"], vx_ot w = true := by decide +kernel
theorem qk_UOE : Cond.classLink "Foundry" 114 "java/lang/UnsupportedOperationException" ∈ lw_all := lw_mem 968 (by decide +kernel) (by decide +kernel)
theorem qi_UOE : Cond.initialized "java/lang/UnsupportedOperationException" ∈ lw_all := lw_mem 95 (by decide +kernel) (by decide +kernel)
theorem qg_UOE : ∀ w ∈ (vx_at0 "Foundry" 116 "java/lang/UnsupportedOperationException" ["java/lang/RuntimeException", "java/lang/Exception"]).filter goodWord, w ∈ lw_all := lw_memT (by decide +kernel)
theorem qo_UOE : ∀ w ∈ Cond.classLink "Foundry" 114 "java/lang/UnsupportedOperationException" :: Cond.initialized "java/lang/UnsupportedOperationException" :: vx_at0 "Foundry" 116 "java/lang/UnsupportedOperationException" ["java/lang/RuntimeException", "java/lang/Exception"], vx_ot w = true := by decide +kernel
theorem qk_AE : Cond.classLink "Foundry" 224 "java/lang/ArithmeticException" ∈ lw_all := lw_mem 1307 (by decide +kernel) (by decide +kernel)
theorem qi_AE : Cond.initialized "java/lang/ArithmeticException" ∈ lw_all := lw_mem 96 (by decide +kernel) (by decide +kernel)
theorem qg_AE : ∀ w ∈ (vx_at0 "Foundry" 226 "java/lang/ArithmeticException" ["java/lang/RuntimeException", "java/lang/Exception"]).filter goodWord, w ∈ lw_all := lw_memT (by decide +kernel)
theorem qo_AE : ∀ w ∈ Cond.classLink "Foundry" 224 "java/lang/ArithmeticException" :: Cond.initialized "java/lang/ArithmeticException" :: vx_at0 "Foundry" 226 "java/lang/ArithmeticException" ["java/lang/RuntimeException", "java/lang/Exception"], vx_ot w = true := by decide +kernel
