theorem fd_ex_n : ∀ n ∈ (["java/lang/RuntimeException", "java/lang/Exception"] : List String), Bundle.fit n = true := by decide +kernel
theorem fd_ex_87_91_f : Bundle.fit "java/lang/IllegalArgumentException" = true := by decide +kernel
theorem fd_ex_87_91_b : ∀ w ∈ (vx_atS RX10 91 "java/lang/IllegalArgumentException" ["java/lang/RuntimeException", "java/lang/Exception"]).filter (fun w => !goodWord w), w ∈ fd_bad "java/lang/IllegalArgumentException" := by decide +kernel
theorem fd_ex_87_91_e : "java/lang/IllegalArgumentException" ∈ fd_es := by decide +kernel
theorem fd_ex_87_91_g : ∀ w ∈ Cond.classLink RX10 87 "java/lang/IllegalArgumentException" :: Cond.initialized "java/lang/IllegalArgumentException" :: vx_atS RX10 91 "java/lang/IllegalArgumentException" ["java/lang/RuntimeException", "java/lang/Exception"], vx_ot w = true := by decide +kernel
theorem fd_ex_71_75_f : Bundle.fit "java/lang/IllegalStateException" = true := by decide +kernel
theorem fd_ex_71_75_b : ∀ w ∈ (vx_atS RX10 75 "java/lang/IllegalStateException" ["java/lang/RuntimeException", "java/lang/Exception"]).filter (fun w => !goodWord w), w ∈ fd_bad "java/lang/IllegalStateException" := by decide +kernel
theorem fd_ex_71_75_e : "java/lang/IllegalStateException" ∈ fd_es := by decide +kernel
theorem fd_ex_71_75_g : ∀ w ∈ Cond.classLink RX10 71 "java/lang/IllegalStateException" :: Cond.initialized "java/lang/IllegalStateException" :: vx_atS RX10 75 "java/lang/IllegalStateException" ["java/lang/RuntimeException", "java/lang/Exception"], vx_ot w = true := by decide +kernel
theorem fd_ex_114_118_f : Bundle.fit "java/lang/IndexOutOfBoundsException" = true := by decide +kernel
theorem fd_ex_114_118_b : ∀ w ∈ (vx_atS RX10 118 "java/lang/IndexOutOfBoundsException" ["java/lang/RuntimeException", "java/lang/Exception"]).filter (fun w => !goodWord w), w ∈ fd_bad "java/lang/IndexOutOfBoundsException" := by decide +kernel
theorem fd_ex_114_118_e : "java/lang/IndexOutOfBoundsException" ∈ fd_es := by decide +kernel
theorem fd_ex_114_118_g : ∀ w ∈ Cond.classLink RX10 114 "java/lang/IndexOutOfBoundsException" :: Cond.initialized "java/lang/IndexOutOfBoundsException" :: vx_atS RX10 118 "java/lang/IndexOutOfBoundsException" ["java/lang/RuntimeException", "java/lang/Exception"], vx_ot w = true := by decide +kernel
