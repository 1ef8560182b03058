theorem pr_0 : ((vx_atS RX5 141 "java/lang/IndexOutOfBoundsException" ["java/lang/RuntimeException", "java/lang/Exception"]).filter (fun w => !goodWord w)).length = 0 := by decide +kernel
theorem pr_1 : ((vx_atS RX5 141 "java/lang/IndexOutOfBoundsException" ["java/lang/RuntimeException", "java/lang/Exception"]).filter (fun w => !goodWord w)).length = 1 := by decide +kernel
theorem pr_2 : ((vx_atS RX5 141 "java/lang/IndexOutOfBoundsException" ["java/lang/RuntimeException", "java/lang/Exception"]).filter (fun w => !goodWord w)).length = 2 := by decide +kernel
theorem pr_3 : ((vx_atS RX5 141 "java/lang/IndexOutOfBoundsException" ["java/lang/RuntimeException", "java/lang/Exception"]).filter (fun w => !goodWord w)).length = 3 := by decide +kernel
theorem pr_c : Cond.castable "java/lang/IndexOutOfBoundsException" "java/lang/IndexOutOfBoundsException" ∈ wsL_value := by decide +kernel
