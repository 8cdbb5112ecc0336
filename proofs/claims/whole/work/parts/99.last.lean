theorem zt_1 : (vx_atS RX11 63 "java/lang/IllegalArgumentException" ["java/lang/RuntimeException", "java/lang/Exception"]).filter (fun w => !goodWord w) = [] := by decide +kernel
theorem zt_2 : ∀ w ∈ vx_atS RX11 63 "java/lang/IllegalArgumentException" ["java/lang/RuntimeException", "java/lang/Exception"], w ∈ lw_tbl := by decide +kernel
theorem zt_3 : ((vx_atS RX11 63 "java/lang/IllegalArgumentException" ["java/lang/RuntimeException", "java/lang/Exception"]).filter (fun w => !goodWord w)).length = 1 := by decide +kernel
theorem zt_4 : (lw_tbl.filter (fun w => !goodWord w)).length = 0 := by decide +kernel
