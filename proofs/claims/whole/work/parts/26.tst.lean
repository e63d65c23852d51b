theorem tst : (vx_atS RX4 51 "java/lang/IllegalArgumentException" ["java/lang/RuntimeException", "java/lang/Exception"]).filter (fun w => !goodWord w) = [] := by decide +kernel
