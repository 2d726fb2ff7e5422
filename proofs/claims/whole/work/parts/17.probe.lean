abbrev xnames : List String := ["java/lang/RuntimeException", "java/lang/Exception"]
abbrev xI : String := "java/lang/IllegalStateException"
abbrev xA : String := "java/lang/IllegalArgumentException"
abbrev xB : String := "java/lang/IndexOutOfBoundsException"
theorem t1 : ((vx_atS RX2 52 xI xnames).filter (fun w => !goodWord w)).all (fun w => match w with | .castable _ _ => true | _ => false) = true := by decide +kernel
theorem t2 : ((vx_atS RX2 52 xI xnames).filter (fun w => !goodWord w)).all (fun w => match w with | .castable _ _ => true | .superclass _ _ => true | _ => false) = true := by decide +kernel
theorem t3 : ((vx_atS RX2 52 xI xnames).filter (fun w => !goodWord w)) = [.castable xI xI] := by decide +kernel
theorem t4 : ((vx_atS RX2 52 xI xnames).filter (fun w => !goodWord w)).length = 1 := by decide +kernel
theorem t5 : ((vx_atS RX2 52 xI xnames).filter (fun w => !goodWord w)).length = 2 := by decide +kernel
theorem t6 : goodWord (.castable xI xI) = false := by decide +kernel
theorem t7 : goodWord (.castable "[I" "java/lang/Cloneable") = false := by decide +kernel
theorem t8 : goodWord (.arrayOver (.array .int)) = false := by decide +kernel
theorem t9 : goodWord (.superclass Bundle.tN "java/lang/Object") = true := by decide +kernel
