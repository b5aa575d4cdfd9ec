theorem q1_sr0 (y : Int32) : (0 : Int32) >>> (y &&& 31) = 0 := by simp
theorem q1_and0l (y : Int32) : (0 : Int32) &&& y = 0 := by simp
theorem q1_and0r (y : Int32) : y &&& (0 : Int32) = 0 := by simp
theorem q1_andm (y : Int32) : y &&& (-1 : Int32) = y := by simp
