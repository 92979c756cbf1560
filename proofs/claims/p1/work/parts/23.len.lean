theorem tl_0 : (ma_tb 0).length = 96 := rfl
theorem tl_1 : (ma_tb 1).length = 24 := rfl
theorem tl_2 : (ma_tb 2).length = 24 := rfl
theorem tl_3 : (ma_tb 3).length = 16 := rfl
theorem tl_4 : (ma_tb 4).length = 576 := by decide +kernel
theorem tl_5 : (ma_tb 5).length = 96 := rfl
