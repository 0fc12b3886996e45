theorem d_M_init_95 : decode b_M_init 95 = .ok (.istore_n 1, 1) := by decide +kernel
theorem d_M_init_96 : decode b_M_init 96 = .ok (.return_, 1) := by decide +kernel
