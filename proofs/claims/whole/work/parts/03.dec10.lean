theorem zd_J_cell_0 : decode zc_J_cell 0 = .ok (.iload_n 1, 1) := by decide +kernel
theorem zd_J_cell_1 : decode zc_J_cell 1 = .ok (.aload_n 0, 1) := by decide +kernel
theorem zd_J_cell_2 : decode zc_J_cell 2 = .ok (.arraylength, 1) := by decide +kernel
theorem zd_J_cell_3 : decode zc_J_cell 3 = .ok (.if_icmp .ge 9, 3) := by decide +kernel
theorem zd_J_cell_6 : decode zc_J_cell 6 = .ok (.aload_n 0, 1) := by decide +kernel
theorem zd_J_cell_7 : decode zc_J_cell 7 = .ok (.iload_n 1, 1) := by decide +kernel
theorem zd_J_cell_8 : decode zc_J_cell 8 = .ok (.iaload, 1) := by decide +kernel
theorem zd_J_cell_9 : decode zc_J_cell 9 = .ok (.goto 4, 3) := by decide +kernel
theorem zd_J_cell_12 : decode zc_J_cell 12 = .ok (.iconst 0, 1) := by decide +kernel
theorem zd_J_cell_13 : decode zc_J_cell 13 = .ok (.ireturn, 1) := by decide +kernel
