theorem d_Mm_charge_130 : decode prog_14_method_58_code 130 = .ok (.aload_n 0, 1) := by decide +kernel
theorem d_Mm_charge_131 : decode prog_14_method_58_code 131 = .ok (.iload_n 3, 1) := by decide +kernel
theorem d_Mm_charge_132 : decode prog_14_method_58_code 132 = .ok (.iconst 0, 1) := by decide +kernel
theorem d_Mm_charge_133 : decode prog_14_method_58_code 133 = .ok (.iload_n 2, 1) := by decide +kernel
theorem d_Mm_charge_134 : decode prog_14_method_58_code 134 = .ok (.invokevirtual 236, 3) := by decide +kernel
theorem ok_Mm_charge_Mm_move : z_ok M_Mm_charge M_Mm_move 3 := ⟨z_mj8 (i := 153) rfl (by decide +kernel), rfl, ⟨by decide +kernel, by decide +kernel, by decide +kernel⟩, ⟨by decide, by decide⟩, z_mj1 (i := 14) rfl (by decide +kernel), rfl⟩
theorem d_Mm_charge_137 : decode prog_14_method_58_code 137 = .ok (.goto 62, 3) := by decide +kernel
theorem d_Mm_charge_111 : decode prog_14_method_58_code 111 = .ok (.iconst 1, 1) := by decide +kernel
theorem d_Mm_charge_112 : decode prog_14_method_58_code 112 = .ok (.goto 4, 3) := by decide +kernel
theorem d_Mm_charge_123 : decode prog_14_method_58_code 123 = .ok (.iconst 0, 1) := by decide +kernel
theorem d_Mm_charge_124 : decode prog_14_method_58_code 124 = .ok (.ireturn, 1) := by decide +kernel
