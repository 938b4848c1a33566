theorem wi_i : Cond.arrayClass .int ∈ gw := by decide +kernel
theorem wi_l : Cond.arrayClass .long ∈ gw := by decide +kernel
theorem wi_o : Cond.instanceMethod Lib.objectInit ∈ gw := by decide +kernel
theorem wi_c : Cond.code Lib.objectInit ⟨#[0xb1]⟩ 1 none ∈ gw := by decide +kernel
theorem wo_Lp : Cond.methodLink R_Lp 3 Lib.objectInit ∈ gw := by decide +kernel
theorem wb_Lp : CB y_Lp_init b_Lp_init 2 none 0 := ⟨by decide +kernel, in_Lp, by decide +kernel, by decide +kernel, by decide +kernel⟩
theorem wm_Lp : Cond.instanceMethod y_Lp_init ∈ gw := by decide +kernel
theorem wk_Lp : Cond.instantiable R_Lp 4 ∈ gw := by decide +kernel
theorem wp_Lp_11 : ∃ C T N, classes[0]? = some (C, T, N) ∧ Cond.fieldLink R_Lp 11 (T 0).1 (T 0).2.1 (T 0).2.2.1 ∈ gw ∧ (T 0).2.2.2 = true ∧ (T 0).1 = R_Lp ∧ parseFieldDescriptor (T 0).2.2.1 = some (.array (.object R_Tx)) := ⟨R_Lp, F_Lp, 4, rfl, by decide +kernel, rfl, rfl, by decide +kernel⟩
theorem wp_Lp_19 : ∃ C T N, classes[0]? = some (C, T, N) ∧ Cond.fieldLink R_Lp 19 (T 1).1 (T 1).2.1 (T 1).2.2.1 ∈ gw ∧ (T 1).2.2.2 = true ∧ (T 1).1 = R_Lp ∧ parseFieldDescriptor (T 1).2.2.1 = some (.object R_Ck) := ⟨R_Lp, F_Lp, 4, rfl, by decide +kernel, rfl, rfl, by decide +kernel⟩
theorem wp_Lp_26 : ∃ C T N, classes[0]? = some (C, T, N) ∧ Cond.fieldLink R_Lp 26 (T 2).1 (T 2).2.1 (T 2).2.2.1 ∈ gw ∧ (T 2).2.2.2 = true ∧ (T 2).1 = R_Lp ∧ parseFieldDescriptor (T 2).2.2.1 = some (.object R_Co) := ⟨R_Lp, F_Lp, 4, rfl, by decide +kernel, rfl, rfl, by decide +kernel⟩
theorem wp_Lp_33 : ∃ C T N, classes[0]? = some (C, T, N) ∧ Cond.fieldLink R_Lp 33 (T 3).1 (T 3).2.1 (T 3).2.2.1 ∈ gw ∧ (T 3).2.2.2 = true ∧ (T 3).1 = R_Lp ∧ parseFieldDescriptor (T 3).2.2.1 = some (.object R_Ma) := ⟨R_Lp, F_Lp, 4, rfl, by decide +kernel, rfl, rfl, by decide +kernel⟩
theorem wo_Bl : Cond.methodLink R_Bl 3 Lib.objectInit ∈ gw := by decide +kernel
theorem wb_Bl : CB y_Bl_init b_Bl_init 1 none 0 := ⟨by decide +kernel, in_Bl, by decide +kernel, by decide +kernel, by decide +kernel⟩
theorem wm_Bl : Cond.instanceMethod y_Bl_init ∈ gw := by decide +kernel
theorem wk_Bl : Cond.instantiable R_Bl 7 ∈ gw := by decide +kernel
theorem wp_Bl_9 : ∃ C T N, classes[1]? = some (C, T, N) ∧ Cond.fieldLink R_Bl 9 (T 5).1 (T 5).2.1 (T 5).2.2.1 ∈ gw ∧ (T 5).2.2.2 = true ∧ (T 5).1 = R_Bl ∧ parseFieldDescriptor (T 5).2.2.1 = some (.array .int) := ⟨R_Bl, F_Bl, 7, rfl, by decide +kernel, rfl, rfl, by decide +kernel⟩
theorem wo_Ck : Cond.methodLink R_Ck 3 Lib.objectInit ∈ gw := by decide +kernel
theorem wb_Ck : CB y_Ck_init b_Ck_init 1 none 0 := ⟨by decide +kernel, in_Ck, by decide +kernel, by decide +kernel, by decide +kernel⟩
theorem wm_Ck : Cond.instanceMethod y_Ck_init ∈ gw := by decide +kernel
theorem wk_Ck : Cond.instantiable R_Ck 2 ∈ gw := by decide +kernel
theorem wp_Ck_9 : ∃ C T N, classes[2]? = some (C, T, N) ∧ Cond.fieldLink R_Ck 9 (T 0).1 (T 0).2.1 (T 0).2.2.1 ∈ gw ∧ (T 0).2.2.2 = true ∧ (T 0).1 = R_Ck ∧ parseFieldDescriptor (T 0).2.2.1 = some (.array .int) := ⟨R_Ck, F_Ck, 2, rfl, by decide +kernel, rfl, rfl, by decide +kernel⟩
theorem wo_Co : Cond.methodLink R_Co 3 Lib.objectInit ∈ gw := by decide +kernel
theorem wb_Co : CB y_Co_init b_Co_init 2 none 0 := ⟨by decide +kernel, in_Co, by decide +kernel, by decide +kernel, by decide +kernel⟩
theorem wm_Co : Cond.instanceMethod y_Co_init ∈ gw := by decide +kernel
theorem wk_Co : Cond.instantiable R_Co 2 ∈ gw := by decide +kernel
theorem wp_Co_11 : ∃ C T N, classes[3]? = some (C, T, N) ∧ Cond.fieldLink R_Co 11 (T 0).1 (T 0).2.1 (T 0).2.2.1 ∈ gw ∧ (T 0).2.2.2 = true ∧ (T 0).1 = R_Co ∧ parseFieldDescriptor (T 0).2.2.1 = some (.array (.object R_Bl)) := ⟨R_Co, F_Co, 2, rfl, by decide +kernel, rfl, rfl, by decide +kernel⟩
theorem wo_Fr : Cond.methodLink R_Fr 3 Lib.objectInit ∈ gw := by decide +kernel
theorem wb_Fr : CB y_Fr_init b_Fr_init 1 none 0 := ⟨by decide +kernel, in_Fr, by decide +kernel, by decide +kernel, by decide +kernel⟩
theorem wm_Fr : Cond.instanceMethod y_Fr_init ∈ gw := by decide +kernel
theorem wk_Fr : Cond.instantiable R_Fr 4 ∈ gw := by decide +kernel
theorem wp_Fr_9 : ∃ C T N, classes[4]? = some (C, T, N) ∧ Cond.fieldLink R_Fr 9 (T 2).1 (T 2).2.1 (T 2).2.2.1 ∈ gw ∧ (T 2).2.2.2 = true ∧ (T 2).1 = R_Fr ∧ parseFieldDescriptor (T 2).2.2.1 = some (.array .int) := ⟨R_Fr, F_Fr, 4, rfl, by decide +kernel, rfl, rfl, by decide +kernel⟩
theorem wo_Ma : Cond.methodLink R_Ma 3 Lib.objectInit ∈ gw := by decide +kernel
theorem wb_Ma : CB y_Ma_init b_Ma_init 2 none 0 := ⟨by decide +kernel, in_Ma, by decide +kernel, by decide +kernel, by decide +kernel⟩
theorem wm_Ma : Cond.instanceMethod y_Ma_init ∈ gw := by decide +kernel
theorem wk_Ma : Cond.instantiable R_Ma 9 ∈ gw := by decide +kernel
theorem wp_Ma_12 : ∃ C T N, classes[5]? = some (C, T, N) ∧ Cond.fieldLink R_Ma 12 (T 0).1 (T 0).2.1 (T 0).2.2.1 ∈ gw ∧ (T 0).2.2.2 = true ∧ (T 0).1 = R_Ma ∧ parseFieldDescriptor (T 0).2.2.1 = some (.object R_Ty) := ⟨R_Ma, F_Ma, 9, rfl, by decide +kernel, rfl, rfl, by decide +kernel⟩
theorem wp_Ma_21 : ∃ C T N, classes[5]? = some (C, T, N) ∧ Cond.fieldLink R_Ma 21 (T 2).1 (T 2).2.1 (T 2).2.2.1 ∈ gw ∧ (T 2).2.2.2 = true ∧ (T 2).1 = R_Ma ∧ parseFieldDescriptor (T 2).2.2.1 = some (.object R_Ta) := ⟨R_Ma, F_Ma, 9, rfl, by decide +kernel, rfl, rfl, by decide +kernel⟩
theorem wp_Ma_27 : ∃ C T N, classes[5]? = some (C, T, N) ∧ Cond.fieldLink R_Ma 27 (T 1).1 (T 1).2.1 (T 1).2.2.1 ∈ gw ∧ (T 1).2.2.2 = true ∧ (T 1).1 = R_Ma ∧ parseFieldDescriptor (T 1).2.2.1 = some (.array (.object R_Pr)) := ⟨R_Ma, F_Ma, 9, rfl, by decide +kernel, rfl, rfl, by decide +kernel⟩
theorem wp_Ma_34 : ∃ C T N, classes[5]? = some (C, T, N) ∧ Cond.fieldLink R_Ma 34 (T 3).1 (T 3).2.1 (T 3).2.2.1 ∈ gw ∧ (T 3).2.2.2 = true ∧ (T 3).1 = R_Ma ∧ parseFieldDescriptor (T 3).2.2.1 = some (.array (.object R_Fr)) := ⟨R_Ma, F_Ma, 9, rfl, by decide +kernel, rfl, rfl, by decide +kernel⟩
theorem wo_Pr : Cond.methodLink R_Pr 3 Lib.objectInit ∈ gw := by decide +kernel
theorem wb_Pr : CB y_Pr_init b_Pr_init 1 none 0 := ⟨by decide +kernel, in_Pr, by decide +kernel, by decide +kernel, by decide +kernel⟩
theorem wm_Pr : Cond.instanceMethod y_Pr_init ∈ gw := by decide +kernel
theorem wk_Pr : Cond.instantiable R_Pr 11 ∈ gw := by decide +kernel
theorem wp_Pr_9 : ∃ C T N, classes[6]? = some (C, T, N) ∧ Cond.fieldLink R_Pr 9 (T 0).1 (T 0).2.1 (T 0).2.2.1 ∈ gw ∧ (T 0).2.2.2 = true ∧ (T 0).1 = R_Pr ∧ parseFieldDescriptor (T 0).2.2.1 = some (.array .int) := ⟨R_Pr, F_Pr, 11, rfl, by decide +kernel, rfl, rfl, by decide +kernel⟩
theorem wp_Pr_15 : ∃ C T N, classes[6]? = some (C, T, N) ∧ Cond.fieldLink R_Pr 15 (T 1).1 (T 1).2.1 (T 1).2.2.1 ∈ gw ∧ (T 1).2.2.2 = true ∧ (T 1).1 = R_Pr ∧ parseFieldDescriptor (T 1).2.2.1 = some (.array .int) := ⟨R_Pr, F_Pr, 11, rfl, by decide +kernel, rfl, rfl, by decide +kernel⟩
theorem wp_Pr_18 : ∃ C T N, classes[6]? = some (C, T, N) ∧ Cond.fieldLink R_Pr 18 (T 3).1 (T 3).2.1 (T 3).2.2.1 ∈ gw ∧ (T 3).2.2.2 = true ∧ (T 3).1 = R_Pr ∧ parseFieldDescriptor (T 3).2.2.1 = some (.array .int) := ⟨R_Pr, F_Pr, 11, rfl, by decide +kernel, rfl, rfl, by decide +kernel⟩
theorem wp_Pr_21 : ∃ C T N, classes[6]? = some (C, T, N) ∧ Cond.fieldLink R_Pr 21 (T 4).1 (T 4).2.1 (T 4).2.2.1 ∈ gw ∧ (T 4).2.2.2 = true ∧ (T 4).1 = R_Pr ∧ parseFieldDescriptor (T 4).2.2.1 = some (.array .int) := ⟨R_Pr, F_Pr, 11, rfl, by decide +kernel, rfl, rfl, by decide +kernel⟩
theorem wp_Pr_24 : ∃ C T N, classes[6]? = some (C, T, N) ∧ Cond.fieldLink R_Pr 24 (T 5).1 (T 5).2.1 (T 5).2.2.1 ∈ gw ∧ (T 5).2.2.2 = true ∧ (T 5).1 = R_Pr ∧ parseFieldDescriptor (T 5).2.2.1 = some (.array .int) := ⟨R_Pr, F_Pr, 11, rfl, by decide +kernel, rfl, rfl, by decide +kernel⟩
theorem wp_Pr_27 : ∃ C T N, classes[6]? = some (C, T, N) ∧ Cond.fieldLink R_Pr 27 (T 7).1 (T 7).2.1 (T 7).2.2.1 ∈ gw ∧ (T 7).2.2.2 = true ∧ (T 7).1 = R_Pr ∧ parseFieldDescriptor (T 7).2.2.1 = some (.array .int) := ⟨R_Pr, F_Pr, 11, rfl, by decide +kernel, rfl, rfl, by decide +kernel⟩
theorem wp_Pr_30 : ∃ C T N, classes[6]? = some (C, T, N) ∧ Cond.fieldLink R_Pr 30 (T 8).1 (T 8).2.1 (T 8).2.2.1 ∈ gw ∧ (T 8).2.2.2 = true ∧ (T 8).1 = R_Pr ∧ parseFieldDescriptor (T 8).2.2.1 = some (.array .int) := ⟨R_Pr, F_Pr, 11, rfl, by decide +kernel, rfl, rfl, by decide +kernel⟩
theorem wp_Pr_33 : ∃ C T N, classes[6]? = some (C, T, N) ∧ Cond.fieldLink R_Pr 33 (T 9).1 (T 9).2.1 (T 9).2.2.1 ∈ gw ∧ (T 9).2.2.2 = true ∧ (T 9).1 = R_Pr ∧ parseFieldDescriptor (T 9).2.2.1 = some (.array .int) := ⟨R_Pr, F_Pr, 11, rfl, by decide +kernel, rfl, rfl, by decide +kernel⟩
theorem wo_Ta : Cond.methodLink R_Ta 3 Lib.objectInit ∈ gw := by decide +kernel
theorem wb_Ta : CB y_Ta_init b_Ta_init 1 none 0 := ⟨by decide +kernel, in_Ta, by decide +kernel, by decide +kernel, by decide +kernel⟩
theorem wm_Ta : Cond.instanceMethod y_Ta_init ∈ gw := by decide +kernel
theorem wk_Ta : Cond.instantiable R_Ta 7 ∈ gw := by decide +kernel
theorem wp_Ta_9 : ∃ C T N, classes[7]? = some (C, T, N) ∧ Cond.fieldLink R_Ta 9 (T 0).1 (T 0).2.1 (T 0).2.2.1 ∈ gw ∧ (T 0).2.2.2 = true ∧ (T 0).1 = R_Ta ∧ parseFieldDescriptor (T 0).2.2.1 = some (.array .int) := ⟨R_Ta, F_Ta, 7, rfl, by decide +kernel, rfl, rfl, by decide +kernel⟩
theorem wp_Ta_15 : ∃ C T N, classes[7]? = some (C, T, N) ∧ Cond.fieldLink R_Ta 15 (T 6).1 (T 6).2.1 (T 6).2.2.1 ∈ gw ∧ (T 6).2.2.2 = false ∧ parseFieldDescriptor (T 6).2.2.1 = some .int := ⟨R_Ta, F_Ta, 7, rfl, by decide +kernel, rfl, by decide +kernel⟩
theorem wo_Tx : Cond.methodLink R_Tx 3 Lib.objectInit ∈ gw := by decide +kernel
theorem wb_Tx : CB y_Tx_init b_Tx_init 1 none 0 := ⟨by decide +kernel, in_Tx, by decide +kernel, by decide +kernel, by decide +kernel⟩
theorem wm_Tx : Cond.instanceMethod y_Tx_init ∈ gw := by decide +kernel
theorem wk_Tx : Cond.instantiable R_Tx 3 ∈ gw := by decide +kernel
theorem wp_Tx_9 : ∃ C T N, classes[8]? = some (C, T, N) ∧ Cond.fieldLink R_Tx 9 (T 0).1 (T 0).2.1 (T 0).2.2.1 ∈ gw ∧ (T 0).2.2.2 = true ∧ (T 0).1 = R_Tx ∧ parseFieldDescriptor (T 0).2.2.1 = some (.array .int) := ⟨R_Tx, F_Tx, 3, rfl, by decide +kernel, rfl, rfl, by decide +kernel⟩
theorem wp_Tx_15 : ∃ C T N, classes[8]? = some (C, T, N) ∧ Cond.fieldLink R_Tx 15 (T 1).1 (T 1).2.1 (T 1).2.2.1 ∈ gw ∧ (T 1).2.2.2 = true ∧ (T 1).1 = R_Tx ∧ parseFieldDescriptor (T 1).2.2.1 = some (.array .int) := ⟨R_Tx, F_Tx, 3, rfl, by decide +kernel, rfl, rfl, by decide +kernel⟩
theorem wo_Ty : Cond.methodLink R_Ty 3 Lib.objectInit ∈ gw := by decide +kernel
theorem wb_Ty : CB y_Ty_init b_Ty_init 1 none 0 := ⟨by decide +kernel, in_Ty, by decide +kernel, by decide +kernel, by decide +kernel⟩
theorem wm_Ty : Cond.instanceMethod y_Ty_init ∈ gw := by decide +kernel
theorem wk_Ty : Cond.instantiable R_Ty 2 ∈ gw := by decide +kernel
theorem wp_Ty_9 : ∃ C T N, classes[9]? = some (C, T, N) ∧ Cond.fieldLink R_Ty 9 (T 0).1 (T 0).2.1 (T 0).2.2.1 ∈ gw ∧ (T 0).2.2.2 = true ∧ (T 0).1 = R_Ty ∧ parseFieldDescriptor (T 0).2.2.1 = some (.array .int) := ⟨R_Ty, F_Ty, 2, rfl, by decide +kernel, rfl, rfl, by decide +kernel⟩
theorem wp_Ty_15 : ∃ C T N, classes[9]? = some (C, T, N) ∧ Cond.fieldLink R_Ty 15 (T 1).1 (T 1).2.1 (T 1).2.2.1 ∈ gw ∧ (T 1).2.2.2 = false ∧ parseFieldDescriptor (T 1).2.2.1 = some .int := ⟨R_Ty, F_Ty, 2, rfl, by decide +kernel, rfl, by decide +kernel⟩
theorem wo_Mo : Cond.methodLink R_Mo 1 Lib.objectInit ∈ gw := by decide +kernel
theorem wb_Mo : CB y_Mo_init b_Mo_init 1 none 0 := ⟨by decide +kernel, in_Mo, by decide +kernel, by decide +kernel, by decide +kernel⟩
theorem wm_Mo : Cond.instanceMethod y_Mo_init ∈ gw := by decide +kernel
theorem wk_Mo : Cond.instantiable R_Mo 38 ∈ gw := by decide +kernel
theorem wp_Mo_7 : ∃ C T N, classes[10]? = some (C, T, N) ∧ Cond.fieldLink R_Mo 7 (T 1).1 (T 1).2.1 (T 1).2.2.1 ∈ gw ∧ (T 1).2.2.2 = false ∧ parseFieldDescriptor (T 1).2.2.1 = some .int := ⟨R_Mo, F_Mo, 38, rfl, by decide +kernel, rfl, by decide +kernel⟩
theorem wp_Mo_13 : ∃ C T N, classes[10]? = some (C, T, N) ∧ Cond.fieldLink R_Mo 13 (T 2).1 (T 2).2.1 (T 2).2.2.1 ∈ gw ∧ (T 2).2.2.2 = true ∧ (T 2).1 = R_Mo ∧ parseFieldDescriptor (T 2).2.2.1 = some (.array .int) := ⟨R_Mo, F_Mo, 38, rfl, by decide +kernel, rfl, rfl, by decide +kernel⟩
theorem wp_Mo_17 : ∃ C T N, classes[10]? = some (C, T, N) ∧ Cond.fieldLink R_Mo 17 (T 3).1 (T 3).2.1 (T 3).2.2.1 ∈ gw ∧ (T 3).2.2.2 = true ∧ (T 3).1 = R_Mo ∧ parseFieldDescriptor (T 3).2.2.1 = some (.array .int) := ⟨R_Mo, F_Mo, 38, rfl, by decide +kernel, rfl, rfl, by decide +kernel⟩
theorem wp_Mo_20 : ∃ C T N, classes[10]? = some (C, T, N) ∧ Cond.fieldLink R_Mo 20 (T 4).1 (T 4).2.1 (T 4).2.2.1 ∈ gw ∧ (T 4).2.2.2 = true ∧ (T 4).1 = R_Mo ∧ parseFieldDescriptor (T 4).2.2.1 = some (.array .int) := ⟨R_Mo, F_Mo, 38, rfl, by decide +kernel, rfl, rfl, by decide +kernel⟩
theorem wp_Mo_23 : ∃ C T N, classes[10]? = some (C, T, N) ∧ Cond.fieldLink R_Mo 23 (T 5).1 (T 5).2.1 (T 5).2.2.1 ∈ gw ∧ (T 5).2.2.2 = true ∧ (T 5).1 = R_Mo ∧ parseFieldDescriptor (T 5).2.2.1 = some (.array .int) := ⟨R_Mo, F_Mo, 38, rfl, by decide +kernel, rfl, rfl, by decide +kernel⟩
theorem wp_Mo_26 : ∃ C T N, classes[10]? = some (C, T, N) ∧ Cond.fieldLink R_Mo 26 (T 6).1 (T 6).2.1 (T 6).2.2.1 ∈ gw ∧ (T 6).2.2.2 = true ∧ (T 6).1 = R_Mo ∧ parseFieldDescriptor (T 6).2.2.1 = some (.array .int) := ⟨R_Mo, F_Mo, 38, rfl, by decide +kernel, rfl, rfl, by decide +kernel⟩
theorem wp_Mo_29 : ∃ C T N, classes[10]? = some (C, T, N) ∧ Cond.fieldLink R_Mo 29 (T 7).1 (T 7).2.1 (T 7).2.2.1 ∈ gw ∧ (T 7).2.2.2 = true ∧ (T 7).1 = R_Mo ∧ parseFieldDescriptor (T 7).2.2.1 = some (.array .int) := ⟨R_Mo, F_Mo, 38, rfl, by decide +kernel, rfl, rfl, by decide +kernel⟩
theorem wp_Mo_32 : ∃ C T N, classes[10]? = some (C, T, N) ∧ Cond.fieldLink R_Mo 32 (T 8).1 (T 8).2.1 (T 8).2.2.1 ∈ gw ∧ (T 8).2.2.2 = true ∧ (T 8).1 = R_Mo ∧ parseFieldDescriptor (T 8).2.2.1 = some (.array .int) := ⟨R_Mo, F_Mo, 38, rfl, by decide +kernel, rfl, rfl, by decide +kernel⟩
theorem wp_Mo_35 : ∃ C T N, classes[10]? = some (C, T, N) ∧ Cond.fieldLink R_Mo 35 (T 9).1 (T 9).2.1 (T 9).2.2.1 ∈ gw ∧ (T 9).2.2.2 = true ∧ (T 9).1 = R_Mo ∧ parseFieldDescriptor (T 9).2.2.1 = some (.array .int) := ⟨R_Mo, F_Mo, 38, rfl, by decide +kernel, rfl, rfl, by decide +kernel⟩
theorem wp_Mo_38 : ∃ C T N, classes[10]? = some (C, T, N) ∧ Cond.fieldLink R_Mo 38 (T 10).1 (T 10).2.1 (T 10).2.2.1 ∈ gw ∧ (T 10).2.2.2 = true ∧ (T 10).1 = R_Mo ∧ parseFieldDescriptor (T 10).2.2.1 = some (.array .int) := ⟨R_Mo, F_Mo, 38, rfl, by decide +kernel, rfl, rfl, by decide +kernel⟩
theorem wp_Mo_41 : ∃ C T N, classes[10]? = some (C, T, N) ∧ Cond.fieldLink R_Mo 41 (T 11).1 (T 11).2.1 (T 11).2.2.1 ∈ gw ∧ (T 11).2.2.2 = true ∧ (T 11).1 = R_Mo ∧ parseFieldDescriptor (T 11).2.2.1 = some (.array .int) := ⟨R_Mo, F_Mo, 38, rfl, by decide +kernel, rfl, rfl, by decide +kernel⟩
theorem wp_Mo_44 : ∃ C T N, classes[10]? = some (C, T, N) ∧ Cond.fieldLink R_Mo 44 (T 12).1 (T 12).2.1 (T 12).2.2.1 ∈ gw ∧ (T 12).2.2.2 = true ∧ (T 12).1 = R_Mo ∧ parseFieldDescriptor (T 12).2.2.1 = some (.array .int) := ⟨R_Mo, F_Mo, 38, rfl, by decide +kernel, rfl, rfl, by decide +kernel⟩
theorem wp_Mo_47 : ∃ C T N, classes[10]? = some (C, T, N) ∧ Cond.fieldLink R_Mo 47 (T 13).1 (T 13).2.1 (T 13).2.2.1 ∈ gw ∧ (T 13).2.2.2 = true ∧ (T 13).1 = R_Mo ∧ parseFieldDescriptor (T 13).2.2.1 = some (.array .int) := ⟨R_Mo, F_Mo, 38, rfl, by decide +kernel, rfl, rfl, by decide +kernel⟩
theorem wp_Mo_50 : ∃ C T N, classes[10]? = some (C, T, N) ∧ Cond.fieldLink R_Mo 50 (T 14).1 (T 14).2.1 (T 14).2.2.1 ∈ gw ∧ (T 14).2.2.2 = true ∧ (T 14).1 = R_Mo ∧ parseFieldDescriptor (T 14).2.2.1 = some (.array .int) := ⟨R_Mo, F_Mo, 38, rfl, by decide +kernel, rfl, rfl, by decide +kernel⟩
theorem wp_Mo_53 : ∃ C T N, classes[10]? = some (C, T, N) ∧ Cond.fieldLink R_Mo 53 (T 15).1 (T 15).2.1 (T 15).2.2.1 ∈ gw ∧ (T 15).2.2.2 = true ∧ (T 15).1 = R_Mo ∧ parseFieldDescriptor (T 15).2.2.1 = some (.array .int) := ⟨R_Mo, F_Mo, 38, rfl, by decide +kernel, rfl, rfl, by decide +kernel⟩
theorem wp_Mo_56 : ∃ C T N, classes[10]? = some (C, T, N) ∧ Cond.fieldLink R_Mo 56 (T 16).1 (T 16).2.1 (T 16).2.2.1 ∈ gw ∧ (T 16).2.2.2 = true ∧ (T 16).1 = R_Mo ∧ parseFieldDescriptor (T 16).2.2.1 = some (.array .int) := ⟨R_Mo, F_Mo, 38, rfl, by decide +kernel, rfl, rfl, by decide +kernel⟩
theorem wp_Mo_59 : ∃ C T N, classes[10]? = some (C, T, N) ∧ Cond.fieldLink R_Mo 59 (T 17).1 (T 17).2.1 (T 17).2.2.1 ∈ gw ∧ (T 17).2.2.2 = true ∧ (T 17).1 = R_Mo ∧ parseFieldDescriptor (T 17).2.2.1 = some (.array .int) := ⟨R_Mo, F_Mo, 38, rfl, by decide +kernel, rfl, rfl, by decide +kernel⟩
theorem wp_Mo_62 : ∃ C T N, classes[10]? = some (C, T, N) ∧ Cond.fieldLink R_Mo 62 (T 19).1 (T 19).2.1 (T 19).2.2.1 ∈ gw ∧ (T 19).2.2.2 = true ∧ (T 19).1 = R_Mo ∧ parseFieldDescriptor (T 19).2.2.1 = some (.array .int) := ⟨R_Mo, F_Mo, 38, rfl, by decide +kernel, rfl, rfl, by decide +kernel⟩
theorem wp_Mo_65 : ∃ C T N, classes[10]? = some (C, T, N) ∧ Cond.fieldLink R_Mo 65 (T 20).1 (T 20).2.1 (T 20).2.2.1 ∈ gw ∧ (T 20).2.2.2 = true ∧ (T 20).1 = R_Mo ∧ parseFieldDescriptor (T 20).2.2.1 = some (.array .int) := ⟨R_Mo, F_Mo, 38, rfl, by decide +kernel, rfl, rfl, by decide +kernel⟩
theorem wp_Mo_68 : ∃ C T N, classes[10]? = some (C, T, N) ∧ Cond.fieldLink R_Mo 68 (T 21).1 (T 21).2.1 (T 21).2.2.1 ∈ gw ∧ (T 21).2.2.2 = true ∧ (T 21).1 = R_Mo ∧ parseFieldDescriptor (T 21).2.2.1 = some (.array .int) := ⟨R_Mo, F_Mo, 38, rfl, by decide +kernel, rfl, rfl, by decide +kernel⟩
theorem wp_Mo_71 : ∃ C T N, classes[10]? = some (C, T, N) ∧ Cond.fieldLink R_Mo 71 (T 22).1 (T 22).2.1 (T 22).2.2.1 ∈ gw ∧ (T 22).2.2.2 = true ∧ (T 22).1 = R_Mo ∧ parseFieldDescriptor (T 22).2.2.1 = some (.array .int) := ⟨R_Mo, F_Mo, 38, rfl, by decide +kernel, rfl, rfl, by decide +kernel⟩
theorem wp_Mo_74 : ∃ C T N, classes[10]? = some (C, T, N) ∧ Cond.fieldLink R_Mo 74 (T 23).1 (T 23).2.1 (T 23).2.2.1 ∈ gw ∧ (T 23).2.2.2 = true ∧ (T 23).1 = R_Mo ∧ parseFieldDescriptor (T 23).2.2.1 = some (.array .int) := ⟨R_Mo, F_Mo, 38, rfl, by decide +kernel, rfl, rfl, by decide +kernel⟩
theorem wp_Mo_77 : ∃ C T N, classes[10]? = some (C, T, N) ∧ Cond.fieldLink R_Mo 77 (T 24).1 (T 24).2.1 (T 24).2.2.1 ∈ gw ∧ (T 24).2.2.2 = true ∧ (T 24).1 = R_Mo ∧ parseFieldDescriptor (T 24).2.2.1 = some (.array .int) := ⟨R_Mo, F_Mo, 38, rfl, by decide +kernel, rfl, rfl, by decide +kernel⟩
theorem wp_Mo_80 : ∃ C T N, classes[10]? = some (C, T, N) ∧ Cond.fieldLink R_Mo 80 (T 26).1 (T 26).2.1 (T 26).2.2.1 ∈ gw ∧ (T 26).2.2.2 = true ∧ (T 26).1 = R_Mo ∧ parseFieldDescriptor (T 26).2.2.1 = some (.array .int) := ⟨R_Mo, F_Mo, 38, rfl, by decide +kernel, rfl, rfl, by decide +kernel⟩
theorem wp_Mo_83 : ∃ C T N, classes[10]? = some (C, T, N) ∧ Cond.fieldLink R_Mo 83 (T 27).1 (T 27).2.1 (T 27).2.2.1 ∈ gw ∧ (T 27).2.2.2 = true ∧ (T 27).1 = R_Mo ∧ parseFieldDescriptor (T 27).2.2.1 = some (.array .int) := ⟨R_Mo, F_Mo, 38, rfl, by decide +kernel, rfl, rfl, by decide +kernel⟩
theorem wp_Mo_86 : ∃ C T N, classes[10]? = some (C, T, N) ∧ Cond.fieldLink R_Mo 86 (T 28).1 (T 28).2.1 (T 28).2.2.1 ∈ gw ∧ (T 28).2.2.2 = true ∧ (T 28).1 = R_Mo ∧ parseFieldDescriptor (T 28).2.2.1 = some (.array .int) := ⟨R_Mo, F_Mo, 38, rfl, by decide +kernel, rfl, rfl, by decide +kernel⟩
theorem wp_Mo_89 : ∃ C T N, classes[10]? = some (C, T, N) ∧ Cond.fieldLink R_Mo 89 (T 29).1 (T 29).2.1 (T 29).2.2.1 ∈ gw ∧ (T 29).2.2.2 = true ∧ (T 29).1 = R_Mo ∧ parseFieldDescriptor (T 29).2.2.1 = some (.array .int) := ⟨R_Mo, F_Mo, 38, rfl, by decide +kernel, rfl, rfl, by decide +kernel⟩
theorem wp_Mo_92 : ∃ C T N, classes[10]? = some (C, T, N) ∧ Cond.fieldLink R_Mo 92 (T 30).1 (T 30).2.1 (T 30).2.2.1 ∈ gw ∧ (T 30).2.2.2 = true ∧ (T 30).1 = R_Mo ∧ parseFieldDescriptor (T 30).2.2.1 = some (.array .int) := ⟨R_Mo, F_Mo, 38, rfl, by decide +kernel, rfl, rfl, by decide +kernel⟩
theorem wp_Mo_95 : ∃ C T N, classes[10]? = some (C, T, N) ∧ Cond.fieldLink R_Mo 95 (T 36).1 (T 36).2.1 (T 36).2.2.1 ∈ gw ∧ (T 36).2.2.2 = true ∧ (T 36).1 = R_Mo ∧ parseFieldDescriptor (T 36).2.2.1 = some (.array .int) := ⟨R_Mo, F_Mo, 38, rfl, by decide +kernel, rfl, rfl, by decide +kernel⟩
theorem wp_Mo_98 : ∃ C T N, classes[10]? = some (C, T, N) ∧ Cond.fieldLink R_Mo 98 (T 37).1 (T 37).2.1 (T 37).2.2.1 ∈ gw ∧ (T 37).2.2.2 = true ∧ (T 37).1 = R_Mo ∧ parseFieldDescriptor (T 37).2.2.1 = some (.array .int) := ⟨R_Mo, F_Mo, 38, rfl, by decide +kernel, rfl, rfl, by decide +kernel⟩
