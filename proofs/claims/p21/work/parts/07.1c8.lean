set_option maxHeartbeats 4000000 in
theorem s_X10_clear_0 (N : Nat) (hN : 1000 ≤ N) (σ : fd_St) (i0 : fd_InvC σ) : fd_ok (f_X10_clear_0 N σ) (fun v s => fd_InvC s ∧ fd_fr [0, 1, 2, 3, 4, 5, 15, 16, 17, 18, 129] σ s ∧ ((s.1 1).toInt = 0 ∧ (s.1 2).toInt = 0 ∧ (s.1 3).toInt = 0 ∧ (s.1 4).toInt = 0 ∧ (s.1 5).toInt = 0 ∧ (s.1 16).toInt = 0 ∧ (s.1 17).toInt = 0 ∧ (s.1 18).toInt = 0)) := by
  have lit0 : (0 : Int32).toInt = 0 := by decide
  have lit1 : (1 : Int32).toInt = 1 := by decide
  have lit200 : (200 : Int32).toInt = 200 := by decide
  have f0 : fd_fr [0, 1, 2, 3, 4, 5, 15, 16, 17, 18, 129] σ σ := fd_fr_rf
  unfold f_X10_clear_0
  refine fd_ok_bd ?_
  try unfold f_X2_forget_1
  refine fd_ok_lt (fun σ1_1 eσ1_1 => ?_)
  have i_2 : fd_InvC σ1_1 := fd_inv_sI eσ1_1 i0 ⟨(by omega : (0 : Int) ≤ (0 : Int32).toInt), (by omega : (0 : Int32).toInt ≤ 200)⟩
  have f_3 : fd_fr [0, 1, 2, 3, 4, 5, 15, 16, 17, 18, 129] σ σ1_1 := fd_fr_tr f0 (fd_fr_sI eσ1_1 (by decide))
  have t_4 : (σ1_1.1 1).toInt = (0 : Int32).toInt := congrArg Int32.toInt (fd_tI eσ1_1)
  have t_5 : (σ1_1.1 2).toInt = (σ.1 2).toInt := congrArg Int32.toInt (fd_tN eσ1_1 (by decide))
  have t_6 : (σ1_1.1 3).toInt = (σ.1 3).toInt := congrArg Int32.toInt (fd_tN eσ1_1 (by decide))
  have t_7 : (σ1_1.1 4).toInt = (σ.1 4).toInt := congrArg Int32.toInt (fd_tN eσ1_1 (by decide))
  have t_8 : (σ1_1.1 5).toInt = (σ.1 5).toInt := congrArg Int32.toInt (fd_tN eσ1_1 (by decide))
  have t_9 : (σ1_1.1 16).toInt = (σ.1 16).toInt := congrArg Int32.toInt (fd_tN eσ1_1 (by decide))
  have t_10 : (σ1_1.1 17).toInt = (σ.1 17).toInt := congrArg Int32.toInt (fd_tN eσ1_1 (by decide))
  have t_11 : (σ1_1.1 18).toInt = (σ.1 18).toInt := congrArg Int32.toInt (fd_tN eσ1_1 (by decide))
  refine fd_ok_lt (fun σ2_12 eσ2_12 => ?_)
  have i_13 : fd_InvC σ2_12 := fd_inv_sI eσ2_12 i_2 ⟨(by omega : (0 : Int) ≤ (0 : Int32).toInt), (by omega : (0 : Int32).toInt ≤ 32)⟩
  have f_14 : fd_fr [0, 1, 2, 3, 4, 5, 15, 16, 17, 18, 129] σ σ2_12 := fd_fr_tr f_3 (fd_fr_sI eσ2_12 (by decide))
  have t_15 : (σ2_12.1 1).toInt = (σ1_1.1 1).toInt := congrArg Int32.toInt (fd_tN eσ2_12 (by decide))
  have t_16 : (σ2_12.1 2).toInt = (0 : Int32).toInt := congrArg Int32.toInt (fd_tI eσ2_12)
  have t_17 : (σ2_12.1 3).toInt = (σ1_1.1 3).toInt := congrArg Int32.toInt (fd_tN eσ2_12 (by decide))
  have t_18 : (σ2_12.1 4).toInt = (σ1_1.1 4).toInt := congrArg Int32.toInt (fd_tN eσ2_12 (by decide))
  have t_19 : (σ2_12.1 5).toInt = (σ1_1.1 5).toInt := congrArg Int32.toInt (fd_tN eσ2_12 (by decide))
  have t_20 : (σ2_12.1 16).toInt = (σ1_1.1 16).toInt := congrArg Int32.toInt (fd_tN eσ2_12 (by decide))
  have t_21 : (σ2_12.1 17).toInt = (σ1_1.1 17).toInt := congrArg Int32.toInt (fd_tN eσ2_12 (by decide))
  have t_22 : (σ2_12.1 18).toInt = (σ1_1.1 18).toInt := congrArg Int32.toInt (fd_tN eσ2_12 (by decide))
  refine fd_ok_lt (fun σ3_23 eσ3_23 => ?_)
  have i_24 : fd_InvC σ3_23 := fd_inv_sI eσ3_23 i_13 ⟨(by omega : (0 : Int) ≤ (0 : Int32).toInt), (by omega : (0 : Int32).toInt ≤ 64)⟩
  have f_25 : fd_fr [0, 1, 2, 3, 4, 5, 15, 16, 17, 18, 129] σ σ3_23 := fd_fr_tr f_14 (fd_fr_sI eσ3_23 (by decide))
  have t_26 : (σ3_23.1 1).toInt = (σ2_12.1 1).toInt := congrArg Int32.toInt (fd_tN eσ3_23 (by decide))
  have t_27 : (σ3_23.1 2).toInt = (σ2_12.1 2).toInt := congrArg Int32.toInt (fd_tN eσ3_23 (by decide))
  have t_28 : (σ3_23.1 3).toInt = (0 : Int32).toInt := congrArg Int32.toInt (fd_tI eσ3_23)
  have t_29 : (σ3_23.1 4).toInt = (σ2_12.1 4).toInt := congrArg Int32.toInt (fd_tN eσ3_23 (by decide))
  have t_30 : (σ3_23.1 5).toInt = (σ2_12.1 5).toInt := congrArg Int32.toInt (fd_tN eσ3_23 (by decide))
  have t_31 : (σ3_23.1 16).toInt = (σ2_12.1 16).toInt := congrArg Int32.toInt (fd_tN eσ3_23 (by decide))
  have t_32 : (σ3_23.1 17).toInt = (σ2_12.1 17).toInt := congrArg Int32.toInt (fd_tN eσ3_23 (by decide))
  have t_33 : (σ3_23.1 18).toInt = (σ2_12.1 18).toInt := congrArg Int32.toInt (fd_tN eσ3_23 (by decide))
  refine fd_ok_pb ?_
  refine fd_ok_bd ?_
  try unfold f_X5_forget_2
  refine fd_ok_lt (fun σ1_34 eσ1_34 => ?_)
  have i_35 : fd_InvC σ1_34 := fd_inv_sI eσ1_34 i_24 ⟨(by omega : (0 : Int) ≤ (0 : Int32).toInt), (by omega : (0 : Int32).toInt ≤ 32)⟩
  have f_36 : fd_fr [0, 1, 2, 3, 4, 5, 15, 16, 17, 18, 129] σ σ1_34 := fd_fr_tr f_25 (fd_fr_sI eσ1_34 (by decide))
  have t_37 : (σ1_34.1 1).toInt = (σ3_23.1 1).toInt := congrArg Int32.toInt (fd_tN eσ1_34 (by decide))
  have t_38 : (σ1_34.1 2).toInt = (σ3_23.1 2).toInt := congrArg Int32.toInt (fd_tN eσ1_34 (by decide))
  have t_39 : (σ1_34.1 3).toInt = (σ3_23.1 3).toInt := congrArg Int32.toInt (fd_tN eσ1_34 (by decide))
  have t_40 : (σ1_34.1 4).toInt = (0 : Int32).toInt := congrArg Int32.toInt (fd_tI eσ1_34)
  have t_41 : (σ1_34.1 5).toInt = (σ3_23.1 5).toInt := congrArg Int32.toInt (fd_tN eσ1_34 (by decide))
  have t_42 : (σ1_34.1 16).toInt = (σ3_23.1 16).toInt := congrArg Int32.toInt (fd_tN eσ1_34 (by decide))
  have t_43 : (σ1_34.1 17).toInt = (σ3_23.1 17).toInt := congrArg Int32.toInt (fd_tN eσ1_34 (by decide))
  have t_44 : (σ1_34.1 18).toInt = (σ3_23.1 18).toInt := congrArg Int32.toInt (fd_tN eσ1_34 (by decide))
  refine fd_ok_pb ?_
  refine fd_ok_bd ?_
  try unfold f_X4_forget_3
  refine fd_ok_lt (fun σ1_45 eσ1_45 => ?_)
  have i_46 : fd_InvC σ1_45 := fd_inv_sI eσ1_45 i_35 ⟨(by omega : (0 : Int) ≤ (0 : Int32).toInt), (by omega : (0 : Int32).toInt ≤ 40)⟩
  have f_47 : fd_fr [0, 1, 2, 3, 4, 5, 15, 16, 17, 18, 129] σ σ1_45 := fd_fr_tr f_36 (fd_fr_sI eσ1_45 (by decide))
  have t_48 : (σ1_45.1 1).toInt = (σ1_34.1 1).toInt := congrArg Int32.toInt (fd_tN eσ1_45 (by decide))
  have t_49 : (σ1_45.1 2).toInt = (σ1_34.1 2).toInt := congrArg Int32.toInt (fd_tN eσ1_45 (by decide))
  have t_50 : (σ1_45.1 3).toInt = (σ1_34.1 3).toInt := congrArg Int32.toInt (fd_tN eσ1_45 (by decide))
  have t_51 : (σ1_45.1 4).toInt = (σ1_34.1 4).toInt := congrArg Int32.toInt (fd_tN eσ1_45 (by decide))
  have t_52 : (σ1_45.1 5).toInt = (0 : Int32).toInt := congrArg Int32.toInt (fd_tI eσ1_45)
  have t_53 : (σ1_45.1 16).toInt = (σ1_34.1 16).toInt := congrArg Int32.toInt (fd_tN eσ1_45 (by decide))
  have t_54 : (σ1_45.1 17).toInt = (σ1_34.1 17).toInt := congrArg Int32.toInt (fd_tN eσ1_45 (by decide))
  have t_55 : (σ1_45.1 18).toInt = (σ1_34.1 18).toInt := congrArg Int32.toInt (fd_tN eσ1_45 (by decide))
  refine fd_ok_pb ?_
  refine fd_ok_bd ?_
  try unfold f_X7_forget_9
  refine fd_ok_bd ?_
  try unfold f_J7_fill_53178_C_29
  refine fd_ok_cl (s_J7_fill_53178_C_29_L5 N hN N _ _ _ _ i_46 (by omega) (by omega) (by omega) (by omega)) ?_
  rintro v_56 σ_57 ⟨i_58, g_59, x_60⟩
  have f_61 : fd_fr [0, 1, 2, 3, 4, 5, 15, 16, 17, 18, 129] σ σ_57 := fd_fr_tr f_47 (fd_fr_mono g_59 (by decide))
  have t_62 : (σ_57.1 1).toInt = (σ1_45.1 1).toInt := congrArg Int32.toInt (g_59.1 1 (by decide))
  have t_63 : (σ_57.1 2).toInt = (σ1_45.1 2).toInt := congrArg Int32.toInt (g_59.1 2 (by decide))
  have t_64 : (σ_57.1 3).toInt = (σ1_45.1 3).toInt := congrArg Int32.toInt (g_59.1 3 (by decide))
  have t_65 : (σ_57.1 4).toInt = (σ1_45.1 4).toInt := congrArg Int32.toInt (g_59.1 4 (by decide))
  have t_66 : (σ_57.1 5).toInt = (σ1_45.1 5).toInt := congrArg Int32.toInt (g_59.1 5 (by decide))
  have t_67 : (σ_57.1 16).toInt = (σ1_45.1 16).toInt := congrArg Int32.toInt (g_59.1 16 (by decide))
  have t_68 : (σ_57.1 17).toInt = (σ1_45.1 17).toInt := congrArg Int32.toInt (g_59.1 17 (by decide))
  have t_69 : (σ_57.1 18).toInt = (σ1_45.1 18).toInt := congrArg Int32.toInt (g_59.1 18 (by decide))
  refine fd_ok_lt (fun σ6_70 eσ6_70 => ?_)
  have i_71 : fd_InvC σ6_70 := fd_inv_sI eσ6_70 i_58 (fd_rng _)
  have f_72 : fd_fr [0, 1, 2, 3, 4, 5, 15, 16, 17, 18, 129] σ σ6_70 := fd_fr_tr f_61 (fd_fr_sI eσ6_70 (by decide))
  have t_73 : (σ6_70.1 1).toInt = (σ_57.1 1).toInt := congrArg Int32.toInt (fd_tN eσ6_70 (by decide))
  have t_74 : (σ6_70.1 2).toInt = (σ_57.1 2).toInt := congrArg Int32.toInt (fd_tN eσ6_70 (by decide))
  have t_75 : (σ6_70.1 3).toInt = (σ_57.1 3).toInt := congrArg Int32.toInt (fd_tN eσ6_70 (by decide))
  have t_76 : (σ6_70.1 4).toInt = (σ_57.1 4).toInt := congrArg Int32.toInt (fd_tN eσ6_70 (by decide))
  have t_77 : (σ6_70.1 5).toInt = (σ_57.1 5).toInt := congrArg Int32.toInt (fd_tN eσ6_70 (by decide))
  have t_78 : (σ6_70.1 16).toInt = (σ_57.1 16).toInt := congrArg Int32.toInt (fd_tN eσ6_70 (by decide))
  have t_79 : (σ6_70.1 17).toInt = (σ_57.1 17).toInt := congrArg Int32.toInt (fd_tN eσ6_70 (by decide))
  have t_80 : (σ6_70.1 18).toInt = (σ_57.1 18).toInt := congrArg Int32.toInt (fd_tN eσ6_70 (by decide))
  refine fd_ok_pb ?_
  refine fd_ok_bd ?_
  try unfold f_X1_forget_10
  refine fd_ok_lt (fun σ1_81 eσ1_81 => ?_)
  have i_82 : fd_InvC σ1_81 := fd_inv_sI eσ1_81 i_71 ⟨(by omega : (0 : Int) ≤ (0 : Int32).toInt), (by omega : (0 : Int32).toInt ≤ 64)⟩
  have f_83 : fd_fr [0, 1, 2, 3, 4, 5, 15, 16, 17, 18, 129] σ σ1_81 := fd_fr_tr f_72 (fd_fr_sI eσ1_81 (by decide))
  have t_84 : (σ1_81.1 1).toInt = (σ6_70.1 1).toInt := congrArg Int32.toInt (fd_tN eσ1_81 (by decide))
  have t_85 : (σ1_81.1 2).toInt = (σ6_70.1 2).toInt := congrArg Int32.toInt (fd_tN eσ1_81 (by decide))
  have t_86 : (σ1_81.1 3).toInt = (σ6_70.1 3).toInt := congrArg Int32.toInt (fd_tN eσ1_81 (by decide))
  have t_87 : (σ1_81.1 4).toInt = (σ6_70.1 4).toInt := congrArg Int32.toInt (fd_tN eσ1_81 (by decide))
  have t_88 : (σ1_81.1 5).toInt = (σ6_70.1 5).toInt := congrArg Int32.toInt (fd_tN eσ1_81 (by decide))
  have t_89 : (σ1_81.1 16).toInt = (0 : Int32).toInt := congrArg Int32.toInt (fd_tI eσ1_81)
  have t_90 : (σ1_81.1 17).toInt = (σ6_70.1 17).toInt := congrArg Int32.toInt (fd_tN eσ1_81 (by decide))
  have t_91 : (σ1_81.1 18).toInt = (σ6_70.1 18).toInt := congrArg Int32.toInt (fd_tN eσ1_81 (by decide))
  refine fd_ok_lt (fun σ2_92 eσ2_92 => ?_)
  have i_93 : fd_InvC σ2_92 := fd_inv_sI eσ2_92 i_82 ⟨(by omega : (0 : Int) ≤ (0 : Int32).toInt), (by omega : (0 : Int32).toInt ≤ 30)⟩
  have f_94 : fd_fr [0, 1, 2, 3, 4, 5, 15, 16, 17, 18, 129] σ σ2_92 := fd_fr_tr f_83 (fd_fr_sI eσ2_92 (by decide))
  have t_95 : (σ2_92.1 1).toInt = (σ1_81.1 1).toInt := congrArg Int32.toInt (fd_tN eσ2_92 (by decide))
  have t_96 : (σ2_92.1 2).toInt = (σ1_81.1 2).toInt := congrArg Int32.toInt (fd_tN eσ2_92 (by decide))
  have t_97 : (σ2_92.1 3).toInt = (σ1_81.1 3).toInt := congrArg Int32.toInt (fd_tN eσ2_92 (by decide))
  have t_98 : (σ2_92.1 4).toInt = (σ1_81.1 4).toInt := congrArg Int32.toInt (fd_tN eσ2_92 (by decide))
  have t_99 : (σ2_92.1 5).toInt = (σ1_81.1 5).toInt := congrArg Int32.toInt (fd_tN eσ2_92 (by decide))
  have t_100 : (σ2_92.1 16).toInt = (σ1_81.1 16).toInt := congrArg Int32.toInt (fd_tN eσ2_92 (by decide))
  have t_101 : (σ2_92.1 17).toInt = (0 : Int32).toInt := congrArg Int32.toInt (fd_tI eσ2_92)
  have t_102 : (σ2_92.1 18).toInt = (σ1_81.1 18).toInt := congrArg Int32.toInt (fd_tN eσ2_92 (by decide))
  refine fd_ok_pb ?_
  refine fd_ok_bd ?_
  try unfold f_X6_forget_11
  refine fd_ok_lt (fun σ1_103 eσ1_103 => ?_)
  have i_104 : fd_InvC σ1_103 := fd_inv_sI eσ1_103 i_93 ⟨(by omega : (0 : Int) ≤ (0 : Int32).toInt), (by omega : (0 : Int32).toInt ≤ 60)⟩
  have f_105 : fd_fr [0, 1, 2, 3, 4, 5, 15, 16, 17, 18, 129] σ σ1_103 := fd_fr_tr f_94 (fd_fr_sI eσ1_103 (by decide))
  have t_106 : (σ1_103.1 1).toInt = (σ2_92.1 1).toInt := congrArg Int32.toInt (fd_tN eσ1_103 (by decide))
  have t_107 : (σ1_103.1 2).toInt = (σ2_92.1 2).toInt := congrArg Int32.toInt (fd_tN eσ1_103 (by decide))
  have t_108 : (σ1_103.1 3).toInt = (σ2_92.1 3).toInt := congrArg Int32.toInt (fd_tN eσ1_103 (by decide))
  have t_109 : (σ1_103.1 4).toInt = (σ2_92.1 4).toInt := congrArg Int32.toInt (fd_tN eσ1_103 (by decide))
  have t_110 : (σ1_103.1 5).toInt = (σ2_92.1 5).toInt := congrArg Int32.toInt (fd_tN eσ1_103 (by decide))
  have t_111 : (σ1_103.1 16).toInt = (σ2_92.1 16).toInt := congrArg Int32.toInt (fd_tN eσ1_103 (by decide))
  have t_112 : (σ1_103.1 17).toInt = (σ2_92.1 17).toInt := congrArg Int32.toInt (fd_tN eσ1_103 (by decide))
  have t_113 : (σ1_103.1 18).toInt = (0 : Int32).toInt := congrArg Int32.toInt (fd_tI eσ1_103)
  refine fd_ok_pb ?_
  refine fd_ok_lt (fun σ31_114 eσ31_114 => ?_)
  have i_115 : fd_InvC σ31_114 := fd_inv_sI eσ31_114 i_104 ⟨(by omega : (0 : Int) ≤ (0 : Int32).toInt), (by omega : (0 : Int32).toInt ≤ 1)⟩
  have f_116 : fd_fr [0, 1, 2, 3, 4, 5, 15, 16, 17, 18, 129] σ σ31_114 := fd_fr_tr f_105 (fd_fr_sI eσ31_114 (by decide))
  have t_117 : (σ31_114.1 1).toInt = (σ1_103.1 1).toInt := congrArg Int32.toInt (fd_tN eσ31_114 (by decide))
  have t_118 : (σ31_114.1 2).toInt = (σ1_103.1 2).toInt := congrArg Int32.toInt (fd_tN eσ31_114 (by decide))
  have t_119 : (σ31_114.1 3).toInt = (σ1_103.1 3).toInt := congrArg Int32.toInt (fd_tN eσ31_114 (by decide))
  have t_120 : (σ31_114.1 4).toInt = (σ1_103.1 4).toInt := congrArg Int32.toInt (fd_tN eσ31_114 (by decide))
  have t_121 : (σ31_114.1 5).toInt = (σ1_103.1 5).toInt := congrArg Int32.toInt (fd_tN eσ31_114 (by decide))
  have t_122 : (σ31_114.1 16).toInt = (σ1_103.1 16).toInt := congrArg Int32.toInt (fd_tN eσ31_114 (by decide))
  have t_123 : (σ31_114.1 17).toInt = (σ1_103.1 17).toInt := congrArg Int32.toInt (fd_tN eσ31_114 (by decide))
  have t_124 : (σ31_114.1 18).toInt = (σ1_103.1 18).toInt := congrArg Int32.toInt (fd_tN eσ31_114 (by decide))
  have x_125 : (σ31_114.1 1).toInt = 0 ∧ (σ31_114.1 2).toInt = 0 ∧ (σ31_114.1 3).toInt = 0 ∧ (σ31_114.1 4).toInt = 0 ∧ (σ31_114.1 5).toInt = 0 ∧ (σ31_114.1 16).toInt = 0 ∧ (σ31_114.1 17).toInt = 0 ∧ (σ31_114.1 18).toInt = 0 := by omega
  exact fd_ok_some ⟨i_115, f_116, x_125⟩
