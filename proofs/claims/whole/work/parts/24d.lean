def B_L_law_36 : List (Nat × List (Nat × Instr × Nat)) := [(956, [(956, .iload 5, 2), (958, .ifCond .ne 22, 3), (961, .aload_n 3, 1), (962, .iconst 0, 1), (963, .laload, 1), (964, .iload 6, 2), (966, .ifCond .eq 7, 3), (969, .lconst 1, 1), (970, .goto 4, 3)])]
theorem k_L_law_36 : B_L_law_36.all (blkB [] CL NwL RL false code) = true := by decide +kernel
def B_L_law_37 : List (Nat × List (Nat × Instr × Nat)) := [(973, [(973, .lconst 0, 1)])]
theorem k_L_law_37 : B_L_law_37.all (blkB [] CL NwL RL false code) = true := by decide +kernel
def B_L_law_38 : List (Nat × List (Nat × Instr × Nat)) := [(974, [(974, .lcmp, 1), (975, .ifCond .eq 5, 3), (978, .iconst 0, 1), (979, .ireturn, 1)])]
theorem k_L_law_38 : B_L_law_38.all (blkB [] CL NwL RL false code) = true := by decide +kernel
def B_L_law_39 : List (Nat × List (Nat × Instr × Nat)) := [(980, [(980, .goto 1351, 3)])]
theorem k_L_law_39 : B_L_law_39.all (blkB [] CL NwL RL false code) = true := by decide +kernel
def B_L_law_40 : List (Nat × List (Nat × Instr × Nat)) := [(983, [(983, .aload_n 1, 1), (984, .aload_n 0, 1), (985, .iload 4, 2), (987, .iconst 1, 1), (988, .iadd, 1), (989, .iaload, 1), (990, .aload_n 3, 1), (991, .invokestatic 176, 3), (994, .istore 5, 2), (996, .aload_n 2, 1), (997, .aload_n 0, 1), (998, .iload 4, 2), (1000, .iconst 1, 1), (1001, .iadd, 1), (1002, .iaload, 1), (1003, .invokevirtual 178, 3), (1006, .istore 6, 2), (1008, .aload_n 2, 1), (1009, .invokevirtual 137, 3), (1012, .iload 5, 2), (1014, .if_icmp .eq 5, 3), (1017, .iconst 0, 1), (1018, .ireturn, 1)])]
theorem k_L_law_40 : B_L_law_40.all (blkB [] CL NwL RL false code) = true := by decide +kernel
def B_L_law_41 : List (Nat × List (Nat × Instr × Nat)) := [(1019, [(1019, .iload 5, 2), (1021, .ifCond .ne 22, 3), (1024, .aload_n 3, 1), (1025, .iconst 0, 1), (1026, .laload, 1), (1027, .iload 6, 2), (1029, .ifCond .eq 7, 3), (1032, .lconst 1, 1), (1033, .goto 4, 3)])]
theorem k_L_law_41 : B_L_law_41.all (blkB [] CL NwL RL false code) = true := by decide +kernel
def B_L_law_42 : List (Nat × List (Nat × Instr × Nat)) := [(1036, [(1036, .lconst 0, 1)])]
theorem k_L_law_42 : B_L_law_42.all (blkB [] CL NwL RL false code) = true := by decide +kernel
def B_L_law_43 : List (Nat × List (Nat × Instr × Nat)) := [(1037, [(1037, .lcmp, 1), (1038, .ifCond .eq 5, 3), (1041, .iconst 0, 1), (1042, .ireturn, 1)])]
theorem k_L_law_43 : B_L_law_43.all (blkB [] CL NwL RL false code) = true := by decide +kernel
def B_L_law_44 : List (Nat × List (Nat × Instr × Nat)) := [(1043, [(1043, .goto 1288, 3)])]
theorem k_L_law_44 : B_L_law_44.all (blkB [] CL NwL RL false code) = true := by decide +kernel
def B_L_law_45 : List (Nat × List (Nat × Instr × Nat)) := [(1046, [(1046, .aload_n 1, 1), (1047, .aload_n 0, 1), (1048, .iload 4, 2), (1050, .iconst 1, 1), (1051, .iadd, 1), (1052, .iaload, 1), (1053, .aload_n 3, 1), (1054, .invokestatic 179, 3), (1057, .istore 5, 2), (1059, .aload_n 2, 1), (1060, .aload_n 0, 1), (1061, .iload 4, 2), (1063, .iconst 1, 1), (1064, .iadd, 1), (1065, .iaload, 1), (1066, .invokevirtual 181, 3), (1069, .istore 6, 2), (1071, .aload_n 2, 1), (1072, .invokevirtual 137, 3), (1075, .iload 5, 2), (1077, .if_icmp .eq 5, 3), (1080, .iconst 0, 1), (1081, .ireturn, 1)])]
theorem k_L_law_45 : B_L_law_45.all (blkB [] CL NwL RL false code) = true := by decide +kernel
def B_L_law_46 : List (Nat × List (Nat × Instr × Nat)) := [(1082, [(1082, .iload 5, 2), (1084, .ifCond .ne 22, 3), (1087, .aload_n 3, 1), (1088, .iconst 0, 1), (1089, .laload, 1), (1090, .iload 6, 2), (1092, .ifCond .eq 7, 3), (1095, .lconst 1, 1), (1096, .goto 4, 3)])]
theorem k_L_law_46 : B_L_law_46.all (blkB [] CL NwL RL false code) = true := by decide +kernel
def B_L_law_47 : List (Nat × List (Nat × Instr × Nat)) := [(1099, [(1099, .lconst 0, 1)])]
theorem k_L_law_47 : B_L_law_47.all (blkB [] CL NwL RL false code) = true := by decide +kernel
