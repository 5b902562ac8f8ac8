def B_L_law_108 : List (Nat × List (Nat × Instr × Nat)) := [(2240, [(2240, .goto 91, 3)])]
theorem k_L_law_108 : B_L_law_108.all (blkB [] CL NwL RL false code) = true := by decide +kernel
def B_L_law_109 : List (Nat × List (Nat × Instr × Nat)) := [(2243, [(2243, .aload_n 1, 1), (2244, .aload_n 3, 1), (2245, .invokestatic 246, 3), (2248, .istore 5, 2), (2250, .aload_n 2, 1), (2251, .invokevirtual 248, 3), (2254, .istore 6, 2), (2256, .aload_n 2, 1), (2257, .invokevirtual 137, 3), (2260, .iload 5, 2), (2262, .if_icmp .eq 5, 3), (2265, .iconst 0, 1), (2266, .ireturn, 1)])]
theorem k_L_law_109 : B_L_law_109.all (blkB [] CL NwL RL false code) = true := by decide +kernel
def B_L_law_110 : List (Nat × List (Nat × Instr × Nat)) := [(2267, [(2267, .iload 5, 2), (2269, .ifCond .ne 15, 3), (2272, .aload_n 3, 1), (2273, .iconst 0, 1), (2274, .laload, 1), (2275, .iload 6, 2), (2277, .i2l, 1), (2278, .lcmp, 1), (2279, .ifCond .eq 5, 3), (2282, .iconst 0, 1), (2283, .ireturn, 1)])]
theorem k_L_law_110 : B_L_law_110.all (blkB [] CL NwL RL false code) = true := by decide +kernel
def B_L_law_111 : List (Nat × List (Nat × Instr × Nat)) := [(2284, [(2284, .goto 47, 3)])]
theorem k_L_law_111 : B_L_law_111.all (blkB [] CL NwL RL false code) = true := by decide +kernel
def B_L_law_112 : List (Nat × List (Nat × Instr × Nat)) := [(2287, [(2287, .aload_n 1, 1), (2288, .aload_n 3, 1), (2289, .invokestatic 249, 3), (2292, .istore 5, 2), (2294, .aload_n 2, 1), (2295, .invokevirtual 251, 3), (2298, .istore 6, 2), (2300, .aload_n 2, 1), (2301, .invokevirtual 137, 3), (2304, .iload 5, 2), (2306, .if_icmp .eq 5, 3), (2309, .iconst 0, 1), (2310, .ireturn, 1)])]
theorem k_L_law_112 : B_L_law_112.all (blkB [] CL NwL RL false code) = true := by decide +kernel
def B_L_law_113 : List (Nat × List (Nat × Instr × Nat)) := [(2311, [(2311, .iload 5, 2), (2313, .ifCond .ne 15, 3), (2316, .aload_n 3, 1), (2317, .iconst 0, 1), (2318, .laload, 1), (2319, .iload 6, 2), (2321, .i2l, 1), (2322, .lcmp, 1), (2323, .ifCond .eq 5, 3), (2326, .iconst 0, 1), (2327, .ireturn, 1)])]
theorem k_L_law_113 : B_L_law_113.all (blkB [] CL NwL RL false code) = true := by decide +kernel
def B_L_law_114 : List (Nat × List (Nat × Instr × Nat)) := [(2328, [(2328, .goto 3, 3)])]
theorem k_L_law_114 : B_L_law_114.all (blkB [] CL NwL RL false code) = true := by decide +kernel
def B_L_law_115 : List (Nat × List (Nat × Instr × Nat)) := [(2331, [(2331, .iinc 4 6, 3), (2334, .goto (-2311), 3)])]
theorem k_L_law_115 : B_L_law_115.all (blkB [] CL NwL RL false code) = true := by decide +kernel
def B_L_law_116 : List (Nat × List (Nat × Instr × Nat)) := [(2337, [(2337, .iconst 1, 1), (2338, .ireturn, 1)])]
theorem k_L_law_116 : B_L_law_116.all (blkB [] CL NwL RL false code) = true := by decide +kernel
