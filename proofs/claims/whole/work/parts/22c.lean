theorem py_X12_passes : plainY yX12_passes 2 = true := by decide +kernel
theorem in_X12_passes : gw (.instanceMethod yX12_passes) = true := by decide +kernel
theorem se_X12_passes : gw (.selects RX12 yX12_passes yX12_passes) = true := by decide +kernel
theorem ml_X12_283 : gw (.methodLink RX12 283 yX12_passes) = true := by decide +kernel
def B_X12_rowed : List (Nat × List (Nat × Instr × Nat)) := [(0, [(0, .aload_n 0, 1), (1, .getfield 66, 3), (4, .iload_n 1, 1), (5, .iaload, 1), (6, .istore_n 2, 1), (7, .aload_n 0, 1), (8, .iload_n 2, 1), (9, .bipush 60, 2), (11, .idiv, 1), (12, .iload_n 2, 1), (13, .bipush 60, 2), (15, .irem, 1), (16, .invokevirtual 182, 3), (19, .istore_n 3, 1), (20, .iload_n 3, 1), (21, .iconst (-1), 1), (22, .if_icmp .ne 31, 3), (25, .aload_n 0, 1), (26, .getfield 136, 3), (29, .sipush 3840, 3), (32, .iload_n 1, 1), (33, .imul, 1), (34, .aload_n 0, 1), (35, .getfield 96, 3), (38, .iload_n 1, 1), (39, .iaload, 1), (40, .iadd, 1), (41, .iload_n 2, 1), (42, .iastore, 1), (43, .aload_n 0, 1), (44, .getfield 96, 3), (47, .iload_n 1, 1), (48, .dup2, 1), (49, .iaload, 1), (50, .iconst 1, 1), (51, .iadd, 1), (52, .iastore, 1)]),
  (53, [(53, .aload_n 0, 1), (54, .getfield 124, 3), (57, .iload_n 1, 1), (58, .iload_n 3, 1), (59, .ifCond .ne 7, 3), (62, .iconst 1, 1), (63, .goto 4, 3)]),
  (66, [(66, .iconst 0, 1)]),
  (67, [(67, .bastore, 1), (68, .aload_n 0, 1), (69, .iload_n 1, 1), (70, .iload_n 3, 1), (71, .iconst (-1), 1), (72, .if_icmp .ne 7, 3), (75, .lconst 0, 1), (76, .goto 5, 3)]),
  (79, [(79, .iload_n 3, 1), (80, .i2l, 1)]),
  (81, [(81, .invokevirtual 283, 3), (84, .ireturn, 1)])]
def T_X12_rowed (tb : Nat → Option (Nat × Nat)) : List (Nat × IV) := [(728, ivV tb 12 0 0 2 0 0 1 (w_X12_told tb)), (1132, ivV tb 12 0 0 2 0 0 1 (w_X12_passes tb))]
def M_X12_rowed (tb : Nat → Option (Nat × Nat)) : MT := (tb, FX12, StX12, CX12, NwX12, ivOf (T_X12_rowed tb), 0, 0, 1)
def r_X12_rowed (tb : Nat → Option (Nat × Nat)) (K : Option AV → AX → Prop) (KX : String → AX → Prop) : PT := lfp (wpm (M_X12_rowed tb) B_X12_rowed K (fun _ _ _ E X _ _ => KX E X))
def w_X12_rowed (tb : Nat → Option (Nat × Nat)) : WP := fun as X K KX => gd ((ini0 as).length ≤ 4) (r_X12_rowed tb K KX 0 (iniL as 4) [] X 0 0)
theorem k_X12_rowed : B_X12_rowed.all (blkB FX12 CX12 NwX12 RX12 false cX12_rowed) = true := by decide +kernel
theorem g_X12_rowed : gw (.code yX12_rowed cX12_rowed 4 (some .int)) = true ∧ gw (.initialized yX12_rowed.cls) = true := by decide +kernel
theorem c_X12_rowed {l : Launch} {G : GX} (hl : l.stackTraces = false) : ∀ as X K KX, w_X12_rowed (gT G) as X K KX → CT l G yX12_rowed (.code yX12_rowed cX12_rowed 4 (some .int)) 5 134 0 0 as X K KX := fun as X K KX h => CT_of (M := M_X12_rowed (gT G)) (own := RX12) (ini := false) (T := T_X12_rowed (gT G)) (B := B_X12_rowed) (by decide +kernel) hl rfl (fun h => absurd h (by decide)) rfl tab_X12 k_X12_rowed rfl (Or.inl rfl) rfl
  ⟨ivV_ok (ci := 12) (c_X12_told hl) g_X12_told.1 g_X12_told.2 ml_X12_182 in_X12_told py_X12_told rfl se_X12_told, ivV_ok (ci := 12) (c_X12_passes hl) g_X12_passes.1 g_X12_passes.2 ml_X12_283 in_X12_passes py_X12_passes rfl se_X12_passes, trivial⟩ (gd_use h).1 (gd_use h).2
theorem py_X12_rowed : plainY yX12_rowed 1 = true := by decide +kernel
theorem in_X12_rowed : gw (.instanceMethod yX12_rowed) = true := by decide +kernel
theorem se_X12_rowed : gw (.selects RX12 yX12_rowed yX12_rowed) = true := by decide +kernel
theorem ml_X12_299 : gw (.methodLink RX12 299 yX12_rowed) = true := by decide +kernel
def B_X12_second : List (Nat × List (Nat × Instr × Nat)) := [(0, [(0, .aload_n 0, 1), (1, .iconst 0, 1), (2, .putfield 163, 3), (5, .aload_n 0, 1), (6, .aload_n 0, 1), (7, .getfield 166, 3), (10, .ifCond .eq 19, 3), (13, .aload_n 0, 1), (14, .getfield 66, 3), (17, .iconst 0, 1), (18, .iaload, 1), (19, .sipush 3840, 3), (22, .if_icmp .ge 7, 3), (25, .iconst 1, 1), (26, .goto 4, 3)]),
  (29, [(29, .iconst 0, 1)]),
  (30, [(30, .iconst 1, 1), (31, .invokevirtual 170, 3), (34, .ifCond .eq 11, 3), (37, .aload_n 0, 1), (38, .iconst 0, 1), (39, .invokevirtual 299, 3), (42, .goto 4, 3)]),
  (45, [(45, .iconst 0, 1)]),
  (46, [(46, .ireturn, 1)])]
def T_X12_second (tb : Nat → Option (Nat × Nat)) : List (Nat × IV) := [(680, ivV tb 12 0 0 2 0 0 1 (w_X12_right tb)), (1196, ivV tb 12 0 0 1 0 0 1 (w_X12_rowed tb))]
def M_X12_second (tb : Nat → Option (Nat × Nat)) : MT := (tb, FX12, StX12, CX12, NwX12, ivOf (T_X12_second tb), 0, 0, 1)
def r_X12_second (tb : Nat → Option (Nat × Nat)) (K : Option AV → AX → Prop) (KX : String → AX → Prop) : PT := lfp (wpm (M_X12_second tb) B_X12_second K (fun _ _ _ E X _ _ => KX E X))
def w_X12_second (tb : Nat → Option (Nat × Nat)) : WP := fun as X K KX => gd ((ini0 as).length ≤ 1) (r_X12_second tb K KX 0 (iniL as 1) [] X 0 0)
theorem k_X12_second : B_X12_second.all (blkB FX12 CX12 NwX12 RX12 false cX12_second) = true := by decide +kernel
theorem g_X12_second : gw (.code yX12_second cX12_second 1 (some .int)) = true ∧ gw (.initialized yX12_second.cls) = true := by decide +kernel
theorem c_X12_second {l : Launch} {G : GX} (hl : l.stackTraces = false) : ∀ as X K KX, w_X12_second (gT G) as X K KX → CT l G yX12_second (.code yX12_second cX12_second 1 (some .int)) 6 157 0 0 as X K KX := fun as X K KX h => CT_of (M := M_X12_second (gT G)) (own := RX12) (ini := false) (T := T_X12_second (gT G)) (B := B_X12_second) (by decide +kernel) hl rfl (fun h => absurd h (by decide)) rfl tab_X12 k_X12_second rfl (Or.inl rfl) rfl
  ⟨ivV_ok (ci := 12) (c_X12_right hl) g_X12_right.1 g_X12_right.2 ml_X12_170 in_X12_right py_X12_right rfl se_X12_right, ivV_ok (ci := 12) (c_X12_rowed hl) g_X12_rowed.1 g_X12_rowed.2 ml_X12_299 in_X12_rowed py_X12_rowed rfl se_X12_rowed, trivial⟩ (gd_use h).1 (gd_use h).2
def B_X12_run : List (Nat × List (Nat × Instr × Nat)) := [(0, [(0, .aload_n 0, 1), (1, .iconst 0, 1), (2, .putfield 163, 3), (5, .aload_n 0, 1), (6, .aload_n 0, 1), (7, .getfield 166, 3), (10, .iconst 1, 1), (11, .invokevirtual 170, 3), (14, .ifCond .eq 27, 3), (17, .aload_n 0, 1), (18, .iload_n 1, 1), (19, .ifCond .lt 14, 3), (22, .iload_n 1, 1), (23, .sipush 3840, 3), (26, .if_icmp .gt 7, 3), (29, .iconst 1, 1), (30, .goto 4, 3)]),
  (33, [(33, .iconst 0, 1)]),
  (34, [(34, .iconst 2, 1), (35, .invokevirtual 170, 3), (38, .ifCond .ne 5, 3)]),
  (41, [(41, .iconst 0, 1), (42, .ireturn, 1)]),
  (43, [(43, .iconst 0, 1), (44, .istore_n 2, 1)]),
  (45, [(45, .iload_n 2, 1), (46, .iload_n 1, 1), (47, .if_icmp .ge 27, 3), (50, .aload_n 0, 1), (51, .getfield 66, 3), (54, .iconst 0, 1), (55, .iaload, 1), (56, .sipush 3840, 3), (59, .if_icmp .ge 15, 3), (62, .aload_n 0, 1), (63, .iconst 0, 1), (64, .invokevirtual 299, 3), (67, .pop, 1), (68, .iinc 2 1, 3), (71, .goto (-26), 3)]),
  (74, [(74, .iload_n 2, 1), (75, .ireturn, 1)])]
def T_X12_run (tb : Nat → Option (Nat × Nat)) : List (Nat × IV) := [(680, ivV tb 12 0 0 2 0 0 1 (w_X12_right tb)), (1196, ivV tb 12 0 0 1 0 0 1 (w_X12_rowed tb))]
def M_X12_run (tb : Nat → Option (Nat × Nat)) : MT := (tb, FX12, StX12, CX12, NwX12, ivOf (T_X12_run tb), 0, 0, 1)
def r_X12_run (tb : Nat → Option (Nat × Nat)) (K : Option AV → AX → Prop) (KX : String → AX → Prop) : PT := lfp (wpm (M_X12_run tb) B_X12_run K (fun _ _ _ E X _ _ => KX E X))
def w_X12_run (tb : Nat → Option (Nat × Nat)) : WP := fun as X K KX => gd ((ini0 as).length ≤ 3) (r_X12_run tb K KX 0 (iniL as 3) [] X 0 0)
theorem k_X12_run : B_X12_run.all (blkB FX12 CX12 NwX12 RX12 false cX12_run) = true := by decide +kernel
theorem g_X12_run : gw (.code yX12_run cX12_run 3 (some .int)) = true ∧ gw (.initialized yX12_run.cls) = true := by decide +kernel
theorem c_X12_run {l : Launch} {G : GX} (hl : l.stackTraces = false) : ∀ as X K KX, w_X12_run (gT G) as X K KX → CT l G yX12_run (.code yX12_run cX12_run 3 (some .int)) 6 157 0 0 as X K KX := fun as X K KX h => CT_of (M := M_X12_run (gT G)) (own := RX12) (ini := false) (T := T_X12_run (gT G)) (B := B_X12_run) (by decide +kernel) hl rfl (fun h => absurd h (by decide)) rfl tab_X12 k_X12_run rfl (Or.inl rfl) rfl
  ⟨ivV_ok (ci := 12) (c_X12_right hl) g_X12_right.1 g_X12_right.2 ml_X12_170 in_X12_right py_X12_right rfl se_X12_right, ivV_ok (ci := 12) (c_X12_rowed hl) g_X12_rowed.1 g_X12_rowed.2 ml_X12_299 in_X12_rowed py_X12_rowed rfl se_X12_rowed, trivial⟩ (gd_use h).1 (gd_use h).2
def B_X12_puts : List (Nat × List (Nat × Instr × Nat)) := [(0, [(0, .aload_n 0, 1), (1, .getfield 81, 3), (4, .iload_n 1, 1), (5, .iaload, 1), (6, .iload_n 2, 1), (7, .if_icmp .ne 4, 3), (10, .return_, 1)]),
  (11, [(11, .aload_n 0, 1), (12, .getfield 139, 3), (15, .bipush 50, 2), (17, .iload_n 1, 1), (18, .imul, 1), (19, .aload_n 0, 1), (20, .getfield 99, 3), (23, .iload_n 1, 1), (24, .iaload, 1), (25, .iadd, 1), (26, .aload_n 0, 1), (27, .getfield 66, 3), (30, .iload_n 1, 1), (31, .iaload, 1), (32, .iastore, 1), (33, .aload_n 0, 1), (34, .getfield 142, 3), (37, .bipush 50, 2), (39, .iload_n 1, 1), (40, .imul, 1), (41, .aload_n 0, 1), (42, .getfield 99, 3), (45, .iload_n 1, 1), (46, .iaload, 1), (47, .iadd, 1), (48, .iload_n 2, 1), (49, .iastore, 1), (50, .aload_n 0, 1), (51, .getfield 99, 3), (54, .iload_n 1, 1), (55, .dup2, 1), (56, .iaload, 1), (57, .iconst 1, 1), (58, .iadd, 1), (59, .iastore, 1), (60, .aload_n 0, 1), (61, .getfield 81, 3), (64, .iload_n 1, 1), (65, .iload_n 2, 1), (66, .iastore, 1), (67, .aload_n 0, 1), (68, .iload_n 1, 1), (69, .iload_n 2, 1), (70, .invokevirtual 269, 3), (73, .return_, 1)])]
def T_X12_puts (tb : Nat → Option (Nat × Nat)) : List (Nat × IV) := [(1076, ivV tb 12 0 0 2 0 0 0 (w_X12_calls tb))]
def M_X12_puts (tb : Nat → Option (Nat × Nat)) : MT := (tb, FX12, StX12, CX12, NwX12, ivOf (T_X12_puts tb), 0, 0, 0)
def r_X12_puts (tb : Nat → Option (Nat × Nat)) (K : Option AV → AX → Prop) (KX : String → AX → Prop) : PT := lfp (wpm (M_X12_puts tb) B_X12_puts K (fun _ _ _ E X _ _ => KX E X))
def w_X12_puts (tb : Nat → Option (Nat × Nat)) : WP := fun as X K KX => gd ((ini0 as).length ≤ 3) (r_X12_puts tb K KX 0 (iniL as 3) [] X 0 0)
theorem k_X12_puts : B_X12_puts.all (blkB FX12 CX12 NwX12 RX12 false cX12_puts) = true := by decide +kernel
theorem g_X12_puts : gw (.code yX12_puts cX12_puts 3 none) = true ∧ gw (.initialized yX12_puts.cls) = true := by decide +kernel
theorem c_X12_puts {l : Launch} {G : GX} (hl : l.stackTraces = false) : ∀ as X K KX, w_X12_puts (gT G) as X K KX → CT l G yX12_puts (.code yX12_puts cX12_puts 3 none) 2 44 0 0 as X K KX := fun as X K KX h => CT_of (M := M_X12_puts (gT G)) (own := RX12) (ini := false) (T := T_X12_puts (gT G)) (B := B_X12_puts) (by decide +kernel) hl rfl (fun h => absurd h (by decide)) rfl tab_X12 k_X12_puts rfl (Or.inl rfl) rfl
  ⟨ivV_ok (ci := 12) (c_X12_calls hl) g_X12_calls.1 g_X12_calls.2 ml_X12_269 in_X12_calls py_X12_calls rfl se_X12_calls, trivial⟩ (gd_use h).1 (gd_use h).2
theorem py_X12_puts : plainY yX12_puts 2 = true := by decide +kernel
theorem in_X12_puts : gw (.instanceMethod yX12_puts) = true := by decide +kernel
theorem se_X12_puts : gw (.selects RX12 yX12_puts yX12_puts) = true := by decide +kernel
theorem ml_X12_302 : gw (.methodLink RX12 302 yX12_puts) = true := by decide +kernel
def B_X12_hand : List (Nat × List (Nat × Instr × Nat)) := [(0, [(0, .aload_n 0, 1), (1, .iconst 0, 1), (2, .putfield 163, 3), (5, .aload_n 0, 1), (6, .aload_n 0, 1), (7, .getfield 166, 3), (10, .ifCond .eq 27, 3), (13, .aload_n 0, 1), (14, .getfield 124, 3), (17, .iconst 0, 1), (18, .baload, 1), (19, .ifCond .eq 18, 3), (22, .aload_n 0, 1), (23, .getfield 99, 3), (26, .iconst 0, 1), (27, .iaload, 1), (28, .bipush 50, 2), (30, .if_icmp .ge 7, 3), (33, .iconst 1, 1), (34, .goto 4, 3)]),
  (37, [(37, .iconst 0, 1)]),
  (38, [(38, .iconst 1, 1), (39, .invokevirtual 170, 3), (42, .ifCond .eq 22, 3), (45, .aload_n 0, 1), (46, .iload_n 1, 1), (47, .iconst 2, 1), (48, .invokevirtual 210, 3), (51, .ifCond .eq 13, 3), (54, .aload_n 0, 1), (55, .iload_n 1, 1), (56, .iconst 4, 1), (57, .iconst 3, 1), (58, .invokevirtual 291, 3), (61, .ifCond .ne 5, 3)]),
  (64, [(64, .iconst 0, 1), (65, .ireturn, 1)]),
  (66, [(66, .aload_n 0, 1), (67, .getfield 32, 3), (70, .iload_n 1, 1), (71, .iaload, 1), (72, .istore_n 2, 1), (73, .aload_n 0, 1), (74, .getfield 81, 3), (77, .iconst 0, 1), (78, .iaload, 1), (79, .iload_n 2, 1), (80, .if_icmp .ne 5, 3), (83, .iconst 0, 1), (84, .ireturn, 1)]),
  (85, [(85, .aload_n 0, 1), (86, .iconst 0, 1), (87, .iload_n 2, 1), (88, .invokevirtual 302, 3), (91, .iconst 1, 1), (92, .ireturn, 1)])]
def T_X12_hand (tb : Nat → Option (Nat × Nat)) : List (Nat × IV) := [(680, ivV tb 12 0 0 2 0 0 1 (w_X12_right tb)), (840, ivV tb 12 0 0 2 0 0 1 (w_X12_isSlot tb)), (1164, ivV tb 12 0 0 3 0 0 1 (w_X12_isHeld tb)), (1208, ivV tb 12 0 0 2 0 0 0 (w_X12_puts tb))]
def M_X12_hand (tb : Nat → Option (Nat × Nat)) : MT := (tb, FX12, StX12, CX12, NwX12, ivOf (T_X12_hand tb), 0, 0, 2)
def r_X12_hand (tb : Nat → Option (Nat × Nat)) (K : Option AV → AX → Prop) (KX : String → AX → Prop) : PT := lfp (wpm (M_X12_hand tb) B_X12_hand K (fun _ _ _ E X _ _ => KX E X))
def w_X12_hand (tb : Nat → Option (Nat × Nat)) : WP := fun as X K KX => gd ((ini0 as).length ≤ 3) (r_X12_hand tb K KX 0 (iniL as 3) [] X 0 0)
theorem k_X12_hand : B_X12_hand.all (blkB FX12 CX12 NwX12 RX12 false cX12_hand) = true := by decide +kernel
theorem g_X12_hand : gw (.code yX12_hand cX12_hand 3 (some .boolean)) = true ∧ gw (.initialized yX12_hand.cls) = true := by decide +kernel
theorem c_X12_hand {l : Launch} {G : GX} (hl : l.stackTraces = false) : ∀ as X K KX, w_X12_hand (gT G) as X K KX → CT l G yX12_hand (.code yX12_hand cX12_hand 3 (some .boolean)) 3 66 0 0 as X K KX := fun as X K KX h => CT_of (M := M_X12_hand (gT G)) (own := RX12) (ini := false) (T := T_X12_hand (gT G)) (B := B_X12_hand) (by decide +kernel) hl rfl (fun h => absurd h (by decide)) rfl tab_X12 k_X12_hand rfl (Or.inl rfl) rfl
  ⟨ivV_ok (ci := 12) (c_X12_right hl) g_X12_right.1 g_X12_right.2 ml_X12_170 in_X12_right py_X12_right rfl se_X12_right, ivV_ok (ci := 12) (c_X12_isSlot hl) g_X12_isSlot.1 g_X12_isSlot.2 ml_X12_210 in_X12_isSlot py_X12_isSlot rfl se_X12_isSlot, ivV_ok (ci := 12) (c_X12_isHeld hl) g_X12_isHeld.1 g_X12_isHeld.2 ml_X12_291 in_X12_isHeld py_X12_isHeld rfl se_X12_isHeld, ivV_ok (ci := 12) (c_X12_puts hl) g_X12_puts.1 g_X12_puts.2 ml_X12_302 in_X12_puts py_X12_puts rfl se_X12_puts, trivial⟩ (gd_use h).1 (gd_use h).2
def B_X12_extra : List (Nat × List (Nat × Instr × Nat)) := [(0, [(0, .aload_n 0, 1), (1, .iconst 0, 1), (2, .putfield 163, 3), (5, .aload_n 0, 1), (6, .aload_n 0, 1), (7, .getfield 166, 3), (10, .iconst 1, 1), (11, .invokevirtual 170, 3), (14, .ifCond .eq 27, 3), (17, .aload_n 0, 1), (18, .iload_n 1, 1), (19, .ifCond .lt 14, 3), (22, .iload_n 1, 1), (23, .sipush 10000, 3), (26, .if_icmp .gt 7, 3), (29, .iconst 1, 1), (30, .goto 4, 3)]),
  (33, [(33, .iconst 0, 1)]),
  (34, [(34, .iconst 2, 1), (35, .invokevirtual 170, 3), (38, .ifCond .ne 5, 3)]),
  (41, [(41, .iconst 0, 1), (42, .ireturn, 1)]),
  (43, [(43, .aload_n 0, 1), (44, .getfield 118, 3), (47, .iconst 0, 1), (48, .dup2, 1), (49, .laload, 1), (50, .iload_n 1, 1), (51, .i2l, 1), (52, .ladd, 1), (53, .lastore, 1), (54, .aload_n 0, 1), (55, .getfield 121, 3), (58, .iconst 0, 1), (59, .dup2, 1), (60, .laload, 1), (61, .iload_n 1, 1), (62, .i2l, 1), (63, .ladd, 1), (64, .lastore, 1), (65, .aload_n 0, 1), (66, .getfield 115, 3), (69, .iconst 0, 1), (70, .dup2, 1), (71, .laload, 1), (72, .iload_n 1, 1), (73, .i2l, 1), (74, .ladd, 1), (75, .lastore, 1), (76, .aload_n 0, 1), (77, .getfield 118, 3), (80, .iconst 0, 1), (81, .laload, 1), (82, .l2i, 1), (83, .ireturn, 1)])]
def T_X12_extra (tb : Nat → Option (Nat × Nat)) : List (Nat × IV) := [(680, ivV tb 12 0 0 2 0 0 1 (w_X12_right tb))]
def M_X12_extra (tb : Nat → Option (Nat × Nat)) : MT := (tb, FX12, StX12, CX12, NwX12, ivOf (T_X12_extra tb), 0, 0, 1)
def r_X12_extra (tb : Nat → Option (Nat × Nat)) (K : Option AV → AX → Prop) (KX : String → AX → Prop) : PT := lfp (wpm (M_X12_extra tb) B_X12_extra K (fun _ _ _ E X _ _ => KX E X))
def w_X12_extra (tb : Nat → Option (Nat × Nat)) : WP := fun as X K KX => gd ((ini0 as).length ≤ 2) (r_X12_extra tb K KX 0 (iniL as 2) [] X 0 0)
theorem k_X12_extra : B_X12_extra.all (blkB FX12 CX12 NwX12 RX12 false cX12_extra) = true := by decide +kernel
theorem g_X12_extra : gw (.code yX12_extra cX12_extra 2 (some .int)) = true ∧ gw (.initialized yX12_extra.cls) = true := by decide +kernel
theorem c_X12_extra {l : Launch} {G : GX} (hl : l.stackTraces = false) : ∀ as X K KX, w_X12_extra (gT G) as X K KX → CT l G yX12_extra (.code yX12_extra cX12_extra 2 (some .int)) 1 22 0 0 as X K KX := fun as X K KX h => CT_of (M := M_X12_extra (gT G)) (own := RX12) (ini := false) (T := T_X12_extra (gT G)) (B := B_X12_extra) (by decide +kernel) hl rfl (fun h => absurd h (by decide)) rfl tab_X12 k_X12_extra rfl (Or.inl rfl) rfl
  ⟨ivV_ok (ci := 12) (c_X12_right hl) g_X12_right.1 g_X12_right.2 ml_X12_170 in_X12_right py_X12_right rfl se_X12_right, trivial⟩ (gd_use h).1 (gd_use h).2
def B_X12_ends : List (Nat × List (Nat × Instr × Nat)) := [(0, [(0, .aload_n 0, 1), (1, .getfield 72, 3), (4, .iload_n 1, 1), (5, .iload_n 2, 1), (6, .iastore, 1), (7, .aload_n 0, 1), (8, .getfield 124, 3), (11, .iload_n 1, 1), (12, .iconst 0, 1), (13, .bastore, 1), (14, .aload_n 0, 1), (15, .getfield 81, 3), (18, .iload_n 1, 1), (19, .iaload, 1), (20, .istore_n 3, 1), (21, .aload_n 0, 1), (22, .getfield 23, 3), (25, .iload_n 3, 1), (26, .iaload, 1), (27, .iconst 3, 1), (28, .if_icmp .ne 12, 3), (31, .aload_n 0, 1), (32, .getfield 99, 3), (35, .iload_n 1, 1), (36, .iaload, 1), (37, .ifCond .le 4, 3)]),
  (40, [(40, .return_, 1)]),
  (41, [(41, .aload_n 0, 1), (42, .iload_n 3, 1), (43, .bipush 11, 2), (45, .invokevirtual 207, 3), (48, .istore 4, 2), (50, .aload_n 0, 1), (51, .iload_n 3, 1), (52, .bipush 12, 2), (54, .invokevirtual 207, 3), (57, .istore 5, 2), (59, .aload_n 0, 1), (60, .getfield 69, 3), (63, .iload_n 1, 1), (64, .iaload, 1), (65, .iload 4, 2), (67, .if_icmp .ne 9, 3), (70, .iload_n 2, 1), (71, .iload 5, 2), (73, .if_icmp .eq 20, 3)]),
  (76, [(76, .aload_n 0, 1), (77, .getfield 69, 3), (80, .iload_n 1, 1), (81, .iaload, 1), (82, .iload 5, 2), (84, .if_icmp .ne 37, 3), (87, .iload_n 2, 1), (88, .iload 4, 2), (90, .if_icmp .ne 31, 3)]),
  (93, [(93, .aload_n 0, 1), (94, .getfield 127, 3), (97, .iload_n 1, 1), (98, .iconst 1, 1), (99, .bastore, 1), (100, .aload_n 0, 1), (101, .getfield 115, 3), (104, .iload_n 1, 1), (105, .aload_n 0, 1), (106, .iload_n 3, 1), (107, .bipush 13, 2), (109, .invokevirtual 207, 3), (112, .i2l, 1), (113, .aload_n 0, 1), (114, .getfield 118, 3), (117, .iload_n 1, 1), (118, .laload, 1), (119, .ladd, 1), (120, .lastore, 1)]),
  (121, [(121, .return_, 1)])]
def T_X12_ends (tb : Nat → Option (Nat × Nat)) : List (Nat × IV) := [(828, ivV tb 12 0 0 2 0 0 1 (w_X12_numberOf tb))]
def M_X12_ends (tb : Nat → Option (Nat × Nat)) : MT := (tb, FX12, StX12, CX12, NwX12, ivOf (T_X12_ends tb), 0, 0, 0)
def r_X12_ends (tb : Nat → Option (Nat × Nat)) (K : Option AV → AX → Prop) (KX : String → AX → Prop) : PT := lfp (wpm (M_X12_ends tb) B_X12_ends K (fun _ _ _ E X _ _ => KX E X))
def w_X12_ends (tb : Nat → Option (Nat × Nat)) : WP := fun as X K KX => gd ((ini0 as).length ≤ 6) (r_X12_ends tb K KX 0 (iniL as 6) [] X 0 0)
theorem k_X12_ends : B_X12_ends.all (blkB FX12 CX12 NwX12 RX12 false cX12_ends) = true := by decide +kernel
theorem g_X12_ends : gw (.code yX12_ends cX12_ends 6 none) = true ∧ gw (.initialized yX12_ends.cls) = true := by decide +kernel
theorem c_X12_ends {l : Launch} {G : GX} (hl : l.stackTraces = false) : ∀ as X K KX, w_X12_ends (gT G) as X K KX → CT l G yX12_ends (.code yX12_ends cX12_ends 6 none) 1 22 0 0 as X K KX := fun as X K KX h => CT_of (M := M_X12_ends (gT G)) (own := RX12) (ini := false) (T := T_X12_ends (gT G)) (B := B_X12_ends) (by decide +kernel) hl rfl (fun h => absurd h (by decide)) rfl tab_X12 k_X12_ends rfl (Or.inl rfl) rfl
  ⟨ivV_ok (ci := 12) (c_X12_numberOf hl) g_X12_numberOf.1 g_X12_numberOf.2 ml_X12_207 in_X12_numberOf py_X12_numberOf rfl se_X12_numberOf, trivial⟩ (gd_use h).1 (gd_use h).2
def B_X12_copy : List (Nat × List (Nat × Instr × Nat)) := [(0, [(0, .aload_n 0, 1), (1, .getfield 63, 3), (4, .iload_n 2, 1), (5, .aload_n 0, 1), (6, .getfield 63, 3), (9, .iload_n 1, 1), (10, .iaload, 1), (11, .iastore, 1), (12, .aload_n 0, 1), (13, .getfield 66, 3), (16, .iload_n 2, 1), (17, .aload_n 0, 1), (18, .getfield 66, 3), (21, .iload_n 1, 1), (22, .iaload, 1), (23, .iastore, 1), (24, .aload_n 0, 1), (25, .getfield 69, 3), (28, .iload_n 2, 1), (29, .aload_n 0, 1), (30, .getfield 69, 3), (33, .iload_n 1, 1), (34, .iaload, 1), (35, .iastore, 1)]),
  (36, [(36, .aload_n 0, 1), (37, .getfield 72, 3), (40, .iload_n 2, 1), (41, .aload_n 0, 1), (42, .getfield 72, 3), (45, .iload_n 1, 1), (46, .iaload, 1), (47, .iastore, 1), (48, .aload_n 0, 1), (49, .getfield 75, 3), (52, .iload_n 2, 1), (53, .aload_n 0, 1), (54, .getfield 75, 3), (57, .iload_n 1, 1), (58, .iaload, 1), (59, .iastore, 1), (60, .aload_n 0, 1), (61, .getfield 78, 3), (64, .iload_n 2, 1), (65, .aload_n 0, 1), (66, .getfield 78, 3), (69, .iload_n 1, 1), (70, .iaload, 1), (71, .iastore, 1)]),
  (72, [(72, .aload_n 0, 1), (73, .getfield 81, 3), (76, .iload_n 2, 1), (77, .aload_n 0, 1), (78, .getfield 81, 3), (81, .iload_n 1, 1), (82, .iaload, 1), (83, .iastore, 1), (84, .aload_n 0, 1), (85, .getfield 84, 3), (88, .iload_n 2, 1), (89, .aload_n 0, 1), (90, .getfield 84, 3), (93, .iload_n 1, 1), (94, .iaload, 1), (95, .iastore, 1), (96, .aload_n 0, 1), (97, .getfield 87, 3), (100, .iload_n 2, 1), (101, .aload_n 0, 1), (102, .getfield 87, 3), (105, .iload_n 1, 1), (106, .iaload, 1), (107, .iastore, 1)]),
  (108, [(108, .aload_n 0, 1), (109, .getfield 90, 3), (112, .iload_n 2, 1), (113, .aload_n 0, 1), (114, .getfield 90, 3), (117, .iload_n 1, 1), (118, .iaload, 1), (119, .iastore, 1), (120, .aload_n 0, 1), (121, .getfield 93, 3), (124, .iload_n 2, 1), (125, .aload_n 0, 1), (126, .getfield 93, 3), (129, .iload_n 1, 1), (130, .iaload, 1), (131, .iastore, 1), (132, .aload_n 0, 1), (133, .getfield 96, 3), (136, .iload_n 2, 1), (137, .aload_n 0, 1), (138, .getfield 96, 3), (141, .iload_n 1, 1), (142, .iaload, 1), (143, .iastore, 1)]),
  (144, [(144, .aload_n 0, 1), (145, .getfield 99, 3), (148, .iload_n 2, 1), (149, .aload_n 0, 1), (150, .getfield 99, 3), (153, .iload_n 1, 1), (154, .iaload, 1), (155, .iastore, 1), (156, .aload_n 0, 1), (157, .getfield 105, 3), (160, .iload_n 2, 1), (161, .aload_n 0, 1), (162, .getfield 105, 3), (165, .iload_n 1, 1), (166, .iaload, 1), (167, .iastore, 1), (168, .aload_n 0, 1), (169, .getfield 108, 3), (172, .iload_n 2, 1), (173, .aload_n 0, 1), (174, .getfield 108, 3), (177, .iload_n 1, 1), (178, .iaload, 1), (179, .iastore, 1)]),
  (180, [(180, .aload_n 0, 1), (181, .getfield 111, 3), (184, .iload_n 2, 1), (185, .aload_n 0, 1), (186, .getfield 111, 3), (189, .iload_n 1, 1), (190, .laload, 1), (191, .lastore, 1), (192, .aload_n 0, 1), (193, .getfield 115, 3), (196, .iload_n 2, 1), (197, .aload_n 0, 1), (198, .getfield 115, 3), (201, .iload_n 1, 1), (202, .laload, 1), (203, .lastore, 1), (204, .aload_n 0, 1), (205, .getfield 118, 3), (208, .iload_n 2, 1), (209, .aload_n 0, 1), (210, .getfield 118, 3), (213, .iload_n 1, 1), (214, .laload, 1), (215, .lastore, 1)]),
  (216, [(216, .aload_n 0, 1), (217, .getfield 121, 3), (220, .iload_n 2, 1), (221, .aload_n 0, 1), (222, .getfield 121, 3), (225, .iload_n 1, 1), (226, .laload, 1), (227, .lastore, 1), (228, .aload_n 0, 1), (229, .getfield 124, 3), (232, .iload_n 2, 1), (233, .aload_n 0, 1), (234, .getfield 124, 3), (237, .iload_n 1, 1), (238, .baload, 1), (239, .bastore, 1), (240, .aload_n 0, 1), (241, .getfield 127, 3), (244, .iload_n 2, 1), (245, .aload_n 0, 1), (246, .getfield 127, 3), (249, .iload_n 1, 1), (250, .baload, 1), (251, .bastore, 1)]),
  (252, [(252, .aload_n 0, 1), (253, .getfield 130, 3), (256, .iload_n 2, 1), (257, .aload_n 0, 1), (258, .getfield 130, 3), (261, .iload_n 1, 1), (262, .baload, 1), (263, .bastore, 1), (264, .iconst 0, 1), (265, .istore_n 3, 1)]),
  (266, [(266, .iload_n 3, 1), (267, .bipush 12, 2), (269, .if_icmp .ge 31, 3), (272, .aload_n 0, 1), (273, .getfield 133, 3), (276, .bipush 12, 2), (278, .iload_n 2, 1), (279, .imul, 1), (280, .iload_n 3, 1), (281, .iadd, 1), (282, .aload_n 0, 1), (283, .getfield 133, 3), (286, .bipush 12, 2), (288, .iload_n 1, 1), (289, .imul, 1), (290, .iload_n 3, 1), (291, .iadd, 1), (292, .baload, 1), (293, .bastore, 1), (294, .iinc 3 1, 3), (297, .goto (-31), 3)]),
  (300, [(300, .iconst 0, 1), (301, .istore_n 3, 1)]),
  (302, [(302, .iload_n 3, 1), (303, .aload_n 0, 1), (304, .getfield 96, 3), (307, .iload_n 1, 1), (308, .iaload, 1), (309, .if_icmp .ge 33, 3), (312, .aload_n 0, 1), (313, .getfield 136, 3), (316, .sipush 3840, 3), (319, .iload_n 2, 1), (320, .imul, 1), (321, .iload_n 3, 1), (322, .iadd, 1), (323, .aload_n 0, 1), (324, .getfield 136, 3), (327, .sipush 3840, 3), (330, .iload_n 1, 1), (331, .imul, 1), (332, .iload_n 3, 1), (333, .iadd, 1), (334, .iaload, 1), (335, .iastore, 1)]),
  (336, [(336, .iinc 3 1, 3), (339, .goto (-37), 3)]),
  (342, [(342, .iconst 0, 1), (343, .istore_n 3, 1)]),
  (344, [(344, .iload_n 3, 1), (345, .bipush 50, 2), (347, .if_icmp .ge 53, 3), (350, .aload_n 0, 1), (351, .getfield 139, 3), (354, .bipush 50, 2), (356, .iload_n 2, 1), (357, .imul, 1), (358, .iload_n 3, 1), (359, .iadd, 1), (360, .aload_n 0, 1), (361, .getfield 139, 3), (364, .bipush 50, 2), (366, .iload_n 1, 1), (367, .imul, 1), (368, .iload_n 3, 1), (369, .iadd, 1), (370, .iaload, 1), (371, .iastore, 1), (372, .aload_n 0, 1), (373, .getfield 142, 3), (376, .bipush 50, 2), (378, .iload_n 2, 1), (379, .imul, 1), (380, .iload_n 3, 1), (381, .iadd, 1), (382, .aload_n 0, 1), (383, .getfield 142, 3), (386, .bipush 50, 2), (388, .iload_n 1, 1), (389, .imul, 1), (390, .iload_n 3, 1), (391, .iadd, 1), (392, .iaload, 1), (393, .iastore, 1), (394, .iinc 3 1, 3), (397, .goto (-53), 3)]),
  (400, [(400, .iconst 0, 1), (401, .istore_n 3, 1)]),
  (402, [(402, .iload_n 3, 1), (403, .bipush 80, 2), (405, .if_icmp .ge 53, 3), (408, .aload_n 0, 1), (409, .getfield 145, 3), (412, .bipush 80, 2), (414, .iload_n 2, 1), (415, .imul, 1), (416, .iload_n 3, 1), (417, .iadd, 1), (418, .aload_n 0, 1), (419, .getfield 145, 3), (422, .bipush 80, 2), (424, .iload_n 1, 1), (425, .imul, 1), (426, .iload_n 3, 1), (427, .iadd, 1), (428, .laload, 1), (429, .lastore, 1)]),
  (430, [(430, .aload_n 0, 1), (431, .getfield 148, 3), (434, .bipush 80, 2), (436, .iload_n 2, 1), (437, .imul, 1), (438, .iload_n 3, 1), (439, .iadd, 1), (440, .aload_n 0, 1), (441, .getfield 148, 3), (444, .bipush 80, 2), (446, .iload_n 1, 1), (447, .imul, 1), (448, .iload_n 3, 1), (449, .iadd, 1), (450, .laload, 1), (451, .lastore, 1), (452, .iinc 3 1, 3), (455, .goto (-53), 3)]),
  (458, [(458, .return_, 1)])]
def T_X12_copy (tb : Nat → Option (Nat × Nat)) : List (Nat × IV) := []
def M_X12_copy (tb : Nat → Option (Nat × Nat)) : MT := (tb, FX12, StX12, CX12, NwX12, ivOf (T_X12_copy tb), 0, 0, 0)
def r_X12_copy (tb : Nat → Option (Nat × Nat)) (K : Option AV → AX → Prop) (KX : String → AX → Prop) : PT := lfp (wpm (M_X12_copy tb) B_X12_copy K (fun _ _ _ E X _ _ => KX E X))
def w_X12_copy (tb : Nat → Option (Nat × Nat)) : WP := fun as X K KX => gd ((ini0 as).length ≤ 4) (r_X12_copy tb K KX 0 (iniL as 4) [] X 0 0)
theorem k_X12_copy : B_X12_copy.all (blkB FX12 CX12 NwX12 RX12 false cX12_copy) = true := by decide +kernel
theorem g_X12_copy : gw (.code yX12_copy cX12_copy 4 none) = true ∧ gw (.initialized yX12_copy.cls) = true := by decide +kernel
theorem c_X12_copy {l : Launch} {G : GX} (hl : l.stackTraces = false) : ∀ as X K KX, w_X12_copy (gT G) as X K KX → CT l G yX12_copy (.code yX12_copy cX12_copy 4 none) 0 0 0 0 as X K KX := fun as X K KX h => CT_of (M := M_X12_copy (gT G)) (own := RX12) (ini := false) (T := T_X12_copy (gT G)) (B := B_X12_copy) (by decide +kernel) hl rfl (fun h => absurd h (by decide)) rfl tab_X12 k_X12_copy rfl (Or.inl rfl) rfl
  trivial (gd_use h).1 (gd_use h).2
theorem py_X12_ends : plainY yX12_ends 2 = true := by decide +kernel
theorem in_X12_ends : gw (.instanceMethod yX12_ends) = true := by decide +kernel
theorem se_X12_ends : gw (.selects RX12 yX12_ends yX12_ends) = true := by decide +kernel
theorem ml_X12_305 : gw (.methodLink RX12 305 yX12_ends) = true := by decide +kernel
theorem py_X12_copy : plainY yX12_copy 2 = true := by decide +kernel
theorem in_X12_copy : gw (.instanceMethod yX12_copy) = true := by decide +kernel
theorem se_X12_copy : gw (.selects RX12 yX12_copy yX12_copy) = true := by decide +kernel
theorem ml_X12_311 : gw (.methodLink RX12 311 yX12_copy) = true := by decide +kernel
def B_X12_end : List (Nat × List (Nat × Instr × Nat)) := [(0, [(0, .aload_n 0, 1), (1, .iconst 0, 1), (2, .putfield 163, 3), (5, .aload_n 0, 1), (6, .aload_n 0, 1), (7, .getfield 166, 3), (10, .iconst 1, 1), (11, .invokevirtual 170, 3), (14, .ifCond .eq 26, 3), (17, .aload_n 0, 1), (18, .iload_n 1, 1), (19, .ifCond .lt 13, 3), (22, .iload_n 1, 1), (23, .bipush 99, 2), (25, .if_icmp .gt 7, 3), (28, .iconst 1, 1), (29, .goto 4, 3)]),
  (32, [(32, .iconst 0, 1)]),
  (33, [(33, .iconst 2, 1), (34, .invokevirtual 170, 3), (37, .ifCond .ne 5, 3)]),
  (40, [(40, .lconst 0, 1), (41, .lreturn, 1)]),
  (42, [(42, .aload_n 0, 1), (43, .iconst 0, 1), (44, .iload_n 1, 1), (45, .invokevirtual 305, 3), (48, .aload_n 0, 1), (49, .iconst 0, 1), (50, .putfield 166, 3), (53, .aload_n 0, 1), (54, .iconst 1, 1), (55, .putfield 308, 3), (58, .aload_n 0, 1), (59, .iconst 0, 1), (60, .iconst 2, 1), (61, .invokevirtual 311, 3), (64, .aload_n 0, 1), (65, .getfield 63, 3), (68, .iconst 0, 1), (69, .iaload, 1), (70, .istore_n 2, 1), (71, .aload_n 0, 1), (72, .getfield 54, 3), (75, .iload_n 2, 1), (76, .iconst 1, 1), (77, .bastore, 1), (78, .aload_n 0, 1), (79, .getfield 42, 3), (82, .iload_n 2, 1), (83, .aload_n 0, 1), (84, .getfield 115, 3), (87, .iconst 0, 1), (88, .laload, 1), (89, .ldc2_w 314, 3), (92, .lcmp, 1), (93, .ifCond .le 9, 3), (96, .ldc_w 316, 3), (99, .goto 10, 3)]),
  (102, [(102, .aload_n 0, 1), (103, .getfield 115, 3), (106, .iconst 0, 1), (107, .laload, 1), (108, .l2i, 1)]),
  (109, [(109, .iastore, 1), (110, .aload_n 0, 1), (111, .getfield 45, 3), (114, .iload_n 2, 1), (115, .aload_n 0, 1), (116, .getfield 90, 3), (119, .iconst 0, 1), (120, .iaload, 1), (121, .iastore, 1), (122, .aload_n 0, 1), (123, .getfield 48, 3), (126, .iload_n 2, 1), (127, .aload_n 0, 1), (128, .getfield 66, 3), (131, .iconst 0, 1), (132, .iaload, 1), (133, .iastore, 1), (134, .aload_n 0, 1), (135, .getfield 51, 3), (138, .iload_n 2, 1), (139, .aload_n 0, 1), (140, .getfield 225, 3), (143, .bastore, 1), (144, .aload_n 0, 1), (145, .getfield 115, 3), (148, .iconst 0, 1), (149, .laload, 1), (150, .lreturn, 1)])]
def T_X12_end (tb : Nat → Option (Nat × Nat)) : List (Nat × IV) := [(680, ivV tb 12 0 0 2 0 0 1 (w_X12_right tb)), (1220, ivV tb 12 0 0 2 0 0 0 (w_X12_ends tb)), (1244, ivV tb 12 0 0 2 0 0 0 (w_X12_copy tb))]
def M_X12_end (tb : Nat → Option (Nat × Nat)) : MT := (tb, FX12, StX12, CX12, NwX12, ivOf (T_X12_end tb), 0, 0, 3)
def r_X12_end (tb : Nat → Option (Nat × Nat)) (K : Option AV → AX → Prop) (KX : String → AX → Prop) : PT := lfp (wpm (M_X12_end tb) B_X12_end K (fun _ _ _ E X _ _ => KX E X))
def w_X12_end (tb : Nat → Option (Nat × Nat)) : WP := fun as X K KX => gd ((ini0 as).length ≤ 3) (r_X12_end tb K KX 0 (iniL as 3) [] X 0 0)
theorem k_X12_end : B_X12_end.all (blkB FX12 CX12 NwX12 RX12 false cX12_end) = true := by decide +kernel
theorem g_X12_end : gw (.code yX12_end cX12_end 3 (some .long)) = true ∧ gw (.initialized yX12_end.cls) = true := by decide +kernel
theorem c_X12_end {l : Launch} {G : GX} (hl : l.stackTraces = false) : ∀ as X K KX, w_X12_end (gT G) as X K KX → CT l G yX12_end (.code yX12_end cX12_end 3 (some .long)) 2 47 0 0 as X K KX := fun as X K KX h => CT_of (M := M_X12_end (gT G)) (own := RX12) (ini := false) (T := T_X12_end (gT G)) (B := B_X12_end) (by decide +kernel) hl rfl (fun h => absurd h (by decide)) rfl tab_X12 k_X12_end rfl (Or.inl rfl) rfl
  ⟨ivV_ok (ci := 12) (c_X12_right hl) g_X12_right.1 g_X12_right.2 ml_X12_170 in_X12_right py_X12_right rfl se_X12_right, ivV_ok (ci := 12) (c_X12_ends hl) g_X12_ends.1 g_X12_ends.2 ml_X12_305 in_X12_ends py_X12_ends rfl se_X12_ends, ivV_ok (ci := 12) (c_X12_copy hl) g_X12_copy.1 g_X12_copy.2 ml_X12_311 in_X12_copy py_X12_copy rfl se_X12_copy, trivial⟩ (gd_use h).1 (gd_use h).2
def B_X12_pay : List (Nat × List (Nat × Instr × Nat)) := [(0, [(0, .aload_n 0, 1), (1, .iconst 0, 1), (2, .putfield 163, 3), (5, .aload_n 0, 1), (6, .aload_n 0, 1), (7, .getfield 166, 3), (10, .ifCond .ne 23, 3), (13, .aload_n 0, 1), (14, .getfield 308, 3), (17, .ifCond .eq 16, 3), (20, .aload_n 0, 1), (21, .getfield 130, 3), (24, .iconst 2, 1), (25, .baload, 1), (26, .ifCond .ne 7, 3), (29, .iconst 1, 1), (30, .goto 4, 3)]),
  (33, [(33, .iconst 0, 1)]),
  (34, [(34, .iconst 1, 1), (35, .invokevirtual 170, 3), (38, .ifCond .eq 27, 3), (41, .aload_n 0, 1), (42, .lload_n 1, 1), (43, .aload_n 0, 1), (44, .getfield 115, 3), (47, .iconst 2, 1), (48, .laload, 1), (49, .lcmp, 1), (50, .ifCond .lt 7, 3), (53, .iconst 1, 1), (54, .goto 4, 3)]),
  (57, [(57, .iconst 0, 1)]),
  (58, [(58, .iconst 2, 1), (59, .invokevirtual 170, 3), (62, .ifCond .ne 5, 3)]),
  (65, [(65, .lconst 0, 1), (66, .lreturn, 1)]),
  (67, [(67, .aload_n 0, 1), (68, .getfield 130, 3), (71, .iconst 2, 1), (72, .iconst 1, 1), (73, .bastore, 1), (74, .aload_n 0, 1), (75, .getfield 130, 3), (78, .iconst 0, 1), (79, .iconst 1, 1), (80, .bastore, 1), (81, .lload_n 1, 1), (82, .aload_n 0, 1), (83, .getfield 115, 3), (86, .iconst 2, 1), (87, .laload, 1), (88, .lsub, 1), (89, .lreturn, 1)])]
def T_X12_pay (tb : Nat → Option (Nat × Nat)) : List (Nat × IV) := [(680, ivV tb 12 0 0 2 0 0 1 (w_X12_right tb))]
def M_X12_pay (tb : Nat → Option (Nat × Nat)) : MT := (tb, FX12, StX12, CX12, NwX12, ivOf (T_X12_pay tb), 0, 0, 3)
def r_X12_pay (tb : Nat → Option (Nat × Nat)) (K : Option AV → AX → Prop) (KX : String → AX → Prop) : PT := lfp (wpm (M_X12_pay tb) B_X12_pay K (fun _ _ _ E X _ _ => KX E X))
def w_X12_pay (tb : Nat → Option (Nat × Nat)) : WP := fun as X K KX => gd ((ini0 as).length ≤ 3) (r_X12_pay tb K KX 0 (iniL as 3) [] X 0 0)
theorem k_X12_pay : B_X12_pay.all (blkB FX12 CX12 NwX12 RX12 false cX12_pay) = true := by decide +kernel
theorem g_X12_pay : gw (.code yX12_pay cX12_pay 3 (some .long)) = true ∧ gw (.initialized yX12_pay.cls) = true := by decide +kernel
theorem c_X12_pay {l : Launch} {G : GX} (hl : l.stackTraces = false) : ∀ as X K KX, w_X12_pay (gT G) as X K KX → CT l G yX12_pay (.code yX12_pay cX12_pay 3 (some .long)) 1 22 0 0 as X K KX := fun as X K KX h => CT_of (M := M_X12_pay (gT G)) (own := RX12) (ini := false) (T := T_X12_pay (gT G)) (B := B_X12_pay) (by decide +kernel) hl rfl (fun h => absurd h (by decide)) rfl tab_X12 k_X12_pay rfl (Or.inl rfl) rfl
  ⟨ivV_ok (ci := 12) (c_X12_right hl) g_X12_right.1 g_X12_right.2 ml_X12_170 in_X12_right py_X12_right rfl se_X12_right, trivial⟩ (gd_use h).1 (gd_use h).2
def B_X12_was : List (Nat × List (Nat × Instr × Nat)) := [(0, [(0, .aload_n 0, 1), (1, .aload_n 0, 1), (2, .getfield 219, 3), (5, .ifCond .le 7, 3), (8, .iconst 1, 1), (9, .goto 4, 3)]),
  (12, [(12, .iconst 0, 1)]),
  (13, [(13, .iconst 1, 1), (14, .invokevirtual 170, 3), (17, .ireturn, 1)])]
def T_X12_was (tb : Nat → Option (Nat × Nat)) : List (Nat × IV) := [(680, ivV tb 12 0 0 2 0 0 1 (w_X12_right tb))]
def M_X12_was (tb : Nat → Option (Nat × Nat)) : MT := (tb, FX12, StX12, CX12, NwX12, ivOf (T_X12_was tb), 0, 0, 2)
def r_X12_was (tb : Nat → Option (Nat × Nat)) (K : Option AV → AX → Prop) (KX : String → AX → Prop) : PT := lfp (wpm (M_X12_was tb) B_X12_was K (fun _ _ _ E X _ _ => KX E X))
def w_X12_was (tb : Nat → Option (Nat × Nat)) : WP := fun as X K KX => gd ((ini0 as).length ≤ 1) (r_X12_was tb K KX 0 (iniL as 1) [] X 0 0)
theorem k_X12_was : B_X12_was.all (blkB FX12 CX12 NwX12 RX12 false cX12_was) = true := by decide +kernel
theorem g_X12_was : gw (.code yX12_was cX12_was 1 (some .boolean)) = true ∧ gw (.initialized yX12_was.cls) = true := by decide +kernel
theorem c_X12_was {l : Launch} {G : GX} (hl : l.stackTraces = false) : ∀ as X K KX, w_X12_was (gT G) as X K KX → CT l G yX12_was (.code yX12_was cX12_was 1 (some .boolean)) 1 22 0 0 as X K KX := fun as X K KX h => CT_of (M := M_X12_was (gT G)) (own := RX12) (ini := false) (T := T_X12_was (gT G)) (B := B_X12_was) (by decide +kernel) hl rfl (fun h => absurd h (by decide)) rfl tab_X12 k_X12_was rfl (Or.inl rfl) rfl
  ⟨ivV_ok (ci := 12) (c_X12_right hl) g_X12_right.1 g_X12_right.2 ml_X12_170 in_X12_right py_X12_right rfl se_X12_right, trivial⟩ (gd_use h).1 (gd_use h).2
theorem py_X12_was : plainY yX12_was 0 = true := by decide +kernel
theorem in_X12_was : gw (.instanceMethod yX12_was) = true := by decide +kernel
theorem se_X12_was : gw (.selects RX12 yX12_was yX12_was) = true := by decide +kernel
theorem ml_X12_317 : gw (.methodLink RX12 317 yX12_was) = true := by decide +kernel
def B_X12_fare : List (Nat × List (Nat × Instr × Nat)) := [(0, [(0, .aload_n 0, 1), (1, .iconst 0, 1), (2, .putfield 163, 3), (5, .aload_n 0, 1), (6, .invokevirtual 317, 3), (9, .ifCond .eq 12, 3), (12, .aload_n 0, 1), (13, .getfield 115, 3), (16, .iconst 0, 1), (17, .laload, 1), (18, .goto 4, 3)]),
  (21, [(21, .lconst 0, 1)]),
  (22, [(22, .lreturn, 1)])]
def T_X12_fare (tb : Nat → Option (Nat × Nat)) : List (Nat × IV) := [(1268, ivV tb 12 0 0 0 0 0 1 (w_X12_was tb))]
def M_X12_fare (tb : Nat → Option (Nat × Nat)) : MT := (tb, FX12, StX12, CX12, NwX12, ivOf (T_X12_fare tb), 0, 0, 3)
def r_X12_fare (tb : Nat → Option (Nat × Nat)) (K : Option AV → AX → Prop) (KX : String → AX → Prop) : PT := lfp (wpm (M_X12_fare tb) B_X12_fare K (fun _ _ _ E X _ _ => KX E X))
def w_X12_fare (tb : Nat → Option (Nat × Nat)) : WP := fun as X K KX => gd ((ini0 as).length ≤ 1) (r_X12_fare tb K KX 0 (iniL as 1) [] X 0 0)
theorem k_X12_fare : B_X12_fare.all (blkB FX12 CX12 NwX12 RX12 false cX12_fare) = true := by decide +kernel
theorem g_X12_fare : gw (.code yX12_fare cX12_fare 1 (some .long)) = true ∧ gw (.initialized yX12_fare.cls) = true := by decide +kernel
theorem c_X12_fare {l : Launch} {G : GX} (hl : l.stackTraces = false) : ∀ as X K KX, w_X12_fare (gT G) as X K KX → CT l G yX12_fare (.code yX12_fare cX12_fare 1 (some .long)) 2 42 0 0 as X K KX := fun as X K KX h => CT_of (M := M_X12_fare (gT G)) (own := RX12) (ini := false) (T := T_X12_fare (gT G)) (B := B_X12_fare) (by decide +kernel) hl rfl (fun h => absurd h (by decide)) rfl tab_X12 k_X12_fare rfl (Or.inl rfl) rfl
  ⟨ivV_ok (ci := 12) (c_X12_was hl) g_X12_was.1 g_X12_was.2 ml_X12_317 in_X12_was py_X12_was rfl se_X12_was, trivial⟩ (gd_use h).1 (gd_use h).2
def B_X12_part : List (Nat × List (Nat × Instr × Nat)) := [(0, [(0, .aload_n 0, 1), (1, .iconst 0, 1), (2, .putfield 163, 3), (5, .aload_n 0, 1), (6, .invokevirtual 317, 3), (9, .ifCond .eq 27, 3), (12, .aload_n 0, 1), (13, .iload_n 1, 1), (14, .iconst 1, 1), (15, .if_icmp .lt 13, 3), (18, .iload_n 1, 1), (19, .ldc 188, 2), (21, .if_icmp .gt 7, 3), (24, .iconst 1, 1), (25, .goto 4, 3)]),
  (28, [(28, .iconst 0, 1)]),
  (29, [(29, .iconst 2, 1), (30, .invokevirtual 170, 3), (33, .ifCond .ne 5, 3)]),
  (36, [(36, .iconst 0, 1), (37, .ireturn, 1)]),
  (38, [(38, .iload_n 1, 1), (39, .i2l, 1), (40, .lneg, 1), (41, .aload_n 0, 1), (42, .getfield 105, 3), (45, .iconst 0, 1), (46, .iaload, 1), (47, .i2l, 1), (48, .lmul, 1), (49, .lstore_n 2, 1), (50, .aload_n 0, 1), (51, .iconst 0, 1), (52, .putfield 235, 3), (55, .aload_n 0, 1), (56, .iconst 0, 1), (57, .invokevirtual 261, 3), (60, .iconst 0, 1), (61, .istore 4, 2)]),
  (63, [(63, .iload 4, 2), (65, .aload_n 0, 1), (66, .getfield 235, 3), (69, .if_icmp .ge 51, 3), (72, .aload_n 0, 1), (73, .getfield 151, 3), (76, .iload 4, 2), (78, .laload, 1), (79, .iload_n 1, 1), (80, .i2l, 1), (81, .lmul, 1), (82, .lstore 5, 2), (84, .lload_n 2, 1), (85, .lload 5, 2), (87, .aload_n 0, 1), (88, .getfield 154, 3), (91, .iload 4, 2), (93, .laload, 1), (94, .ldiv, 1), (95, .ladd, 1), (96, .lstore_n 2, 1), (97, .aload_n 0, 1), (98, .getfield 151, 3), (101, .iload 4, 2), (103, .lload 5, 2), (105, .aload_n 0, 1), (106, .getfield 154, 3), (109, .iload 4, 2), (111, .laload, 1), (112, .lrem, 1), (113, .lastore, 1), (114, .iinc 4 1, 3), (117, .goto (-54), 3)]),
  (120, [(120, .lload_n 2, 1), (121, .aload_n 0, 1), (122, .iconst 0, 1), (123, .invokevirtual 265, 3), (126, .i2l, 1), (127, .ladd, 1), (128, .l2i, 1), (129, .ireturn, 1)])]
def T_X12_part (tb : Nat → Option (Nat × Nat)) : List (Nat × IV) := [(1268, ivV tb 12 0 0 0 0 0 1 (w_X12_was tb)), (680, ivV tb 12 0 0 2 0 0 1 (w_X12_right tb)), (1044, ivV tb 12 0 0 1 0 0 0 (w_X12_collect tb)), (1060, ivV tb 12 0 0 1 0 0 1 (w_X12_whole tb))]
def M_X12_part (tb : Nat → Option (Nat × Nat)) : MT := (tb, FX12, StX12, CX12, NwX12, ivOf (T_X12_part tb), 0, 0, 1)
def r_X12_part (tb : Nat → Option (Nat × Nat)) (K : Option AV → AX → Prop) (KX : String → AX → Prop) : PT := lfp (wpm (M_X12_part tb) B_X12_part K (fun _ _ _ E X _ _ => KX E X))
def w_X12_part (tb : Nat → Option (Nat × Nat)) : WP := fun as X K KX => gd ((ini0 as).length ≤ 7) (r_X12_part tb K KX 0 (iniL as 7) [] X 0 0)
theorem k_X12_part : B_X12_part.all (blkB FX12 CX12 NwX12 RX12 false cX12_part) = true := by decide +kernel
theorem g_X12_part : gw (.code yX12_part cX12_part 7 (some .int)) = true ∧ gw (.initialized yX12_part.cls) = true := by decide +kernel
theorem c_X12_part {l : Launch} {G : GX} (hl : l.stackTraces = false) : ∀ as X K KX, w_X12_part (gT G) as X K KX → CT l G yX12_part (.code yX12_part cX12_part 7 (some .int)) 3 71 0 0 as X K KX := fun as X K KX h => CT_of (M := M_X12_part (gT G)) (own := RX12) (ini := false) (T := T_X12_part (gT G)) (B := B_X12_part) (by decide +kernel) hl rfl (fun h => absurd h (by decide)) rfl tab_X12 k_X12_part rfl (Or.inl rfl) rfl
  ⟨ivV_ok (ci := 12) (c_X12_was hl) g_X12_was.1 g_X12_was.2 ml_X12_317 in_X12_was py_X12_was rfl se_X12_was, ivV_ok (ci := 12) (c_X12_right hl) g_X12_right.1 g_X12_right.2 ml_X12_170 in_X12_right py_X12_right rfl se_X12_right, ivV_ok (ci := 12) (c_X12_collect hl) g_X12_collect.1 g_X12_collect.2 ml_X12_261 in_X12_collect py_X12_collect rfl se_X12_collect, ivV_ok (ci := 12) (c_X12_whole hl) g_X12_whole.1 g_X12_whole.2 ml_X12_265 in_X12_whole py_X12_whole rfl se_X12_whole, trivial⟩ (gd_use h).1 (gd_use h).2
theorem ml_X12_320 : gw (.methodLink RX12 320 Lib.MathLoose.min_long.x) = true := by decide +kernel
def B_X12_about : List (Nat × List (Nat × Instr × Nat)) := [(0, [(0, .aload_n 0, 1), (1, .iconst 0, 1), (2, .putfield 163, 3), (5, .aload_n 0, 1), (6, .invokevirtual 317, 3), (9, .ifCond .eq 26, 3), (12, .aload_n 0, 1), (13, .iload_n 1, 1), (14, .ifCond .lt 13, 3), (17, .iload_n 1, 1), (18, .bipush 16, 2), (20, .if_icmp .gt 7, 3), (23, .iconst 1, 1), (24, .goto 4, 3)]),
  (27, [(27, .iconst 0, 1)]),
  (28, [(28, .iconst 1, 1), (29, .invokevirtual 170, 3), (32, .ifCond .ne 5, 3)]),
  (35, [(35, .iconst 0, 1), (36, .ireturn, 1)]),
  (37, [(37, .iload_n 1, 1), (38, .tableswitch 248 0 15 #[78, 85, 98, 105, 112, 119, 127, 157, 164, 186, 193, 200, 206, 219, 226, 233], 78)]),
  (116, [(116, .aload_n 0, 1), (117, .getfield 63, 3), (120, .iconst 0, 1), (121, .iaload, 1), (122, .ireturn, 1)]),
  (123, [(123, .aload_n 0, 1), (124, .getfield 166, 3), (127, .ifCond .eq 7, 3), (130, .iconst 1, 1), (131, .goto 4, 3)]),
  (134, [(134, .iconst 0, 1)]),
  (135, [(135, .ireturn, 1)]),
  (136, [(136, .aload_n 0, 1), (137, .getfield 66, 3), (140, .iconst 0, 1), (141, .iaload, 1), (142, .ireturn, 1)]),
  (143, [(143, .aload_n 0, 1), (144, .getfield 90, 3), (147, .iconst 0, 1), (148, .iaload, 1), (149, .ireturn, 1)]),
  (150, [(150, .aload_n 0, 1), (151, .getfield 93, 3), (154, .iconst 0, 1), (155, .iaload, 1), (156, .ireturn, 1)]),
  (157, [(157, .aload_n 0, 1), (158, .getfield 118, 3), (161, .iconst 0, 1), (162, .laload, 1), (163, .l2i, 1), (164, .ireturn, 1)]),
  (165, [(165, .ldc2_w 314, 3), (168, .aload_n 0, 1), (169, .getfield 111, 3), (172, .iconst 0, 1), (173, .laload, 1), (174, .aload_n 0, 1), (175, .getfield 84, 3), (178, .iconst 0, 1), (179, .iaload, 1), (180, .i2l, 1), (181, .lmul, 1), (182, .aload_n 0, 1), (183, .getfield 87, 3), (186, .iconst 0, 1), (187, .iaload, 1), (188, .i2l, 1), (189, .ldiv, 1), (190, .invokestatic 320, 3), (193, .l2i, 1), (194, .ireturn, 1)]),
  (195, [(195, .aload_n 0, 1), (196, .getfield 96, 3), (199, .iconst 0, 1), (200, .iaload, 1), (201, .ireturn, 1)]),
  (202, [(202, .aload_n 0, 1), (203, .getfield 166, 3), (206, .ifCond .eq 16, 3), (209, .aload_n 0, 1), (210, .getfield 124, 3), (213, .iconst 0, 1), (214, .baload, 1), (215, .ifCond .eq 7, 3), (218, .iconst 1, 1), (219, .goto 4, 3)]),
  (222, [(222, .iconst 0, 1)]),
  (223, [(223, .ireturn, 1)]),
  (224, [(224, .aload_n 0, 1), (225, .getfield 81, 3), (228, .iconst 0, 1), (229, .iaload, 1), (230, .ireturn, 1)]),
  (231, [(231, .aload_n 0, 1), (232, .getfield 99, 3), (235, .iconst 0, 1), (236, .iaload, 1), (237, .ireturn, 1)]),
  (238, [(238, .aload_n 0, 1), (239, .iconst 0, 1), (240, .invokevirtual 273, 3), (243, .ireturn, 1)]),
  (244, [(244, .aload_n 0, 1), (245, .getfield 225, 3), (248, .ifCond .eq 7, 3), (251, .iconst 1, 1), (252, .goto 4, 3)]),
  (255, [(255, .iconst 0, 1)]),
  (256, [(256, .ireturn, 1)]),
  (257, [(257, .aload_n 0, 1), (258, .getfield 69, 3), (261, .iconst 0, 1), (262, .iaload, 1), (263, .ireturn, 1)]),
  (264, [(264, .aload_n 0, 1), (265, .getfield 72, 3), (268, .iconst 0, 1), (269, .iaload, 1), (270, .ireturn, 1)]),
  (271, [(271, .aload_n 0, 1), (272, .getfield 127, 3), (275, .iconst 0, 1), (276, .baload, 1), (277, .ifCond .eq 7, 3), (280, .iconst 1, 1), (281, .goto 4, 3)]),
  (284, [(284, .iconst 0, 1)]),
  (285, [(285, .ireturn, 1)]),
  (286, [(286, .aload_n 0, 1), (287, .getfield 130, 3), (290, .iconst 0, 1), (291, .baload, 1), (292, .ifCond .eq 7, 3), (295, .iconst 1, 1), (296, .goto 4, 3)]),
  (299, [(299, .iconst 0, 1)]),
  (300, [(300, .ireturn, 1)])]
def T_X12_about (tb : Nat → Option (Nat × Nat)) : List (Nat × IV) := [(1268, ivV tb 12 0 0 0 0 0 1 (w_X12_was tb)), (680, ivV tb 12 0 0 2 0 0 1 (w_X12_right tb)), (1282, ivML (fun x y => if y < x then y else x)), (1092, ivV tb 12 0 0 1 0 0 1 (w_X12_minuteOf tb))]
def M_X12_about (tb : Nat → Option (Nat × Nat)) : MT := (tb, FX12, StX12, CX12, NwX12, ivOf (T_X12_about tb), 0, 0, 1)
def r_X12_about (tb : Nat → Option (Nat × Nat)) (K : Option AV → AX → Prop) (KX : String → AX → Prop) : PT := lfp (wpm (M_X12_about tb) B_X12_about K (fun _ _ _ E X _ _ => KX E X))
def w_X12_about (tb : Nat → Option (Nat × Nat)) : WP := fun as X K KX => gd ((ini0 as).length ≤ 2) (r_X12_about tb K KX 0 (iniL as 2) [] X 0 0)
theorem k_X12_about : B_X12_about.all (blkB FX12 CX12 NwX12 RX12 false cX12_about) = true := by decide +kernel
theorem g_X12_about : gw (.code yX12_about cX12_about 2 (some .int)) = true ∧ gw (.initialized yX12_about.cls) = true := by decide +kernel
theorem c_X12_about {l : Launch} {G : GX} (hl : l.stackTraces = false) : ∀ as X K KX, w_X12_about (gT G) as X K KX → CT l G yX12_about (.code yX12_about cX12_about 2 (some .int)) 2 42 0 0 as X K KX := fun as X K KX h => CT_of (M := M_X12_about (gT G)) (own := RX12) (ini := false) (T := T_X12_about (gT G)) (B := B_X12_about) (by decide +kernel) hl rfl (fun h => absurd h (by decide)) rfl tab_X12 k_X12_about rfl (Or.inl rfl) rfl
  ⟨ivV_ok (ci := 12) (c_X12_was hl) g_X12_was.1 g_X12_was.2 ml_X12_317 in_X12_was py_X12_was rfl se_X12_was, ivV_ok (ci := 12) (c_X12_right hl) g_X12_right.1 g_X12_right.2 ml_X12_170 in_X12_right py_X12_right rfl se_X12_right, ivMinL_ok ml_X12_320 rfl, ivV_ok (ci := 12) (c_X12_minuteOf hl) g_X12_minuteOf.1 g_X12_minuteOf.2 ml_X12_273 in_X12_minuteOf py_X12_minuteOf rfl se_X12_minuteOf, trivial⟩ (gd_use h).1 (gd_use h).2
def B_X12_dark : List (Nat × List (Nat × Instr × Nat)) := [(0, [(0, .aload_n 0, 1), (1, .iconst 0, 1), (2, .putfield 163, 3), (5, .aload_n 0, 1), (6, .invokevirtual 317, 3), (9, .ifCond .eq 41, 3), (12, .aload_n 0, 1), (13, .iload_n 1, 1), (14, .ifCond .lt 17, 3), (17, .iload_n 1, 1), (18, .aload_n 0, 1), (19, .getfield 96, 3), (22, .iconst 0, 1), (23, .iaload, 1), (24, .if_icmp .ge 7, 3), (27, .iconst 1, 1), (28, .goto 4, 3)]),
  (31, [(31, .iconst 0, 1)]),
  (32, [(32, .iconst 1, 1), (33, .invokevirtual 170, 3), (36, .ifCond .eq 14, 3), (39, .aload_n 0, 1), (40, .getfield 136, 3), (43, .iconst 0, 1), (44, .iload_n 1, 1), (45, .iadd, 1), (46, .iaload, 1), (47, .goto 4, 3)]),
  (50, [(50, .iconst 0, 1)]),
  (51, [(51, .ireturn, 1)])]
def T_X12_dark (tb : Nat → Option (Nat × Nat)) : List (Nat × IV) := [(1268, ivV tb 12 0 0 0 0 0 1 (w_X12_was tb)), (680, ivV tb 12 0 0 2 0 0 1 (w_X12_right tb))]
def M_X12_dark (tb : Nat → Option (Nat × Nat)) : MT := (tb, FX12, StX12, CX12, NwX12, ivOf (T_X12_dark tb), 0, 0, 1)
def r_X12_dark (tb : Nat → Option (Nat × Nat)) (K : Option AV → AX → Prop) (KX : String → AX → Prop) : PT := lfp (wpm (M_X12_dark tb) B_X12_dark K (fun _ _ _ E X _ _ => KX E X))
def w_X12_dark (tb : Nat → Option (Nat × Nat)) : WP := fun as X K KX => gd ((ini0 as).length ≤ 2) (r_X12_dark tb K KX 0 (iniL as 2) [] X 0 0)
theorem k_X12_dark : B_X12_dark.all (blkB FX12 CX12 NwX12 RX12 false cX12_dark) = true := by decide +kernel
theorem g_X12_dark : gw (.code yX12_dark cX12_dark 2 (some .int)) = true ∧ gw (.initialized yX12_dark.cls) = true := by decide +kernel
theorem c_X12_dark {l : Launch} {G : GX} (hl : l.stackTraces = false) : ∀ as X K KX, w_X12_dark (gT G) as X K KX → CT l G yX12_dark (.code yX12_dark cX12_dark 2 (some .int)) 2 42 0 0 as X K KX := fun as X K KX h => CT_of (M := M_X12_dark (gT G)) (own := RX12) (ini := false) (T := T_X12_dark (gT G)) (B := B_X12_dark) (by decide +kernel) hl rfl (fun h => absurd h (by decide)) rfl tab_X12 k_X12_dark rfl (Or.inl rfl) rfl
  ⟨ivV_ok (ci := 12) (c_X12_was hl) g_X12_was.1 g_X12_was.2 ml_X12_317 in_X12_was py_X12_was rfl se_X12_was, ivV_ok (ci := 12) (c_X12_right hl) g_X12_right.1 g_X12_right.2 ml_X12_170 in_X12_right py_X12_right rfl se_X12_right, trivial⟩ (gd_use h).1 (gd_use h).2
def B_X12_receipt : List (Nat × List (Nat × Instr × Nat)) := [(0, [(0, .aload_n 0, 1), (1, .iconst 0, 1), (2, .putfield 163, 3), (5, .aload_n 0, 1), (6, .iload_n 1, 1), (7, .ifCond .lt 32, 3), (10, .iload_n 1, 1), (11, .sipush 4000, 3), (14, .if_icmp .ge 25, 3), (17, .aload_n 0, 1), (18, .getfield 54, 3), (21, .iload_n 1, 1), (22, .baload, 1), (23, .ifCond .eq 16, 3), (26, .iload_n 2, 1), (27, .ifCond .lt 12, 3), (30, .iload_n 2, 1), (31, .iconst 3, 1), (32, .if_icmp .gt 7, 3), (35, .iconst 1, 1), (36, .goto 4, 3)]),
  (39, [(39, .iconst 0, 1)]),
  (40, [(40, .iconst 1, 1), (41, .invokevirtual 170, 3), (44, .ifCond .ne 5, 3), (47, .iconst 0, 1), (48, .ireturn, 1)]),
  (49, [(49, .iload_n 2, 1), (50, .ifCond .ne 12, 3), (53, .aload_n 0, 1), (54, .getfield 42, 3), (57, .iload_n 1, 1), (58, .iaload, 1), (59, .goto 45, 3)]),
  (62, [(62, .iload_n 2, 1), (63, .iconst 1, 1), (64, .if_icmp .ne 12, 3), (67, .aload_n 0, 1), (68, .getfield 45, 3), (71, .iload_n 1, 1), (72, .iaload, 1), (73, .goto 31, 3)]),
  (76, [(76, .iload_n 2, 1), (77, .iconst 2, 1), (78, .if_icmp .ne 12, 3), (81, .aload_n 0, 1), (82, .getfield 48, 3), (85, .iload_n 1, 1), (86, .iaload, 1), (87, .goto 17, 3)]),
  (90, [(90, .aload_n 0, 1), (91, .getfield 51, 3), (94, .iload_n 1, 1), (95, .baload, 1), (96, .ifCond .eq 7, 3), (99, .iconst 1, 1), (100, .goto 4, 3)]),
  (103, [(103, .iconst 0, 1)]),
  (104, [(104, .ireturn, 1)])]
def T_X12_receipt (tb : Nat → Option (Nat × Nat)) : List (Nat × IV) := [(680, ivV tb 12 0 0 2 0 0 1 (w_X12_right tb))]
def M_X12_receipt (tb : Nat → Option (Nat × Nat)) : MT := (tb, FX12, StX12, CX12, NwX12, ivOf (T_X12_receipt tb), 0, 0, 1)
def r_X12_receipt (tb : Nat → Option (Nat × Nat)) (K : Option AV → AX → Prop) (KX : String → AX → Prop) : PT := lfp (wpm (M_X12_receipt tb) B_X12_receipt K (fun _ _ _ E X _ _ => KX E X))
def w_X12_receipt (tb : Nat → Option (Nat × Nat)) : WP := fun as X K KX => gd ((ini0 as).length ≤ 3) (r_X12_receipt tb K KX 0 (iniL as 3) [] X 0 0)
theorem k_X12_receipt : B_X12_receipt.all (blkB FX12 CX12 NwX12 RX12 false cX12_receipt) = true := by decide +kernel
theorem g_X12_receipt : gw (.code yX12_receipt cX12_receipt 3 (some .int)) = true ∧ gw (.initialized yX12_receipt.cls) = true := by decide +kernel
theorem c_X12_receipt {l : Launch} {G : GX} (hl : l.stackTraces = false) : ∀ as X K KX, w_X12_receipt (gT G) as X K KX → CT l G yX12_receipt (.code yX12_receipt cX12_receipt 3 (some .int)) 1 22 0 0 as X K KX := fun as X K KX h => CT_of (M := M_X12_receipt (gT G)) (own := RX12) (ini := false) (T := T_X12_receipt (gT G)) (B := B_X12_receipt) (by decide +kernel) hl rfl (fun h => absurd h (by decide)) rfl tab_X12 k_X12_receipt rfl (Or.inl rfl) rfl
  ⟨ivV_ok (ci := 12) (c_X12_right hl) g_X12_right.1 g_X12_right.2 ml_X12_170 in_X12_right py_X12_right rfl se_X12_right, trivial⟩ (gd_use h).1 (gd_use h).2
def B_X12_again : List (Nat × List (Nat × Instr × Nat)) := [(0, [(0, .aload_n 0, 1), (1, .iconst 0, 1), (2, .putfield 163, 3), (5, .aload_n 0, 1), (6, .aload_n 0, 1), (7, .getfield 166, 3), (10, .ifCond .ne 14, 3), (13, .aload_n 0, 1), (14, .getfield 308, 3), (17, .ifCond .eq 7, 3), (20, .iconst 1, 1), (21, .goto 4, 3)]),
  (24, [(24, .iconst 0, 1)]),
  (25, [(25, .iconst 1, 1), (26, .invokevirtual 170, 3), (29, .ifCond .ne 5, 3), (32, .lconst 0, 1), (33, .lreturn, 1)]),
  (34, [(34, .aload_n 0, 1), (35, .iconst 3, 1), (36, .aload_n 0, 1), (37, .getfield 78, 3), (40, .iconst 2, 1), (41, .iaload, 1), (42, .aload_n 0, 1), (43, .getfield 69, 3), (46, .iconst 2, 1), (47, .iaload, 1), (48, .aload_n 0, 1), (49, .getfield 75, 3), (52, .iconst 2, 1), (53, .iaload, 1), (54, .bipush 60, 2), (56, .idiv, 1), (57, .aload_n 0, 1), (58, .getfield 75, 3), (61, .iconst 2, 1), (62, .iaload, 1), (63, .bipush 60, 2), (65, .irem, 1), (66, .invokevirtual 295, 3), (69, .iconst 0, 1), (70, .istore_n 1, 1), (71, .iconst 0, 1), (72, .istore_n 2, 1)]),
  (73, [(73, .iload_n 2, 1), (74, .aload_n 0, 1), (75, .getfield 66, 3), (78, .iconst 2, 1), (79, .iaload, 1), (80, .if_icmp .gt 68, 3)]),
  (83, [(83, .iload_n 1, 1), (84, .aload_n 0, 1), (85, .getfield 99, 3), (88, .iconst 2, 1), (89, .iaload, 1), (90, .if_icmp .ge 36, 3), (93, .aload_n 0, 1), (94, .getfield 139, 3), (97, .bipush 100, 2), (99, .iload_n 1, 1), (100, .iadd, 1), (101, .iaload, 1), (102, .iload_n 2, 1), (103, .if_icmp .ne 23, 3), (106, .aload_n 0, 1), (107, .iconst 3, 1), (108, .aload_n 0, 1), (109, .getfield 142, 3), (112, .bipush 100, 2), (114, .iload_n 1, 1), (115, .iadd, 1), (116, .iaload, 1), (117, .invokevirtual 302, 3), (120, .iinc 1 1, 3), (123, .goto (-40), 3)]),
  (126, [(126, .iload_n 2, 1), (127, .aload_n 0, 1), (128, .getfield 66, 3), (131, .iconst 2, 1), (132, .iaload, 1), (133, .if_icmp .ge 9, 3), (136, .aload_n 0, 1), (137, .iconst 3, 1), (138, .invokevirtual 299, 3), (141, .pop, 1)]),
  (142, [(142, .iinc 2 1, 3), (145, .goto (-72), 3)]),
  (148, [(148, .aload_n 0, 1), (149, .getfield 118, 3), (152, .iconst 3, 1), (153, .dup2, 1), (154, .laload, 1), (155, .aload_n 0, 1), (156, .getfield 121, 3), (159, .iconst 2, 1), (160, .laload, 1), (161, .ladd, 1), (162, .lastore, 1), (163, .aload_n 0, 1), (164, .getfield 115, 3), (167, .iconst 3, 1), (168, .dup2, 1), (169, .laload, 1), (170, .aload_n 0, 1), (171, .getfield 121, 3), (174, .iconst 2, 1), (175, .laload, 1), (176, .ladd, 1), (177, .lastore, 1), (178, .aload_n 0, 1), (179, .iconst 3, 1), (180, .aload_n 0, 1), (181, .getfield 72, 3), (184, .iconst 2, 1), (185, .iaload, 1), (186, .invokevirtual 305, 3), (189, .aload_n 0, 1), (190, .getfield 115, 3), (193, .iconst 3, 1), (194, .laload, 1), (195, .lreturn, 1)])]
def T_X12_again (tb : Nat → Option (Nat × Nat)) : List (Nat × IV) := [(680, ivV tb 12 0 0 2 0 0 1 (w_X12_right tb)), (1180, ivV tb 12 0 0 5 0 0 0 (w_X12_begins tb)), (1208, ivV tb 12 0 0 2 0 0 0 (w_X12_puts tb)), (1196, ivV tb 12 0 0 1 0 0 1 (w_X12_rowed tb)), (1220, ivV tb 12 0 0 2 0 0 0 (w_X12_ends tb))]
def M_X12_again (tb : Nat → Option (Nat × Nat)) : MT := (tb, FX12, StX12, CX12, NwX12, ivOf (T_X12_again tb), 0, 0, 3)
def r_X12_again (tb : Nat → Option (Nat × Nat)) (K : Option AV → AX → Prop) (KX : String → AX → Prop) : PT := lfp (wpm (M_X12_again tb) B_X12_again K (fun _ _ _ E X _ _ => KX E X))
def w_X12_again (tb : Nat → Option (Nat × Nat)) : WP := fun as X K KX => gd ((ini0 as).length ≤ 3) (r_X12_again tb K KX 0 (iniL as 3) [] X 0 0)
theorem k_X12_again : B_X12_again.all (blkB FX12 CX12 NwX12 RX12 false cX12_again) = true := by decide +kernel
theorem g_X12_again : gw (.code yX12_again cX12_again 3 (some .long)) = true ∧ gw (.initialized yX12_again.cls) = true := by decide +kernel
theorem c_X12_again {l : Launch} {G : GX} (hl : l.stackTraces = false) : ∀ as X K KX, w_X12_again (gT G) as X K KX → CT l G yX12_again (.code yX12_again cX12_again 3 (some .long)) 6 157 0 0 as X K KX := fun as X K KX h => CT_of (M := M_X12_again (gT G)) (own := RX12) (ini := false) (T := T_X12_again (gT G)) (B := B_X12_again) (by decide +kernel) hl rfl (fun h => absurd h (by decide)) rfl tab_X12 k_X12_again rfl (Or.inl rfl) rfl
  ⟨ivV_ok (ci := 12) (c_X12_right hl) g_X12_right.1 g_X12_right.2 ml_X12_170 in_X12_right py_X12_right rfl se_X12_right, ivV_ok (ci := 12) (c_X12_begins hl) g_X12_begins.1 g_X12_begins.2 ml_X12_295 in_X12_begins py_X12_begins rfl se_X12_begins, ivV_ok (ci := 12) (c_X12_puts hl) g_X12_puts.1 g_X12_puts.2 ml_X12_302 in_X12_puts py_X12_puts rfl se_X12_puts, ivV_ok (ci := 12) (c_X12_rowed hl) g_X12_rowed.1 g_X12_rowed.2 ml_X12_299 in_X12_rowed py_X12_rowed rfl se_X12_rowed, ivV_ok (ci := 12) (c_X12_ends hl) g_X12_ends.1 g_X12_ends.2 ml_X12_305 in_X12_ends py_X12_ends rfl se_X12_ends, trivial⟩ (gd_use h).1 (gd_use h).2
def B_X12_leg : List (Nat × List (Nat × Instr × Nat)) := [(0, [(0, .aload_n 0, 1), (1, .iconst 0, 1), (2, .putfield 163, 3), (5, .aload_n 0, 1), (6, .iload_n 1, 1), (7, .ifCond .lt 25, 3), (10, .iload_n 1, 1), (11, .ldc 189, 2), (13, .if_icmp .gt 19, 3), (16, .iload_n 2, 1), (17, .iconst 1, 1), (18, .if_icmp .lt 14, 3), (21, .iload_n 2, 1), (22, .sipush 3840, 3), (25, .if_icmp .gt 7, 3), (28, .iconst 1, 1), (29, .goto 4, 3)]),
  (32, [(32, .iconst 0, 1)]),
  (33, [(33, .iconst 1, 1), (34, .invokevirtual 170, 3), (37, .ifCond .ne 5, 3), (40, .iconst 0, 1), (41, .ireturn, 1)]),
  (42, [(42, .iload_n 2, 1), (43, .istore_n 3, 1), (44, .iconst 0, 1), (45, .istore 4, 2)]),
  (47, [(47, .iload 4, 2), (49, .aload_n 0, 1), (50, .getfield 326, 3), (53, .if_icmp .ge 19, 3), (56, .iload_n 3, 1), (57, .aload_n 0, 1), (58, .getfield 60, 3), (61, .iload 4, 2), (63, .iaload, 1), (64, .iadd, 1), (65, .istore_n 3, 1), (66, .iinc 4 1, 3), (69, .goto (-22), 3)]),
  (72, [(72, .aload_n 0, 1), (73, .getfield 326, 3), (76, .bipush 20, 2), (78, .if_icmp .eq 10, 3), (81, .iload_n 3, 1), (82, .sipush 3840, 3), (85, .if_icmp .le 5, 3)]),
  (88, [(88, .iconst (-1), 1), (89, .ireturn, 1)]),
  (90, [(90, .aload_n 0, 1), (91, .getfield 57, 3), (94, .aload_n 0, 1), (95, .getfield 326, 3), (98, .iload_n 1, 1), (99, .iastore, 1), (100, .aload_n 0, 1), (101, .getfield 60, 3), (104, .aload_n 0, 1), (105, .getfield 326, 3), (108, .iload_n 2, 1), (109, .iastore, 1), (110, .aload_n 0, 1), (111, .dup, 1), (112, .getfield 326, 3), (115, .iconst 1, 1), (116, .iadd, 1), (117, .putfield 326, 3), (120, .iload_n 3, 1), (121, .ireturn, 1)])]
def T_X12_leg (tb : Nat → Option (Nat × Nat)) : List (Nat × IV) := [(680, ivV tb 12 0 0 2 0 0 1 (w_X12_right tb))]
def M_X12_leg (tb : Nat → Option (Nat × Nat)) : MT := (tb, FX12, StX12, CX12, NwX12, ivOf (T_X12_leg tb), 0, 0, 1)
def r_X12_leg (tb : Nat → Option (Nat × Nat)) (K : Option AV → AX → Prop) (KX : String → AX → Prop) : PT := lfp (wpm (M_X12_leg tb) B_X12_leg K (fun _ _ _ E X _ _ => KX E X))
def w_X12_leg (tb : Nat → Option (Nat × Nat)) : WP := fun as X K KX => gd ((ini0 as).length ≤ 5) (r_X12_leg tb K KX 0 (iniL as 5) [] X 0 0)
theorem k_X12_leg : B_X12_leg.all (blkB FX12 CX12 NwX12 RX12 false cX12_leg) = true := by decide +kernel
theorem g_X12_leg : gw (.code yX12_leg cX12_leg 5 (some .int)) = true ∧ gw (.initialized yX12_leg.cls) = true := by decide +kernel
theorem c_X12_leg {l : Launch} {G : GX} (hl : l.stackTraces = false) : ∀ as X K KX, w_X12_leg (gT G) as X K KX → CT l G yX12_leg (.code yX12_leg cX12_leg 5 (some .int)) 1 22 0 0 as X K KX := fun as X K KX h => CT_of (M := M_X12_leg (gT G)) (own := RX12) (ini := false) (T := T_X12_leg (gT G)) (B := B_X12_leg) (by decide +kernel) hl rfl (fun h => absurd h (by decide)) rfl tab_X12 k_X12_leg rfl (Or.inl rfl) rfl
  ⟨ivV_ok (ci := 12) (c_X12_right hl) g_X12_right.1 g_X12_right.2 ml_X12_170 in_X12_right py_X12_right rfl se_X12_right, trivial⟩ (gd_use h).1 (gd_use h).2
def B_X12_clear : List (Nat × List (Nat × Instr × Nat)) := [(0, [(0, .aload_n 0, 1), (1, .iconst 0, 1), (2, .putfield 163, 3), (5, .aload_n 0, 1), (6, .getfield 326, 3), (9, .istore_n 1, 1), (10, .aload_n 0, 1), (11, .iconst 0, 1), (12, .putfield 326, 3), (15, .iload_n 1, 1), (16, .ireturn, 1)])]
def T_X12_clear (tb : Nat → Option (Nat × Nat)) : List (Nat × IV) := []
def M_X12_clear (tb : Nat → Option (Nat × Nat)) : MT := (tb, FX12, StX12, CX12, NwX12, ivOf (T_X12_clear tb), 0, 0, 1)
def r_X12_clear (tb : Nat → Option (Nat × Nat)) (K : Option AV → AX → Prop) (KX : String → AX → Prop) : PT := lfp (wpm (M_X12_clear tb) B_X12_clear K (fun _ _ _ E X _ _ => KX E X))
def w_X12_clear (tb : Nat → Option (Nat × Nat)) : WP := fun as X K KX => gd ((ini0 as).length ≤ 2) (r_X12_clear tb K KX 0 (iniL as 2) [] X 0 0)
theorem k_X12_clear : B_X12_clear.all (blkB FX12 CX12 NwX12 RX12 false cX12_clear) = true := by decide +kernel
theorem g_X12_clear : gw (.code yX12_clear cX12_clear 2 (some .int)) = true ∧ gw (.initialized yX12_clear.cls) = true := by decide +kernel
theorem c_X12_clear {l : Launch} {G : GX} (hl : l.stackTraces = false) : ∀ as X K KX, w_X12_clear (gT G) as X K KX → CT l G yX12_clear (.code yX12_clear cX12_clear 2 (some .int)) 0 0 0 0 as X K KX := fun as X K KX h => CT_of (M := M_X12_clear (gT G)) (own := RX12) (ini := false) (T := T_X12_clear (gT G)) (B := B_X12_clear) (by decide +kernel) hl rfl (fun h => absurd h (by decide)) rfl tab_X12 k_X12_clear rfl (Or.inl rfl) rfl
  trivial (gd_use h).1 (gd_use h).2
def B_X12_should : List (Nat × List (Nat × Instr × Nat)) := [(0, [(0, .aload_n 0, 1), (1, .iconst 0, 1), (2, .putfield 163, 3), (5, .aload_n 0, 1), (6, .iload_n 1, 1), (7, .iconst 1, 1), (8, .invokevirtual 210, 3), (11, .ifCond .eq 49, 3), (14, .aload_n 0, 1), (15, .iload_n 2, 1), (16, .iload 4, 2), (18, .iload 5, 2), (20, .iconst 2, 1), (21, .invokevirtual 287, 3), (24, .ifCond .eq 36, 3), (27, .aload_n 0, 1), (28, .iload_n 3, 1), (29, .ifCond .lt 13, 3), (32, .iload_n 3, 1), (33, .bipush 99, 2), (35, .if_icmp .gt 7, 3), (38, .iconst 1, 1), (39, .goto 4, 3)]),
  (42, [(42, .iconst 0, 1)]),
  (43, [(43, .iconst 2, 1), (44, .invokevirtual 170, 3), (47, .ifCond .eq 13, 3), (50, .aload_n 0, 1), (51, .iload_n 1, 1), (52, .iconst 3, 1), (53, .iconst 2, 1), (54, .invokevirtual 291, 3), (57, .ifCond .ne 5, 3)]),
  (60, [(60, .lconst 0, 1), (61, .lreturn, 1)]),
  (62, [(62, .aload_n 0, 1), (63, .iconst 4, 1), (64, .aload_n 0, 1), (65, .getfield 32, 3), (68, .iload_n 1, 1), (69, .iaload, 1), (70, .iload_n 2, 1), (71, .iload 4, 2), (73, .iload 5, 2), (75, .invokevirtual 295, 3), (78, .aload_n 0, 1), (79, .getfield 84, 3), (82, .iconst 4, 1), (83, .iconst 1, 1), (84, .iastore, 1), (85, .aload_n 0, 1), (86, .getfield 87, 3), (89, .iconst 4, 1), (90, .iconst 1, 1), (91, .iastore, 1), (92, .iconst 0, 1), (93, .istore 6, 2)]),
  (95, [(95, .iload 6, 2), (97, .aload_n 0, 1), (98, .getfield 326, 3), (101, .if_icmp .ge 44, 3), (104, .iconst 0, 1), (105, .istore 7, 2)]),
  (107, [(107, .iload 7, 2), (109, .aload_n 0, 1), (110, .getfield 60, 3), (113, .iload 6, 2), (115, .iaload, 1), (116, .if_icmp .ge 23, 3), (119, .aload_n 0, 1), (120, .iconst 4, 1), (121, .aload_n 0, 1), (122, .getfield 57, 3), (125, .iload 6, 2), (127, .iaload, 1), (128, .i2l, 1), (129, .invokevirtual 283, 3), (132, .pop, 1), (133, .iinc 7 1, 3), (136, .goto (-29), 3)]),
  (139, [(139, .iinc 6 1, 3), (142, .goto (-47), 3)]),
  (145, [(145, .aload_n 0, 1), (146, .iconst 4, 1), (147, .iload_n 3, 1), (148, .invokevirtual 305, 3), (151, .aload_n 0, 1), (152, .iconst 1, 1), (153, .putfield 329, 3), (156, .aload_n 0, 1), (157, .getfield 115, 3), (160, .iconst 4, 1), (161, .laload, 1), (162, .lreturn, 1)])]
def T_X12_should (tb : Nat → Option (Nat × Nat)) : List (Nat × IV) := [(840, ivV tb 12 0 0 2 0 0 1 (w_X12_isSlot tb)), (1148, ivV tb 12 0 0 4 0 0 1 (w_X12_isBeginning tb)), (680, ivV tb 12 0 0 2 0 0 1 (w_X12_right tb)), (1164, ivV tb 12 0 0 3 0 0 1 (w_X12_isHeld tb)), (1180, ivV tb 12 0 0 5 0 0 0 (w_X12_begins tb)), (1132, ivV tb 12 0 0 2 0 0 1 (w_X12_passes tb)), (1220, ivV tb 12 0 0 2 0 0 0 (w_X12_ends tb))]
def M_X12_should (tb : Nat → Option (Nat × Nat)) : MT := (tb, FX12, StX12, CX12, NwX12, ivOf (T_X12_should tb), 0, 0, 3)
def r_X12_should (tb : Nat → Option (Nat × Nat)) (K : Option AV → AX → Prop) (KX : String → AX → Prop) : PT := lfp (wpm (M_X12_should tb) B_X12_should K (fun _ _ _ E X _ _ => KX E X))
def w_X12_should (tb : Nat → Option (Nat × Nat)) : WP := fun as X K KX => gd ((ini0 as).length ≤ 8) (r_X12_should tb K KX 0 (iniL as 8) [] X 0 0)
theorem k_X12_should : B_X12_should.all (blkB FX12 CX12 NwX12 RX12 false cX12_should) = true := by decide +kernel
theorem g_X12_should : gw (.code yX12_should cX12_should 8 (some .long)) = true ∧ gw (.initialized yX12_should.cls) = true := by decide +kernel
theorem c_X12_should {l : Launch} {G : GX} (hl : l.stackTraces = false) : ∀ as X K KX, w_X12_should (gT G) as X K KX → CT l G yX12_should (.code yX12_should cX12_should 8 (some .long)) 5 134 0 0 as X K KX := fun as X K KX h => CT_of (M := M_X12_should (gT G)) (own := RX12) (ini := false) (T := T_X12_should (gT G)) (B := B_X12_should) (by decide +kernel) hl rfl (fun h => absurd h (by decide)) rfl tab_X12 k_X12_should rfl (Or.inl rfl) rfl
  ⟨ivV_ok (ci := 12) (c_X12_isSlot hl) g_X12_isSlot.1 g_X12_isSlot.2 ml_X12_210 in_X12_isSlot py_X12_isSlot rfl se_X12_isSlot, ivV_ok (ci := 12) (c_X12_isBeginning hl) g_X12_isBeginning.1 g_X12_isBeginning.2 ml_X12_287 in_X12_isBeginning py_X12_isBeginning rfl se_X12_isBeginning, ivV_ok (ci := 12) (c_X12_right hl) g_X12_right.1 g_X12_right.2 ml_X12_170 in_X12_right py_X12_right rfl se_X12_right, ivV_ok (ci := 12) (c_X12_isHeld hl) g_X12_isHeld.1 g_X12_isHeld.2 ml_X12_291 in_X12_isHeld py_X12_isHeld rfl se_X12_isHeld, ivV_ok (ci := 12) (c_X12_begins hl) g_X12_begins.1 g_X12_begins.2 ml_X12_295 in_X12_begins py_X12_begins rfl se_X12_begins, ivV_ok (ci := 12) (c_X12_passes hl) g_X12_passes.1 g_X12_passes.2 ml_X12_283 in_X12_passes py_X12_passes rfl se_X12_passes, ivV_ok (ci := 12) (c_X12_ends hl) g_X12_ends.1 g_X12_ends.2 ml_X12_305 in_X12_ends py_X12_ends rfl se_X12_ends, trivial⟩ (gd_use h).1 (gd_use h).2
def B_X12_error : List (Nat × List (Nat × Instr × Nat)) := [(0, [(0, .aload_n 0, 1), (1, .iconst 0, 1), (2, .putfield 163, 3), (5, .aload_n 0, 1), (6, .aload_n 0, 1), (7, .getfield 219, 3), (10, .ifCond .le 14, 3), (13, .aload_n 0, 1), (14, .getfield 329, 3), (17, .ifCond .eq 7, 3), (20, .iconst 1, 1), (21, .goto 4, 3)]),
  (24, [(24, .iconst 0, 1)]),
  (25, [(25, .iconst 1, 1), (26, .invokevirtual 170, 3), (29, .ifCond .eq 19, 3), (32, .aload_n 0, 1), (33, .getfield 90, 3), (36, .iconst 0, 1), (37, .iaload, 1), (38, .aload_n 0, 1), (39, .getfield 90, 3), (42, .iconst 4, 1), (43, .iaload, 1), (44, .isub, 1), (45, .goto 4, 3)]),
  (48, [(48, .iconst 0, 1)]),
  (49, [(49, .ireturn, 1)])]
def T_X12_error (tb : Nat → Option (Nat × Nat)) : List (Nat × IV) := [(680, ivV tb 12 0 0 2 0 0 1 (w_X12_right tb))]
def M_X12_error (tb : Nat → Option (Nat × Nat)) : MT := (tb, FX12, StX12, CX12, NwX12, ivOf (T_X12_error tb), 0, 0, 1)
def r_X12_error (tb : Nat → Option (Nat × Nat)) (K : Option AV → AX → Prop) (KX : String → AX → Prop) : PT := lfp (wpm (M_X12_error tb) B_X12_error K (fun _ _ _ E X _ _ => KX E X))
def w_X12_error (tb : Nat → Option (Nat × Nat)) : WP := fun as X K KX => gd ((ini0 as).length ≤ 1) (r_X12_error tb K KX 0 (iniL as 1) [] X 0 0)
theorem k_X12_error : B_X12_error.all (blkB FX12 CX12 NwX12 RX12 false cX12_error) = true := by decide +kernel
theorem g_X12_error : gw (.code yX12_error cX12_error 1 (some .int)) = true ∧ gw (.initialized yX12_error.cls) = true := by decide +kernel
theorem c_X12_error {l : Launch} {G : GX} (hl : l.stackTraces = false) : ∀ as X K KX, w_X12_error (gT G) as X K KX → CT l G yX12_error (.code yX12_error cX12_error 1 (some .int)) 1 22 0 0 as X K KX := fun as X K KX h => CT_of (M := M_X12_error (gT G)) (own := RX12) (ini := false) (T := T_X12_error (gT G)) (B := B_X12_error) (by decide +kernel) hl rfl (fun h => absurd h (by decide)) rfl tab_X12 k_X12_error rfl (Or.inl rfl) rfl
  ⟨ivV_ok (ci := 12) (c_X12_right hl) g_X12_right.1 g_X12_right.2 ml_X12_170 in_X12_right py_X12_right rfl se_X12_right, trivial⟩ (gd_use h).1 (gd_use h).2
def B_X12_isBeyond : List (Nat × List (Nat × Instr × Nat)) := [(0, [(0, .aload_n 0, 1), (1, .iconst 0, 1), (2, .putfield 235, 3), (5, .aload_n 0, 1), (6, .iload_n 1, 1), (7, .invokevirtual 261, 3), (10, .aload_n 0, 1), (11, .getfield 235, 3), (14, .istore 5, 2), (16, .aload_n 0, 1), (17, .iload_n 2, 1), (18, .invokevirtual 261, 3), (21, .iconst 0, 1), (22, .istore 6, 2), (24, .iload 5, 2), (26, .istore 7, 2)]),
  (28, [(28, .iload 7, 2), (30, .aload_n 0, 1), (31, .getfield 235, 3), (34, .if_icmp .ge 49, 3), (37, .aload_n 0, 1), (38, .getfield 151, 3), (41, .iload 7, 2), (43, .laload, 1), (44, .lconst 0, 1), (45, .lcmp, 1), (46, .ifCond .ne 6, 3), (49, .goto 28, 3)]),
  (52, [(52, .aload_n 0, 1), (53, .getfield 151, 3), (56, .iload 7, 2), (58, .aload_n 0, 1), (59, .getfield 154, 3), (62, .iload 7, 2), (64, .laload, 1), (65, .aload_n 0, 1), (66, .getfield 151, 3), (69, .iload 7, 2), (71, .laload, 1), (72, .lsub, 1), (73, .lastore, 1), (74, .iinc 6 1, 3)]),
  (77, [(77, .iinc 7 1, 3), (80, .goto (-52), 3)]),
  (83, [(83, .iload_n 3, 1), (84, .iload 4, 2), (86, .irem, 1), (87, .ifCond .eq 45, 3), (90, .aload_n 0, 1), (91, .getfield 151, 3), (94, .aload_n 0, 1), (95, .getfield 235, 3), (98, .iload 4, 2), (100, .iload_n 3, 1), (101, .iload 4, 2), (103, .irem, 1), (104, .isub, 1), (105, .i2l, 1), (106, .lastore, 1), (107, .aload_n 0, 1), (108, .getfield 154, 3), (111, .aload_n 0, 1), (112, .getfield 235, 3), (115, .iload 4, 2), (117, .i2l, 1), (118, .lastore, 1), (119, .aload_n 0, 1), (120, .dup, 1), (121, .getfield 235, 3), (124, .iconst 1, 1), (125, .iadd, 1), (126, .putfield 235, 3), (129, .iinc 6 1, 3)]),
  (132, [(132, .aload_n 0, 1), (133, .getfield 90, 3), (136, .iload_n 1, 1), (137, .iaload, 1), (138, .i2l, 1), (139, .aload_n 0, 1), (140, .getfield 105, 3), (143, .iload_n 1, 1), (144, .iaload, 1), (145, .i2l, 1), (146, .lsub, 1), (147, .aload_n 0, 1), (148, .getfield 90, 3), (151, .iload_n 2, 1), (152, .iaload, 1), (153, .i2l, 1), (154, .lsub, 1), (155, .aload_n 0, 1), (156, .getfield 105, 3), (159, .iload_n 2, 1), (160, .iaload, 1), (161, .i2l, 1), (162, .ladd, 1), (163, .lconst 1, 1), (164, .lsub, 1), (165, .iload_n 3, 1), (166, .iload 4, 2), (168, .idiv, 1), (169, .i2l, 1), (170, .lsub, 1), (171, .iload 6, 2), (173, .i2l, 1), (174, .lsub, 1), (175, .lstore 7, 2), (177, .aload_n 0, 1), (178, .iconst 1, 1), (179, .invokevirtual 265, 3), (182, .istore 9, 2), (184, .lload 7, 2), (186, .iload 9, 2), (188, .i2l, 1), (189, .ladd, 1), (190, .lconst 0, 1), (191, .lcmp, 1), (192, .ifCond .gt 21, 3), (195, .lload 7, 2), (197, .iload 9, 2), (199, .i2l, 1), (200, .ladd, 1), (201, .lconst 0, 1), (202, .lcmp, 1), (203, .ifCond .ne 14, 3), (206, .aload_n 0, 1), (207, .getfield 256, 3), (210, .ifCond .ne 7, 3)]),
  (213, [(213, .iconst 1, 1), (214, .goto 4, 3)]),
  (217, [(217, .iconst 0, 1)]),
  (218, [(218, .ireturn, 1)])]
def T_X12_isBeyond (tb : Nat → Option (Nat × Nat)) : List (Nat × IV) := [(1044, ivV tb 12 0 0 1 0 0 0 (w_X12_collect tb)), (1060, ivV tb 12 0 0 1 0 0 1 (w_X12_whole tb))]
def M_X12_isBeyond (tb : Nat → Option (Nat × Nat)) : MT := (tb, FX12, StX12, CX12, NwX12, ivOf (T_X12_isBeyond tb), 0, 0, 2)
def r_X12_isBeyond (tb : Nat → Option (Nat × Nat)) (K : Option AV → AX → Prop) (KX : String → AX → Prop) : PT := lfp (wpm (M_X12_isBeyond tb) B_X12_isBeyond K (fun _ _ _ E X _ _ => KX E X))
def w_X12_isBeyond (tb : Nat → Option (Nat × Nat)) : WP := fun as X K KX => gd ((ini0 as).length ≤ 10) (r_X12_isBeyond tb K KX 0 (iniL as 10) [] X 0 0)
theorem k_X12_isBeyond : B_X12_isBeyond.all (blkB FX12 CX12 NwX12 RX12 false cX12_isBeyond) = true := by decide +kernel
theorem g_X12_isBeyond : gw (.code yX12_isBeyond cX12_isBeyond 10 (some .boolean)) = true ∧ gw (.initialized yX12_isBeyond.cls) = true := by decide +kernel
theorem c_X12_isBeyond {l : Launch} {G : GX} (hl : l.stackTraces = false) : ∀ as X K KX, w_X12_isBeyond (gT G) as X K KX → CT l G yX12_isBeyond (.code yX12_isBeyond cX12_isBeyond 10 (some .boolean)) 3 71 0 0 as X K KX := fun as X K KX h => CT_of (M := M_X12_isBeyond (gT G)) (own := RX12) (ini := false) (T := T_X12_isBeyond (gT G)) (B := B_X12_isBeyond) (by decide +kernel) hl rfl (fun h => absurd h (by decide)) rfl tab_X12 k_X12_isBeyond rfl (Or.inl rfl) rfl
  ⟨ivV_ok (ci := 12) (c_X12_collect hl) g_X12_collect.1 g_X12_collect.2 ml_X12_261 in_X12_collect py_X12_collect rfl se_X12_collect, ivV_ok (ci := 12) (c_X12_whole hl) g_X12_whole.1 g_X12_whole.2 ml_X12_265 in_X12_whole py_X12_whole rfl se_X12_whole, trivial⟩ (gd_use h).1 (gd_use h).2
