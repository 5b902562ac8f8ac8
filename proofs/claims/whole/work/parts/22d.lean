theorem py_X12_isBeyond : plainY yX12_isBeyond 4 = true := by decide +kernel
theorem in_X12_isBeyond : gw (.instanceMethod yX12_isBeyond) = true := by decide +kernel
theorem se_X12_isBeyond : gw (.selects RX12 yX12_isBeyond yX12_isBeyond) = true := by decide +kernel
theorem ml_X12_332 : gw (.methodLink RX12 332 yX12_isBeyond) = true := by decide +kernel
def B_X12_within : List (Nat × List (Nat × Instr × Nat)) := [(0, [(0, .aload_n 0, 1), (1, .iconst 0, 1), (2, .putfield 163, 3), (5, .aload_n 0, 1), (6, .aload_n 0, 1), (7, .getfield 219, 3), (10, .ifCond .le 14, 3), (13, .aload_n 0, 1), (14, .getfield 329, 3), (17, .ifCond .eq 7, 3), (20, .iconst 1, 1), (21, .goto 4, 3)]),
  (24, [(24, .iconst 0, 1)]),
  (25, [(25, .iconst 1, 1), (26, .invokevirtual 170, 3), (29, .ifCond .eq 37, 3), (32, .aload_n 0, 1), (33, .iload_n 1, 1), (34, .ifCond .lt 24, 3), (37, .iload_n 1, 1), (38, .ldc 188, 2), (40, .if_icmp .gt 18, 3), (43, .iload_n 2, 1), (44, .iconst 1, 1), (45, .if_icmp .lt 13, 3), (48, .iload_n 2, 1), (49, .ldc 188, 2), (51, .if_icmp .gt 7, 3), (54, .iconst 1, 1), (55, .goto 4, 3)]),
  (58, [(58, .iconst 0, 1)]),
  (59, [(59, .iconst 2, 1), (60, .invokevirtual 170, 3), (63, .ifCond .ne 5, 3)]),
  (66, [(66, .iconst 0, 1), (67, .ireturn, 1)]),
  (68, [(68, .aload_n 0, 1), (69, .iconst 0, 1), (70, .iconst 4, 1), (71, .iload_n 1, 1), (72, .iload_n 2, 1), (73, .invokevirtual 332, 3), (76, .ifCond .ne 18, 3), (79, .aload_n 0, 1), (80, .iconst 4, 1), (81, .iconst 0, 1), (82, .iload_n 1, 1), (83, .iload_n 2, 1), (84, .invokevirtual 332, 3), (87, .ifCond .ne 7, 3), (90, .iconst 1, 1), (91, .goto 4, 3)]),
  (94, [(94, .iconst 0, 1)]),
  (95, [(95, .ireturn, 1)])]
def T_X12_within (tb : Nat → Option (Nat × Nat)) : List (Nat × IV) := [(680, ivV tb 12 0 0 2 0 0 1 (w_X12_right tb)), (1328, ivV tb 12 0 0 4 0 0 1 (w_X12_isBeyond tb))]
def M_X12_within (tb : Nat → Option (Nat × Nat)) : MT := (tb, FX12, StX12, CX12, NwX12, ivOf (T_X12_within tb), 0, 0, 2)
def r_X12_within (tb : Nat → Option (Nat × Nat)) (K : Option AV → AX → Prop) (KX : String → AX → Prop) : PT := lfp (wpm (M_X12_within tb) B_X12_within K (fun _ _ _ E X _ _ => KX E X))
def w_X12_within (tb : Nat → Option (Nat × Nat)) : WP := fun as X K KX => gd ((ini0 as).length ≤ 3) (r_X12_within tb K KX 0 (iniL as 3) [] X 0 0)
theorem k_X12_within : B_X12_within.all (blkB FX12 CX12 NwX12 RX12 false cX12_within) = true := by decide +kernel
theorem g_X12_within : gw (.code yX12_within cX12_within 3 (some .boolean)) = true ∧ gw (.initialized yX12_within.cls) = true := by decide +kernel
theorem c_X12_within {l : Launch} {G : GX} (hl : l.stackTraces = false) : ∀ as X K KX, w_X12_within (gT G) as X K KX → CT l G yX12_within (.code yX12_within cX12_within 3 (some .boolean)) 4 100 0 0 as X K KX := fun as X K KX h => CT_of (M := M_X12_within (gT G)) (own := RX12) (ini := false) (T := T_X12_within (gT G)) (B := B_X12_within) (by decide +kernel) hl rfl (fun h => absurd h (by decide)) rfl tab_X12 k_X12_within rfl (Or.inl rfl) rfl
  ⟨ivV_ok (ci := 12) (c_X12_right hl) g_X12_right.1 g_X12_right.2 ml_X12_170 in_X12_right py_X12_right rfl se_X12_right, ivV_ok (ci := 12) (c_X12_isBeyond hl) g_X12_isBeyond.1 g_X12_isBeyond.2 ml_X12_332 in_X12_isBeyond py_X12_isBeyond rfl se_X12_isBeyond, trivial⟩ (gd_use h).1 (gd_use h).2
def B_X12_keep : List (Nat × List (Nat × Instr × Nat)) := [(0, [(0, .aload_n 0, 1), (1, .iconst 0, 1), (2, .putfield 163, 3), (5, .aload_n 0, 1), (6, .aload_n 0, 1), (7, .getfield 166, 3), (10, .iconst 1, 1), (11, .invokevirtual 170, 3), (14, .ifCond .ne 5, 3), (17, .iconst 0, 1), (18, .ireturn, 1)]),
  (19, [(19, .aload_n 0, 1), (20, .iconst 0, 1), (21, .iconst 1, 1), (22, .invokevirtual 311, 3), (25, .aload_n 0, 1), (26, .iconst 1, 1), (27, .putfield 335, 3), (30, .aload_n 0, 1), (31, .getfield 63, 3), (34, .iconst 1, 1), (35, .iaload, 1), (36, .ireturn, 1)])]
def T_X12_keep (tb : Nat → Option (Nat × Nat)) : List (Nat × IV) := [(680, ivV tb 12 0 0 2 0 0 1 (w_X12_right tb)), (1244, ivV tb 12 0 0 2 0 0 0 (w_X12_copy tb))]
def M_X12_keep (tb : Nat → Option (Nat × Nat)) : MT := (tb, FX12, StX12, CX12, NwX12, ivOf (T_X12_keep tb), 0, 0, 1)
def r_X12_keep (tb : Nat → Option (Nat × Nat)) (K : Option AV → AX → Prop) (KX : String → AX → Prop) : PT := lfp (wpm (M_X12_keep tb) B_X12_keep K (fun _ _ _ E X _ _ => KX E X))
def w_X12_keep (tb : Nat → Option (Nat × Nat)) : WP := fun as X K KX => gd ((ini0 as).length ≤ 1) (r_X12_keep tb K KX 0 (iniL as 1) [] X 0 0)
theorem k_X12_keep : B_X12_keep.all (blkB FX12 CX12 NwX12 RX12 false cX12_keep) = true := by decide +kernel
theorem g_X12_keep : gw (.code yX12_keep cX12_keep 1 (some .int)) = true ∧ gw (.initialized yX12_keep.cls) = true := by decide +kernel
theorem c_X12_keep {l : Launch} {G : GX} (hl : l.stackTraces = false) : ∀ as X K KX, w_X12_keep (gT G) as X K KX → CT l G yX12_keep (.code yX12_keep cX12_keep 1 (some .int)) 1 23 0 0 as X K KX := fun as X K KX h => CT_of (M := M_X12_keep (gT G)) (own := RX12) (ini := false) (T := T_X12_keep (gT G)) (B := B_X12_keep) (by decide +kernel) hl rfl (fun h => absurd h (by decide)) rfl tab_X12 k_X12_keep rfl (Or.inl rfl) rfl
  ⟨ivV_ok (ci := 12) (c_X12_right hl) g_X12_right.1 g_X12_right.2 ml_X12_170 in_X12_right py_X12_right rfl se_X12_right, ivV_ok (ci := 12) (c_X12_copy hl) g_X12_copy.1 g_X12_copy.2 ml_X12_311 in_X12_copy py_X12_copy rfl se_X12_copy, trivial⟩ (gd_use h).1 (gd_use h).2
def B_X12_back : List (Nat × List (Nat × Instr × Nat)) := [(0, [(0, .aload_n 0, 1), (1, .iconst 0, 1), (2, .putfield 163, 3), (5, .aload_n 0, 1), (6, .aload_n 0, 1), (7, .getfield 166, 3), (10, .ifCond .eq 29, 3), (13, .aload_n 0, 1), (14, .getfield 335, 3), (17, .ifCond .eq 22, 3), (20, .aload_n 0, 1), (21, .getfield 63, 3), (24, .iconst 1, 1), (25, .iaload, 1), (26, .aload_n 0, 1), (27, .getfield 63, 3), (30, .iconst 0, 1), (31, .iaload, 1), (32, .if_icmp .ne 7, 3), (35, .iconst 1, 1), (36, .goto 4, 3)]),
  (39, [(39, .iconst 0, 1)]),
  (40, [(40, .iconst 1, 1), (41, .invokevirtual 170, 3), (44, .ifCond .ne 5, 3), (47, .iconst 0, 1), (48, .ireturn, 1)]),
  (49, [(49, .aload_n 0, 1), (50, .iconst 1, 1), (51, .iconst 0, 1), (52, .invokevirtual 311, 3), (55, .aload_n 0, 1), (56, .getfield 66, 3), (59, .iconst 0, 1), (60, .iaload, 1), (61, .ireturn, 1)])]
def T_X12_back (tb : Nat → Option (Nat × Nat)) : List (Nat × IV) := [(680, ivV tb 12 0 0 2 0 0 1 (w_X12_right tb)), (1244, ivV tb 12 0 0 2 0 0 0 (w_X12_copy tb))]
def M_X12_back (tb : Nat → Option (Nat × Nat)) : MT := (tb, FX12, StX12, CX12, NwX12, ivOf (T_X12_back tb), 0, 0, 1)
def r_X12_back (tb : Nat → Option (Nat × Nat)) (K : Option AV → AX → Prop) (KX : String → AX → Prop) : PT := lfp (wpm (M_X12_back tb) B_X12_back K (fun _ _ _ E X _ _ => KX E X))
def w_X12_back (tb : Nat → Option (Nat × Nat)) : WP := fun as X K KX => gd ((ini0 as).length ≤ 1) (r_X12_back tb K KX 0 (iniL as 1) [] X 0 0)
theorem k_X12_back : B_X12_back.all (blkB FX12 CX12 NwX12 RX12 false cX12_back) = true := by decide +kernel
theorem g_X12_back : gw (.code yX12_back cX12_back 1 (some .int)) = true ∧ gw (.initialized yX12_back.cls) = true := by decide +kernel
theorem c_X12_back {l : Launch} {G : GX} (hl : l.stackTraces = false) : ∀ as X K KX, w_X12_back (gT G) as X K KX → CT l G yX12_back (.code yX12_back cX12_back 1 (some .int)) 1 23 0 0 as X K KX := fun as X K KX h => CT_of (M := M_X12_back (gT G)) (own := RX12) (ini := false) (T := T_X12_back (gT G)) (B := B_X12_back) (by decide +kernel) hl rfl (fun h => absurd h (by decide)) rfl tab_X12 k_X12_back rfl (Or.inl rfl) rfl
  ⟨ivV_ok (ci := 12) (c_X12_right hl) g_X12_right.1 g_X12_right.2 ml_X12_170 in_X12_right py_X12_right rfl se_X12_right, ivV_ok (ci := 12) (c_X12_copy hl) g_X12_copy.1 g_X12_copy.2 ml_X12_311 in_X12_copy py_X12_copy rfl se_X12_copy, trivial⟩ (gd_use h).1 (gd_use h).2
