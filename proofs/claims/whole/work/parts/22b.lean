def B_X12_seal : List (Nat × List (Nat × Instr × Nat)) := [(0, [(0, .aload_n 0, 1), (1, .iconst 0, 1), (2, .putfield 163, 3), (5, .aload_n 0, 1), (6, .getfield 213, 3), (9, .bipush 40, 2), (11, .if_icmp .ne 5, 3), (14, .iconst (-1), 1), (15, .ireturn, 1)]),
  (16, [(16, .aload_n 0, 1), (17, .getfield 35, 3), (20, .aload_n 0, 1), (21, .getfield 213, 3), (24, .iconst 1, 1), (25, .bastore, 1), (26, .aload_n 0, 1), (27, .getfield 39, 3), (30, .aload_n 0, 1), (31, .getfield 213, 3), (34, .aload_n 0, 1), (35, .getfield 219, 3), (38, .iastore, 1), (39, .aload_n 0, 1), (40, .dup, 1), (41, .getfield 213, 3), (44, .iconst 1, 1), (45, .iadd, 1), (46, .putfield 213, 3), (49, .aload_n 0, 1), (50, .getfield 213, 3), (53, .iconst 1, 1), (54, .isub, 1), (55, .ireturn, 1)])]
def T_X12_seal (tb : Nat → Option (Nat × Nat)) : List (Nat × IV) := []
def M_X12_seal (tb : Nat → Option (Nat × Nat)) : MT := (tb, FX12, StX12, CX12, NwX12, ivOf (T_X12_seal tb), 0, 0, 1)
def r_X12_seal (tb : Nat → Option (Nat × Nat)) (K : Option AV → AX → Prop) (KX : String → AX → Prop) : PT := lfp (wpm (M_X12_seal tb) B_X12_seal K (fun _ _ _ E X _ _ => KX E X))
def w_X12_seal (tb : Nat → Option (Nat × Nat)) : WP := fun as X K KX => gd ((ini0 as).length ≤ 1) (r_X12_seal tb K KX 0 (iniL as 1) [] X 0 0)
theorem k_X12_seal : B_X12_seal.all (blkB FX12 CX12 NwX12 RX12 false cX12_seal) = true := by decide +kernel
theorem g_X12_seal : gw (.code yX12_seal cX12_seal 1 (some .int)) = true ∧ gw (.initialized yX12_seal.cls) = true := by decide +kernel
theorem c_X12_seal {l : Launch} {G : GX} (hl : l.stackTraces = false) : ∀ as X K KX, w_X12_seal (gT G) as X K KX → CT l G yX12_seal (.code yX12_seal cX12_seal 1 (some .int)) 0 0 0 0 as X K KX := fun as X K KX h => CT_of (M := M_X12_seal (gT G)) (own := RX12) (ini := false) (T := T_X12_seal (gT G)) (B := B_X12_seal) (by decide +kernel) hl rfl (fun h => absurd h (by decide)) rfl tab_X12 k_X12_seal rfl (Or.inl rfl) rfl
  trivial (gd_use h).1 (gd_use h).2
def B_X12_isSeal : List (Nat × List (Nat × Instr × Nat)) := [(0, [(0, .aload_n 0, 1), (1, .iload_n 1, 1), (2, .ifCond .lt 15, 3), (5, .iload_n 1, 1), (6, .aload_n 0, 1), (7, .getfield 213, 3), (10, .if_icmp .ge 7, 3), (13, .iconst 1, 1), (14, .goto 4, 3)]),
  (17, [(17, .iconst 0, 1)]),
  (18, [(18, .iconst 1, 1), (19, .invokevirtual 170, 3), (22, .ireturn, 1)])]
def T_X12_isSeal (tb : Nat → Option (Nat × Nat)) : List (Nat × IV) := [(680, ivV tb 12 0 0 2 0 0 1 (w_X12_right tb))]
def M_X12_isSeal (tb : Nat → Option (Nat × Nat)) : MT := (tb, FX12, StX12, CX12, NwX12, ivOf (T_X12_isSeal tb), 0, 0, 2)
def r_X12_isSeal (tb : Nat → Option (Nat × Nat)) (K : Option AV → AX → Prop) (KX : String → AX → Prop) : PT := lfp (wpm (M_X12_isSeal tb) B_X12_isSeal K (fun _ _ _ E X _ _ => KX E X))
def w_X12_isSeal (tb : Nat → Option (Nat × Nat)) : WP := fun as X K KX => gd ((ini0 as).length ≤ 2) (r_X12_isSeal tb K KX 0 (iniL as 2) [] X 0 0)
theorem k_X12_isSeal : B_X12_isSeal.all (blkB FX12 CX12 NwX12 RX12 false cX12_isSeal) = true := by decide +kernel
theorem g_X12_isSeal : gw (.code yX12_isSeal cX12_isSeal 2 (some .boolean)) = true ∧ gw (.initialized yX12_isSeal.cls) = true := by decide +kernel
theorem c_X12_isSeal {l : Launch} {G : GX} (hl : l.stackTraces = false) : ∀ as X K KX, w_X12_isSeal (gT G) as X K KX → CT l G yX12_isSeal (.code yX12_isSeal cX12_isSeal 2 (some .boolean)) 1 22 0 0 as X K KX := fun as X K KX h => CT_of (M := M_X12_isSeal (gT G)) (own := RX12) (ini := false) (T := T_X12_isSeal (gT G)) (B := B_X12_isSeal) (by decide +kernel) hl rfl (fun h => absurd h (by decide)) rfl tab_X12 k_X12_isSeal rfl (Or.inl rfl) rfl
  ⟨ivV_ok (ci := 12) (c_X12_right hl) g_X12_right.1 g_X12_right.2 ml_X12_170 in_X12_right py_X12_right rfl se_X12_right, trivial⟩ (gd_use h).1 (gd_use h).2
def B_X12_broken : List (Nat × List (Nat × Instr × Nat)) := [(0, [(0, .aload_n 0, 1), (1, .getfield 35, 3), (4, .iload_n 1, 1), (5, .baload, 1), (6, .istore_n 2, 1), (7, .aload_n 0, 1), (8, .getfield 35, 3), (11, .iload_n 1, 1), (12, .iconst 0, 1), (13, .bastore, 1), (14, .aload_n 0, 1), (15, .getfield 166, 3), (18, .ifCond .eq 16, 3), (21, .iload_n 1, 1), (22, .aload_n 0, 1), (23, .getfield 222, 3), (26, .if_icmp .ge 8, 3), (29, .aload_n 0, 1), (30, .iconst 0, 1), (31, .putfield 225, 3)]),
  (34, [(34, .iload_n 2, 1), (35, .ireturn, 1)])]
def T_X12_broken (tb : Nat → Option (Nat × Nat)) : List (Nat × IV) := []
def M_X12_broken (tb : Nat → Option (Nat × Nat)) : MT := (tb, FX12, StX12, CX12, NwX12, ivOf (T_X12_broken tb), 0, 0, 2)
def r_X12_broken (tb : Nat → Option (Nat × Nat)) (K : Option AV → AX → Prop) (KX : String → AX → Prop) : PT := lfp (wpm (M_X12_broken tb) B_X12_broken K (fun _ _ _ E X _ _ => KX E X))
def w_X12_broken (tb : Nat → Option (Nat × Nat)) : WP := fun as X K KX => gd ((ini0 as).length ≤ 3) (r_X12_broken tb K KX 0 (iniL as 3) [] X 0 0)
theorem k_X12_broken : B_X12_broken.all (blkB FX12 CX12 NwX12 RX12 false cX12_broken) = true := by decide +kernel
theorem g_X12_broken : gw (.code yX12_broken cX12_broken 3 (some .boolean)) = true ∧ gw (.initialized yX12_broken.cls) = true := by decide +kernel
theorem c_X12_broken {l : Launch} {G : GX} (hl : l.stackTraces = false) : ∀ as X K KX, w_X12_broken (gT G) as X K KX → CT l G yX12_broken (.code yX12_broken cX12_broken 3 (some .boolean)) 0 0 0 0 as X K KX := fun as X K KX h => CT_of (M := M_X12_broken (gT G)) (own := RX12) (ini := false) (T := T_X12_broken (gT G)) (B := B_X12_broken) (by decide +kernel) hl rfl (fun h => absurd h (by decide)) rfl tab_X12 k_X12_broken rfl (Or.inl rfl) rfl
  trivial (gd_use h).1 (gd_use h).2
theorem py_X12_isSeal : plainY yX12_isSeal 1 = true := by decide +kernel
theorem in_X12_isSeal : gw (.instanceMethod yX12_isSeal) = true := by decide +kernel
theorem se_X12_isSeal : gw (.selects RX12 yX12_isSeal yX12_isSeal) = true := by decide +kernel
theorem ml_X12_228 : gw (.methodLink RX12 228 yX12_isSeal) = true := by decide +kernel
theorem py_X12_broken : plainY yX12_broken 1 = true := by decide +kernel
theorem in_X12_broken : gw (.instanceMethod yX12_broken) = true := by decide +kernel
theorem se_X12_broken : gw (.selects RX12 yX12_broken yX12_broken) = true := by decide +kernel
theorem ml_X12_232 : gw (.methodLink RX12 232 yX12_broken) = true := by decide +kernel
def B_X12_breaks : List (Nat × List (Nat × Instr × Nat)) := [(0, [(0, .aload_n 0, 1), (1, .iconst 0, 1), (2, .putfield 163, 3), (5, .aload_n 0, 1), (6, .iload_n 1, 1), (7, .invokevirtual 228, 3), (10, .ifCond .eq 15, 3), (13, .aload_n 0, 1), (14, .iload_n 1, 1), (15, .invokevirtual 232, 3), (18, .ifCond .eq 7, 3), (21, .iconst 1, 1), (22, .goto 4, 3)]),
  (25, [(25, .iconst 0, 1)]),
  (26, [(26, .ireturn, 1)])]
def T_X12_breaks (tb : Nat → Option (Nat × Nat)) : List (Nat × IV) := [(912, ivV tb 12 0 0 1 0 0 1 (w_X12_isSeal tb)), (928, ivV tb 12 0 0 1 0 0 1 (w_X12_broken tb))]
def M_X12_breaks (tb : Nat → Option (Nat × Nat)) : MT := (tb, FX12, StX12, CX12, NwX12, ivOf (T_X12_breaks tb), 0, 0, 2)
def r_X12_breaks (tb : Nat → Option (Nat × Nat)) (K : Option AV → AX → Prop) (KX : String → AX → Prop) : PT := lfp (wpm (M_X12_breaks tb) B_X12_breaks K (fun _ _ _ E X _ _ => KX E X))
def w_X12_breaks (tb : Nat → Option (Nat × Nat)) : WP := fun as X K KX => gd ((ini0 as).length ≤ 2) (r_X12_breaks tb K KX 0 (iniL as 2) [] X 0 0)
theorem k_X12_breaks : B_X12_breaks.all (blkB FX12 CX12 NwX12 RX12 false cX12_breaks) = true := by decide +kernel
theorem g_X12_breaks : gw (.code yX12_breaks cX12_breaks 2 (some .boolean)) = true ∧ gw (.initialized yX12_breaks.cls) = true := by decide +kernel
theorem c_X12_breaks {l : Launch} {G : GX} (hl : l.stackTraces = false) : ∀ as X K KX, w_X12_breaks (gT G) as X K KX → CT l G yX12_breaks (.code yX12_breaks cX12_breaks 2 (some .boolean)) 2 43 0 0 as X K KX := fun as X K KX h => CT_of (M := M_X12_breaks (gT G)) (own := RX12) (ini := false) (T := T_X12_breaks (gT G)) (B := B_X12_breaks) (by decide +kernel) hl rfl (fun h => absurd h (by decide)) rfl tab_X12 k_X12_breaks rfl (Or.inl rfl) rfl
  ⟨ivV_ok (ci := 12) (c_X12_isSeal hl) g_X12_isSeal.1 g_X12_isSeal.2 ml_X12_228 in_X12_isSeal py_X12_isSeal rfl se_X12_isSeal, ivV_ok (ci := 12) (c_X12_broken hl) g_X12_broken.1 g_X12_broken.2 ml_X12_232 in_X12_broken py_X12_broken rfl se_X12_broken, trivial⟩ (gd_use h).1 (gd_use h).2
def B_X12_blow : List (Nat × List (Nat × Instr × Nat)) := [(0, [(0, .aload_n 0, 1), (1, .iconst 0, 1), (2, .putfield 163, 3), (5, .aload_n 0, 1), (6, .iload_n 1, 1), (7, .iconst 1, 1), (8, .invokevirtual 210, 3), (11, .ifCond .eq 48, 3), (14, .aload_n 0, 1), (15, .aload_n 0, 1), (16, .getfield 29, 3), (19, .iload_n 1, 1), (20, .iaload, 1), (21, .ifCond .eq 7, 3), (24, .iconst 1, 1), (25, .goto 4, 3)]),
  (28, [(28, .iconst 0, 1)]),
  (29, [(29, .iconst 2, 1), (30, .invokevirtual 170, 3), (33, .ifCond .eq 26, 3), (36, .aload_n 0, 1), (37, .aload_n 0, 1), (38, .getfield 29, 3), (41, .iload_n 1, 1), (42, .iaload, 1), (43, .iconst 2, 1), (44, .if_icmp .ne 7, 3), (47, .iconst 1, 1), (48, .goto 4, 3)]),
  (51, [(51, .iconst 0, 1)]),
  (52, [(52, .iconst 3, 1), (53, .invokevirtual 170, 3), (56, .ifCond .ne 5, 3)]),
  (59, [(59, .iconst 0, 1), (60, .ireturn, 1)]),
  (61, [(61, .aload_n 0, 1), (62, .aload_n 0, 1), (63, .getfield 32, 3), (66, .iload_n 1, 1), (67, .iaload, 1), (68, .invokevirtual 232, 3), (71, .ireturn, 1)])]
def T_X12_blow (tb : Nat → Option (Nat × Nat)) : List (Nat × IV) := [(840, ivV tb 12 0 0 2 0 0 1 (w_X12_isSlot tb)), (680, ivV tb 12 0 0 2 0 0 1 (w_X12_right tb)), (928, ivV tb 12 0 0 1 0 0 1 (w_X12_broken tb))]
def M_X12_blow (tb : Nat → Option (Nat × Nat)) : MT := (tb, FX12, StX12, CX12, NwX12, ivOf (T_X12_blow tb), 0, 0, 2)
def r_X12_blow (tb : Nat → Option (Nat × Nat)) (K : Option AV → AX → Prop) (KX : String → AX → Prop) : PT := lfp (wpm (M_X12_blow tb) B_X12_blow K (fun _ _ _ E X _ _ => KX E X))
def w_X12_blow (tb : Nat → Option (Nat × Nat)) : WP := fun as X K KX => gd ((ini0 as).length ≤ 2) (r_X12_blow tb K KX 0 (iniL as 2) [] X 0 0)
theorem k_X12_blow : B_X12_blow.all (blkB FX12 CX12 NwX12 RX12 false cX12_blow) = true := by decide +kernel
theorem g_X12_blow : gw (.code yX12_blow cX12_blow 2 (some .boolean)) = true ∧ gw (.initialized yX12_blow.cls) = true := by decide +kernel
theorem c_X12_blow {l : Launch} {G : GX} (hl : l.stackTraces = false) : ∀ as X K KX, w_X12_blow (gT G) as X K KX → CT l G yX12_blow (.code yX12_blow cX12_blow 2 (some .boolean)) 2 44 0 0 as X K KX := fun as X K KX h => CT_of (M := M_X12_blow (gT G)) (own := RX12) (ini := false) (T := T_X12_blow (gT G)) (B := B_X12_blow) (by decide +kernel) hl rfl (fun h => absurd h (by decide)) rfl tab_X12 k_X12_blow rfl (Or.inl rfl) rfl
  ⟨ivV_ok (ci := 12) (c_X12_isSlot hl) g_X12_isSlot.1 g_X12_isSlot.2 ml_X12_210 in_X12_isSlot py_X12_isSlot rfl se_X12_isSlot, ivV_ok (ci := 12) (c_X12_right hl) g_X12_right.1 g_X12_right.2 ml_X12_170 in_X12_right py_X12_right rfl se_X12_right, ivV_ok (ci := 12) (c_X12_broken hl) g_X12_broken.1 g_X12_broken.2 ml_X12_232 in_X12_broken py_X12_broken rfl se_X12_broken, trivial⟩ (gd_use h).1 (gd_use h).2
def B_X12_sets : List (Nat × List (Nat × Instr × Nat)) := [(0, [(0, .aload_n 0, 1), (1, .iconst 0, 1), (2, .putfield 163, 3), (5, .aload_n 0, 1), (6, .iload_n 1, 1), (7, .invokevirtual 228, 3), (10, .ifCond .eq 12, 3), (13, .aload_n 0, 1), (14, .getfield 35, 3), (17, .iload_n 1, 1), (18, .baload, 1), (19, .ifCond .eq 5, 3)]),
  (22, [(22, .iconst 0, 1), (23, .ireturn, 1)]),
  (24, [(24, .aload_n 0, 1), (25, .getfield 35, 3), (28, .iload_n 1, 1), (29, .iconst 1, 1), (30, .bastore, 1), (31, .aload_n 0, 1), (32, .getfield 39, 3), (35, .iload_n 1, 1), (36, .aload_n 0, 1), (37, .getfield 219, 3), (40, .iastore, 1), (41, .iconst 1, 1), (42, .ireturn, 1)])]
def T_X12_sets (tb : Nat → Option (Nat × Nat)) : List (Nat × IV) := [(912, ivV tb 12 0 0 1 0 0 1 (w_X12_isSeal tb))]
def M_X12_sets (tb : Nat → Option (Nat × Nat)) : MT := (tb, FX12, StX12, CX12, NwX12, ivOf (T_X12_sets tb), 0, 0, 2)
def r_X12_sets (tb : Nat → Option (Nat × Nat)) (K : Option AV → AX → Prop) (KX : String → AX → Prop) : PT := lfp (wpm (M_X12_sets tb) B_X12_sets K (fun _ _ _ E X _ _ => KX E X))
def w_X12_sets (tb : Nat → Option (Nat × Nat)) : WP := fun as X K KX => gd ((ini0 as).length ≤ 2) (r_X12_sets tb K KX 0 (iniL as 2) [] X 0 0)
theorem k_X12_sets : B_X12_sets.all (blkB FX12 CX12 NwX12 RX12 false cX12_sets) = true := by decide +kernel
theorem g_X12_sets : gw (.code yX12_sets cX12_sets 2 (some .boolean)) = true ∧ gw (.initialized yX12_sets.cls) = true := by decide +kernel
theorem c_X12_sets {l : Launch} {G : GX} (hl : l.stackTraces = false) : ∀ as X K KX, w_X12_sets (gT G) as X K KX → CT l G yX12_sets (.code yX12_sets cX12_sets 2 (some .boolean)) 2 43 0 0 as X K KX := fun as X K KX h => CT_of (M := M_X12_sets (gT G)) (own := RX12) (ini := false) (T := T_X12_sets (gT G)) (B := B_X12_sets) (by decide +kernel) hl rfl (fun h => absurd h (by decide)) rfl tab_X12 k_X12_sets rfl (Or.inl rfl) rfl
  ⟨ivV_ok (ci := 12) (c_X12_isSeal hl) g_X12_isSeal.1 g_X12_isSeal.2 ml_X12_228 in_X12_isSeal py_X12_isSeal rfl se_X12_isSeal, trivial⟩ (gd_use h).1 (gd_use h).2
def B_X12_since : List (Nat × List (Nat × Instr × Nat)) := [(0, [(0, .aload_n 0, 1), (1, .iconst 0, 1), (2, .putfield 163, 3), (5, .aload_n 0, 1), (6, .iload_n 1, 1), (7, .invokevirtual 228, 3), (10, .ifCond .ne 5, 3), (13, .iconst 0, 1), (14, .ireturn, 1)]),
  (15, [(15, .aload_n 0, 1), (16, .getfield 35, 3), (19, .iload_n 1, 1), (20, .baload, 1), (21, .ifCond .eq 12, 3), (24, .aload_n 0, 1), (25, .getfield 39, 3), (28, .iload_n 1, 1), (29, .iaload, 1), (30, .goto 4, 3)]),
  (33, [(33, .iconst (-1), 1)]),
  (34, [(34, .ireturn, 1)])]
def T_X12_since (tb : Nat → Option (Nat × Nat)) : List (Nat × IV) := [(912, ivV tb 12 0 0 1 0 0 1 (w_X12_isSeal tb))]
def M_X12_since (tb : Nat → Option (Nat × Nat)) : MT := (tb, FX12, StX12, CX12, NwX12, ivOf (T_X12_since tb), 0, 0, 1)
def r_X12_since (tb : Nat → Option (Nat × Nat)) (K : Option AV → AX → Prop) (KX : String → AX → Prop) : PT := lfp (wpm (M_X12_since tb) B_X12_since K (fun _ _ _ E X _ _ => KX E X))
def w_X12_since (tb : Nat → Option (Nat × Nat)) : WP := fun as X K KX => gd ((ini0 as).length ≤ 2) (r_X12_since tb K KX 0 (iniL as 2) [] X 0 0)
theorem k_X12_since : B_X12_since.all (blkB FX12 CX12 NwX12 RX12 false cX12_since) = true := by decide +kernel
theorem g_X12_since : gw (.code yX12_since cX12_since 2 (some .int)) = true ∧ gw (.initialized yX12_since.cls) = true := by decide +kernel
theorem c_X12_since {l : Launch} {G : GX} (hl : l.stackTraces = false) : ∀ as X K KX, w_X12_since (gT G) as X K KX → CT l G yX12_since (.code yX12_since cX12_since 2 (some .int)) 2 43 0 0 as X K KX := fun as X K KX h => CT_of (M := M_X12_since (gT G)) (own := RX12) (ini := false) (T := T_X12_since (gT G)) (B := B_X12_since) (by decide +kernel) hl rfl (fun h => absurd h (by decide)) rfl tab_X12 k_X12_since rfl (Or.inl rfl) rfl
  ⟨ivV_ok (ci := 12) (c_X12_isSeal hl) g_X12_isSeal.1 g_X12_isSeal.2 ml_X12_228 in_X12_isSeal py_X12_isSeal rfl se_X12_isSeal, trivial⟩ (gd_use h).1 (gd_use h).2
def B_X12_isBeginning : List (Nat × List (Nat × Instr × Nat)) := [(0, [(0, .aload_n 0, 1), (1, .iload_n 1, 1), (2, .ifCond .lt 34, 3), (5, .iload_n 1, 1), (6, .bipush 99, 2), (8, .if_icmp .gt 28, 3), (11, .iload_n 2, 1), (12, .ifCond .lt 24, 3), (15, .iload_n 2, 1), (16, .sipush 1439, 3), (19, .if_icmp .gt 17, 3), (22, .iload_n 3, 1), (23, .ifCond .lt 13, 3), (26, .iload_n 3, 1), (27, .bipush 59, 2), (29, .if_icmp .gt 7, 3), (32, .iconst 1, 1), (33, .goto 4, 3)]),
  (36, [(36, .iconst 0, 1)]),
  (37, [(37, .iload 4, 2), (39, .invokevirtual 170, 3), (42, .ireturn, 1)])]
def T_X12_isBeginning (tb : Nat → Option (Nat × Nat)) : List (Nat × IV) := [(680, ivV tb 12 0 0 2 0 0 1 (w_X12_right tb))]
def M_X12_isBeginning (tb : Nat → Option (Nat × Nat)) : MT := (tb, FX12, StX12, CX12, NwX12, ivOf (T_X12_isBeginning tb), 0, 0, 2)
def r_X12_isBeginning (tb : Nat → Option (Nat × Nat)) (K : Option AV → AX → Prop) (KX : String → AX → Prop) : PT := lfp (wpm (M_X12_isBeginning tb) B_X12_isBeginning K (fun _ _ _ E X _ _ => KX E X))
def w_X12_isBeginning (tb : Nat → Option (Nat × Nat)) : WP := fun as X K KX => gd ((ini0 as).length ≤ 5) (r_X12_isBeginning tb K KX 0 (iniL as 5) [] X 0 0)
theorem k_X12_isBeginning : B_X12_isBeginning.all (blkB FX12 CX12 NwX12 RX12 false cX12_isBeginning) = true := by decide +kernel
theorem g_X12_isBeginning : gw (.code yX12_isBeginning cX12_isBeginning 5 (some .boolean)) = true ∧ gw (.initialized yX12_isBeginning.cls) = true := by decide +kernel
theorem c_X12_isBeginning {l : Launch} {G : GX} (hl : l.stackTraces = false) : ∀ as X K KX, w_X12_isBeginning (gT G) as X K KX → CT l G yX12_isBeginning (.code yX12_isBeginning cX12_isBeginning 5 (some .boolean)) 1 22 0 0 as X K KX := fun as X K KX h => CT_of (M := M_X12_isBeginning (gT G)) (own := RX12) (ini := false) (T := T_X12_isBeginning (gT G)) (B := B_X12_isBeginning) (by decide +kernel) hl rfl (fun h => absurd h (by decide)) rfl tab_X12 k_X12_isBeginning rfl (Or.inl rfl) rfl
  ⟨ivV_ok (ci := 12) (c_X12_right hl) g_X12_right.1 g_X12_right.2 ml_X12_170 in_X12_right py_X12_right rfl se_X12_right, trivial⟩ (gd_use h).1 (gd_use h).2
def B_X12_isHeld : List (Nat × List (Nat × Instr × Nat)) := [(0, [(0, .aload_n 0, 1), (1, .aload_n 0, 1), (2, .getfield 29, 3), (5, .iload_n 1, 1), (6, .iaload, 1), (7, .ifCond .eq 7, 3), (10, .iconst 1, 1), (11, .goto 4, 3)]),
  (14, [(14, .iconst 0, 1)]),
  (15, [(15, .iload_n 2, 1), (16, .invokevirtual 170, 3), (19, .ifCond .eq 30, 3), (22, .aload_n 0, 1), (23, .aload_n 0, 1), (24, .getfield 29, 3), (27, .iload_n 1, 1), (28, .iaload, 1), (29, .iconst 1, 1), (30, .if_icmp .ne 7, 3), (33, .iconst 1, 1), (34, .goto 4, 3)]),
  (37, [(37, .iconst 0, 1)]),
  (38, [(38, .iload_n 3, 1), (39, .invokevirtual 170, 3), (42, .ifCond .eq 7, 3), (45, .iconst 1, 1), (46, .goto 4, 3)]),
  (49, [(49, .iconst 0, 1)]),
  (50, [(50, .ireturn, 1)])]
def T_X12_isHeld (tb : Nat → Option (Nat × Nat)) : List (Nat × IV) := [(680, ivV tb 12 0 0 2 0 0 1 (w_X12_right tb))]
def M_X12_isHeld (tb : Nat → Option (Nat × Nat)) : MT := (tb, FX12, StX12, CX12, NwX12, ivOf (T_X12_isHeld tb), 0, 0, 2)
def r_X12_isHeld (tb : Nat → Option (Nat × Nat)) (K : Option AV → AX → Prop) (KX : String → AX → Prop) : PT := lfp (wpm (M_X12_isHeld tb) B_X12_isHeld K (fun _ _ _ E X _ _ => KX E X))
def w_X12_isHeld (tb : Nat → Option (Nat × Nat)) : WP := fun as X K KX => gd ((ini0 as).length ≤ 4) (r_X12_isHeld tb K KX 0 (iniL as 4) [] X 0 0)
theorem k_X12_isHeld : B_X12_isHeld.all (blkB FX12 CX12 NwX12 RX12 false cX12_isHeld) = true := by decide +kernel
theorem g_X12_isHeld : gw (.code yX12_isHeld cX12_isHeld 4 (some .boolean)) = true ∧ gw (.initialized yX12_isHeld.cls) = true := by decide +kernel
theorem c_X12_isHeld {l : Launch} {G : GX} (hl : l.stackTraces = false) : ∀ as X K KX, w_X12_isHeld (gT G) as X K KX → CT l G yX12_isHeld (.code yX12_isHeld cX12_isHeld 4 (some .boolean)) 1 22 0 0 as X K KX := fun as X K KX h => CT_of (M := M_X12_isHeld (gT G)) (own := RX12) (ini := false) (T := T_X12_isHeld (gT G)) (B := B_X12_isHeld) (by decide +kernel) hl rfl (fun h => absurd h (by decide)) rfl tab_X12 k_X12_isHeld rfl (Or.inl rfl) rfl
  ⟨ivV_ok (ci := 12) (c_X12_right hl) g_X12_right.1 g_X12_right.2 ml_X12_170 in_X12_right py_X12_right rfl se_X12_right, trivial⟩ (gd_use h).1 (gd_use h).2
def B_X12_calls : List (Nat × List (Nat × Instr × Nat)) := [(0, [(0, .aload_n 0, 1), (1, .getfield 23, 3), (4, .iload_n 2, 1), (5, .iaload, 1), (6, .iconst 4, 1), (7, .if_icmp .ne 17, 3), (10, .aload_n 0, 1), (11, .getfield 133, 3), (14, .bipush 12, 2), (16, .iload_n 1, 1), (17, .imul, 1), (18, .iload_n 2, 1), (19, .iadd, 1), (20, .baload, 1), (21, .ifCond .eq 4, 3)]),
  (24, [(24, .return_, 1)]),
  (25, [(25, .aload_n 0, 1), (26, .getfield 133, 3), (29, .bipush 12, 2), (31, .iload_n 1, 1), (32, .imul, 1), (33, .iload_n 2, 1), (34, .iadd, 1), (35, .iconst 1, 1), (36, .bastore, 1), (37, .aload_n 0, 1), (38, .getfield 118, 3), (41, .iload_n 1, 1), (42, .dup2, 1), (43, .laload, 1), (44, .aload_n 0, 1), (45, .iload_n 2, 1), (46, .bipush 14, 2), (48, .invokevirtual 207, 3), (51, .i2l, 1), (52, .ladd, 1), (53, .lastore, 1), (54, .aload_n 0, 1), (55, .getfield 115, 3), (58, .iload_n 1, 1), (59, .dup2, 1), (60, .laload, 1), (61, .aload_n 0, 1), (62, .iload_n 2, 1), (63, .bipush 14, 2), (65, .invokevirtual 207, 3), (68, .i2l, 1), (69, .ladd, 1), (70, .lastore, 1), (71, .return_, 1)])]
def T_X12_calls (tb : Nat → Option (Nat × Nat)) : List (Nat × IV) := [(828, ivV tb 12 0 0 2 0 0 1 (w_X12_numberOf tb))]
def M_X12_calls (tb : Nat → Option (Nat × Nat)) : MT := (tb, FX12, StX12, CX12, NwX12, ivOf (T_X12_calls tb), 0, 0, 0)
def r_X12_calls (tb : Nat → Option (Nat × Nat)) (K : Option AV → AX → Prop) (KX : String → AX → Prop) : PT := lfp (wpm (M_X12_calls tb) B_X12_calls K (fun _ _ _ E X _ _ => KX E X))
def w_X12_calls (tb : Nat → Option (Nat × Nat)) : WP := fun as X K KX => gd ((ini0 as).length ≤ 3) (r_X12_calls tb K KX 0 (iniL as 3) [] X 0 0)
theorem k_X12_calls : B_X12_calls.all (blkB FX12 CX12 NwX12 RX12 false cX12_calls) = true := by decide +kernel
theorem g_X12_calls : gw (.code yX12_calls cX12_calls 3 none) = true ∧ gw (.initialized yX12_calls.cls) = true := by decide +kernel
theorem c_X12_calls {l : Launch} {G : GX} (hl : l.stackTraces = false) : ∀ as X K KX, w_X12_calls (gT G) as X K KX → CT l G yX12_calls (.code yX12_calls cX12_calls 3 none) 1 22 0 0 as X K KX := fun as X K KX h => CT_of (M := M_X12_calls (gT G)) (own := RX12) (ini := false) (T := T_X12_calls (gT G)) (B := B_X12_calls) (by decide +kernel) hl rfl (fun h => absurd h (by decide)) rfl tab_X12 k_X12_calls rfl (Or.inl rfl) rfl
  ⟨ivV_ok (ci := 12) (c_X12_numberOf hl) g_X12_numberOf.1 g_X12_numberOf.2 ml_X12_207 in_X12_numberOf py_X12_numberOf rfl se_X12_numberOf, trivial⟩ (gd_use h).1 (gd_use h).2
theorem py_X12_calls : plainY yX12_calls 2 = true := by decide +kernel
theorem in_X12_calls : gw (.instanceMethod yX12_calls) = true := by decide +kernel
theorem se_X12_calls : gw (.selects RX12 yX12_calls yX12_calls) = true := by decide +kernel
theorem ml_X12_269 : gw (.methodLink RX12 269 yX12_calls) = true := by decide +kernel
def B_X12_begins : List (Nat × List (Nat × Instr × Nat)) := [(0, [(0, .aload_n 0, 1), (1, .getfield 66, 3), (4, .iload_n 1, 1), (5, .iconst 0, 1), (6, .iastore, 1), (7, .aload_n 0, 1), (8, .getfield 69, 3), (11, .iload_n 1, 1), (12, .iload_n 3, 1), (13, .iastore, 1), (14, .aload_n 0, 1), (15, .getfield 72, 3), (18, .iload_n 1, 1), (19, .iconst (-1), 1), (20, .iastore, 1), (21, .aload_n 0, 1), (22, .getfield 75, 3), (25, .iload_n 1, 1), (26, .bipush 60, 2), (28, .iload 4, 2), (30, .imul, 1), (31, .iload 5, 2), (33, .iadd, 1), (34, .iastore, 1), (35, .aload_n 0, 1), (36, .getfield 78, 3), (39, .iload_n 1, 1), (40, .iload_n 2, 1), (41, .iastore, 1), (42, .aload_n 0, 1), (43, .getfield 81, 3), (46, .iload_n 1, 1), (47, .iload_n 2, 1), (48, .iastore, 1), (49, .aload_n 0, 1), (50, .getfield 84, 3), (53, .iload_n 1, 1), (54, .aload_n 0, 1), (55, .getfield 7, 3), (58, .iastore, 1), (59, .aload_n 0, 1), (60, .getfield 87, 3), (63, .iload_n 1, 1), (64, .aload_n 0, 1), (65, .getfield 13, 3), (68, .iastore, 1), (69, .aload_n 0, 1), (70, .getfield 90, 3), (73, .iload_n 1, 1), (74, .iconst 0, 1), (75, .iastore, 1), (76, .aload_n 0, 1), (77, .getfield 93, 3), (80, .iload_n 1, 1), (81, .aload_n 0, 1), (82, .iload_n 2, 1), (83, .iconst 1, 1), (84, .invokevirtual 207, 3), (87, .iconst 1, 1), (88, .isub, 1), (89, .iastore, 1), (90, .aload_n 0, 1), (91, .getfield 96, 3), (94, .iload_n 1, 1), (95, .iconst 0, 1), (96, .iastore, 1), (97, .aload_n 0, 1), (98, .getfield 99, 3), (101, .iload_n 1, 1), (102, .iconst 0, 1), (103, .iastore, 1), (104, .aload_n 0, 1), (105, .getfield 102, 3), (108, .iload_n 1, 1), (109, .iconst 0, 1), (110, .iastore, 1), (111, .aload_n 0, 1), (112, .getfield 105, 3), (115, .iload_n 1, 1), (116, .iconst 0, 1), (117, .iastore, 1), (118, .aload_n 0, 1), (119, .getfield 108, 3), (122, .iload_n 1, 1), (123, .iconst 0, 1), (124, .iastore, 1), (125, .aload_n 0, 1), (126, .getfield 111, 3), (129, .iload_n 1, 1), (130, .lconst 0, 1), (131, .lastore, 1), (132, .aload_n 0, 1), (133, .getfield 115, 3), (136, .iload_n 1, 1), (137, .aload_n 0, 1), (138, .iload_n 2, 1), (139, .iconst 0, 1), (140, .invokevirtual 207, 3), (143, .i2l, 1), (144, .lastore, 1), (145, .aload_n 0, 1), (146, .getfield 118, 3), (149, .iload_n 1, 1), (150, .lconst 0, 1), (151, .lastore, 1), (152, .aload_n 0, 1), (153, .getfield 121, 3), (156, .iload_n 1, 1), (157, .lconst 0, 1), (158, .lastore, 1), (159, .aload_n 0, 1), (160, .getfield 124, 3), (163, .iload_n 1, 1), (164, .iconst 1, 1), (165, .bastore, 1), (166, .aload_n 0, 1), (167, .getfield 127, 3), (170, .iload_n 1, 1), (171, .iconst 0, 1), (172, .bastore, 1), (173, .aload_n 0, 1), (174, .getfield 130, 3), (177, .iload_n 1, 1), (178, .iconst 0, 1), (179, .bastore, 1), (180, .iconst 0, 1), (181, .istore 6, 2)]),
  (183, [(183, .iload 6, 2), (185, .bipush 12, 2), (187, .if_icmp .ge 22, 3), (190, .aload_n 0, 1), (191, .getfield 133, 3), (194, .bipush 12, 2), (196, .iload_n 1, 1), (197, .imul, 1), (198, .iload 6, 2), (200, .iadd, 1), (201, .iconst 0, 1), (202, .bastore, 1), (203, .iinc 6 1, 3), (206, .goto (-23), 3)]),
  (209, [(209, .aload_n 0, 1), (210, .iload_n 1, 1), (211, .iload_n 2, 1), (212, .invokevirtual 269, 3), (215, .return_, 1)])]
def T_X12_begins (tb : Nat → Option (Nat × Nat)) : List (Nat × IV) := [(828, ivV tb 12 0 0 2 0 0 1 (w_X12_numberOf tb)), (1076, ivV tb 12 0 0 2 0 0 0 (w_X12_calls tb))]
def M_X12_begins (tb : Nat → Option (Nat × Nat)) : MT := (tb, FX12, StX12, CX12, NwX12, ivOf (T_X12_begins tb), 0, 0, 0)
def r_X12_begins (tb : Nat → Option (Nat × Nat)) (K : Option AV → AX → Prop) (KX : String → AX → Prop) : PT := lfp (wpm (M_X12_begins tb) B_X12_begins K (fun _ _ _ E X _ _ => KX E X))
def w_X12_begins (tb : Nat → Option (Nat × Nat)) : WP := fun as X K KX => gd ((ini0 as).length ≤ 7) (r_X12_begins tb K KX 0 (iniL as 7) [] X 0 0)
theorem k_X12_begins : B_X12_begins.all (blkB FX12 CX12 NwX12 RX12 false cX12_begins) = true := by decide +kernel
theorem g_X12_begins : gw (.code yX12_begins cX12_begins 7 none) = true ∧ gw (.initialized yX12_begins.cls) = true := by decide +kernel
theorem c_X12_begins {l : Launch} {G : GX} (hl : l.stackTraces = false) : ∀ as X K KX, w_X12_begins (gT G) as X K KX → CT l G yX12_begins (.code yX12_begins cX12_begins 7 none) 2 44 0 0 as X K KX := fun as X K KX h => CT_of (M := M_X12_begins (gT G)) (own := RX12) (ini := false) (T := T_X12_begins (gT G)) (B := B_X12_begins) (by decide +kernel) hl rfl (fun h => absurd h (by decide)) rfl tab_X12 k_X12_begins rfl (Or.inl rfl) rfl
  ⟨ivV_ok (ci := 12) (c_X12_numberOf hl) g_X12_numberOf.1 g_X12_numberOf.2 ml_X12_207 in_X12_numberOf py_X12_numberOf rfl se_X12_numberOf, ivV_ok (ci := 12) (c_X12_calls hl) g_X12_calls.1 g_X12_calls.2 ml_X12_269 in_X12_calls py_X12_calls rfl se_X12_calls, trivial⟩ (gd_use h).1 (gd_use h).2
theorem py_X12_isBeginning : plainY yX12_isBeginning 4 = true := by decide +kernel
theorem in_X12_isBeginning : gw (.instanceMethod yX12_isBeginning) = true := by decide +kernel
theorem se_X12_isBeginning : gw (.selects RX12 yX12_isBeginning yX12_isBeginning) = true := by decide +kernel
theorem ml_X12_287 : gw (.methodLink RX12 287 yX12_isBeginning) = true := by decide +kernel
theorem py_X12_isHeld : plainY yX12_isHeld 3 = true := by decide +kernel
theorem in_X12_isHeld : gw (.instanceMethod yX12_isHeld) = true := by decide +kernel
theorem se_X12_isHeld : gw (.selects RX12 yX12_isHeld yX12_isHeld) = true := by decide +kernel
theorem ml_X12_291 : gw (.methodLink RX12 291 yX12_isHeld) = true := by decide +kernel
theorem py_X12_begins : plainY yX12_begins 5 = true := by decide +kernel
theorem in_X12_begins : gw (.instanceMethod yX12_begins) = true := by decide +kernel
theorem se_X12_begins : gw (.selects RX12 yX12_begins yX12_begins) = true := by decide +kernel
theorem ml_X12_295 : gw (.methodLink RX12 295 yX12_begins) = true := by decide +kernel
def B_X12_hire : List (Nat × List (Nat × Instr × Nat)) := [(0, [(0, .aload_n 0, 1), (1, .iconst 0, 1), (2, .putfield 163, 3), (5, .aload_n 0, 1), (6, .aload_n 0, 1), (7, .getfield 166, 3), (10, .ifCond .ne 7, 3), (13, .iconst 1, 1), (14, .goto 4, 3)]),
  (17, [(17, .iconst 0, 1)]),
  (18, [(18, .iconst 1, 1), (19, .invokevirtual 170, 3), (22, .ifCond .eq 34, 3), (25, .aload_n 0, 1), (26, .iload_n 1, 1), (27, .iconst 2, 1), (28, .invokevirtual 210, 3), (31, .ifCond .eq 25, 3), (34, .aload_n 0, 1), (35, .iload_n 2, 1), (36, .iload_n 3, 1), (37, .iload 4, 2), (39, .iconst 3, 1), (40, .invokevirtual 287, 3), (43, .ifCond .eq 13, 3), (46, .aload_n 0, 1), (47, .iload_n 1, 1), (48, .iconst 4, 1), (49, .iconst 3, 1), (50, .invokevirtual 291, 3), (53, .ifCond .ne 5, 3)]),
  (56, [(56, .iconst 0, 1), (57, .ireturn, 1)]),
  (58, [(58, .aload_n 0, 1), (59, .getfield 219, 3), (62, .sipush 4000, 3), (65, .if_icmp .ne 5, 3), (68, .iconst (-1), 1), (69, .ireturn, 1)]),
  (70, [(70, .aload_n 0, 1), (71, .iconst 0, 1), (72, .aload_n 0, 1), (73, .getfield 32, 3), (76, .iload_n 1, 1), (77, .iaload, 1), (78, .iload_n 2, 1), (79, .iload_n 3, 1), (80, .iload 4, 2), (82, .invokevirtual 295, 3), (85, .aload_n 0, 1), (86, .getfield 63, 3), (89, .iconst 0, 1), (90, .aload_n 0, 1), (91, .getfield 219, 3), (94, .iastore, 1), (95, .aload_n 0, 1), (96, .dup, 1), (97, .getfield 219, 3), (100, .iconst 1, 1), (101, .iadd, 1), (102, .putfield 219, 3), (105, .aload_n 0, 1), (106, .iconst 1, 1), (107, .putfield 166, 3), (110, .aload_n 0, 1), (111, .aload_n 0, 1), (112, .getfield 213, 3), (115, .putfield 222, 3), (118, .aload_n 0, 1), (119, .iconst 1, 1), (120, .putfield 225, 3), (123, .iconst 0, 1), (124, .istore 5, 2)]),
  (126, [(126, .iload 5, 2), (128, .aload_n 0, 1), (129, .getfield 213, 3), (132, .if_icmp .ge 35, 3), (135, .aload_n 0, 1), (136, .aload_n 0, 1), (137, .getfield 225, 3), (140, .ifCond .eq 17, 3), (143, .aload_n 0, 1), (144, .getfield 35, 3), (147, .iload 5, 2), (149, .baload, 1), (150, .ifCond .eq 7, 3), (153, .iconst 1, 1), (154, .goto 4, 3)]),
  (157, [(157, .iconst 0, 1)]),
  (158, [(158, .putfield 225, 3), (161, .iinc 5 1, 3), (164, .goto (-38), 3)]),
  (167, [(167, .aload_n 0, 1), (168, .getfield 63, 3), (171, .iconst 0, 1), (172, .iaload, 1), (173, .ireturn, 1)])]
def T_X12_hire (tb : Nat → Option (Nat × Nat)) : List (Nat × IV) := [(680, ivV tb 12 0 0 2 0 0 1 (w_X12_right tb)), (840, ivV tb 12 0 0 2 0 0 1 (w_X12_isSlot tb)), (1148, ivV tb 12 0 0 4 0 0 1 (w_X12_isBeginning tb)), (1164, ivV tb 12 0 0 3 0 0 1 (w_X12_isHeld tb)), (1180, ivV tb 12 0 0 5 0 0 0 (w_X12_begins tb))]
def M_X12_hire (tb : Nat → Option (Nat × Nat)) : MT := (tb, FX12, StX12, CX12, NwX12, ivOf (T_X12_hire tb), 0, 0, 1)
def r_X12_hire (tb : Nat → Option (Nat × Nat)) (K : Option AV → AX → Prop) (KX : String → AX → Prop) : PT := lfp (wpm (M_X12_hire tb) B_X12_hire K (fun _ _ _ E X _ _ => KX E X))
def w_X12_hire (tb : Nat → Option (Nat × Nat)) : WP := fun as X K KX => gd ((ini0 as).length ≤ 6) (r_X12_hire tb K KX 0 (iniL as 6) [] X 0 0)
theorem k_X12_hire : B_X12_hire.all (blkB FX12 CX12 NwX12 RX12 false cX12_hire) = true := by decide +kernel
theorem g_X12_hire : gw (.code yX12_hire cX12_hire 6 (some .int)) = true ∧ gw (.initialized yX12_hire.cls) = true := by decide +kernel
theorem c_X12_hire {l : Launch} {G : GX} (hl : l.stackTraces = false) : ∀ as X K KX, w_X12_hire (gT G) as X K KX → CT l G yX12_hire (.code yX12_hire cX12_hire 6 (some .int)) 3 70 0 0 as X K KX := fun as X K KX h => CT_of (M := M_X12_hire (gT G)) (own := RX12) (ini := false) (T := T_X12_hire (gT G)) (B := B_X12_hire) (by decide +kernel) hl rfl (fun h => absurd h (by decide)) rfl tab_X12 k_X12_hire rfl (Or.inl rfl) rfl
  ⟨ivV_ok (ci := 12) (c_X12_right hl) g_X12_right.1 g_X12_right.2 ml_X12_170 in_X12_right py_X12_right rfl se_X12_right, ivV_ok (ci := 12) (c_X12_isSlot hl) g_X12_isSlot.1 g_X12_isSlot.2 ml_X12_210 in_X12_isSlot py_X12_isSlot rfl se_X12_isSlot, ivV_ok (ci := 12) (c_X12_isBeginning hl) g_X12_isBeginning.1 g_X12_isBeginning.2 ml_X12_287 in_X12_isBeginning py_X12_isBeginning rfl se_X12_isBeginning, ivV_ok (ci := 12) (c_X12_isHeld hl) g_X12_isHeld.1 g_X12_isHeld.2 ml_X12_291 in_X12_isHeld py_X12_isHeld rfl se_X12_isHeld, ivV_ok (ci := 12) (c_X12_begins hl) g_X12_begins.1 g_X12_begins.2 ml_X12_295 in_X12_begins py_X12_begins rfl se_X12_begins, trivial⟩ (gd_use h).1 (gd_use h).2
def B_X12_minuteOf : List (Nat × List (Nat × Instr × Nat)) := [(0, [(0, .aload_n 0, 1), (1, .getfield 75, 3), (4, .iload_n 1, 1), (5, .iaload, 1), (6, .aload_n 0, 1), (7, .getfield 66, 3), (10, .iload_n 1, 1), (11, .iaload, 1), (12, .iadd, 1), (13, .bipush 60, 2), (15, .idiv, 1), (16, .sipush 1440, 3), (19, .irem, 1), (20, .ireturn, 1)])]
def T_X12_minuteOf (tb : Nat → Option (Nat × Nat)) : List (Nat × IV) := []
def M_X12_minuteOf (tb : Nat → Option (Nat × Nat)) : MT := (tb, FX12, StX12, CX12, NwX12, ivOf (T_X12_minuteOf tb), 0, 0, 1)
def r_X12_minuteOf (tb : Nat → Option (Nat × Nat)) (K : Option AV → AX → Prop) (KX : String → AX → Prop) : PT := lfp (wpm (M_X12_minuteOf tb) B_X12_minuteOf K (fun _ _ _ E X _ _ => KX E X))
def w_X12_minuteOf (tb : Nat → Option (Nat × Nat)) : WP := fun as X K KX => gd ((ini0 as).length ≤ 2) (r_X12_minuteOf tb K KX 0 (iniL as 2) [] X 0 0)
theorem k_X12_minuteOf : B_X12_minuteOf.all (blkB FX12 CX12 NwX12 RX12 false cX12_minuteOf) = true := by decide +kernel
theorem g_X12_minuteOf : gw (.code yX12_minuteOf cX12_minuteOf 2 (some .int)) = true ∧ gw (.initialized yX12_minuteOf.cls) = true := by decide +kernel
theorem c_X12_minuteOf {l : Launch} {G : GX} (hl : l.stackTraces = false) : ∀ as X K KX, w_X12_minuteOf (gT G) as X K KX → CT l G yX12_minuteOf (.code yX12_minuteOf cX12_minuteOf 2 (some .int)) 0 0 0 0 as X K KX := fun as X K KX h => CT_of (M := M_X12_minuteOf (gT G)) (own := RX12) (ini := false) (T := T_X12_minuteOf (gT G)) (B := B_X12_minuteOf) (by decide +kernel) hl rfl (fun h => absurd h (by decide)) rfl tab_X12 k_X12_minuteOf rfl (Or.inl rfl) rfl
  trivial (gd_use h).1 (gd_use h).2
def B_X12_isNight : List (Nat × List (Nat × Instr × Nat)) := [(0, [(0, .aload_n 0, 1), (1, .iload_n 1, 1), (2, .bipush 6, 2), (4, .invokevirtual 207, 3), (7, .istore_n 3, 1), (8, .aload_n 0, 1), (9, .iload_n 1, 1), (10, .bipush 7, 2), (12, .invokevirtual 207, 3), (15, .istore 4, 2), (17, .iload_n 3, 1), (18, .iload 4, 2), (20, .if_icmp .ge 22, 3), (23, .iload_n 2, 1), (24, .iload_n 3, 1), (25, .if_icmp .lt 13, 3), (28, .iload_n 2, 1), (29, .iload 4, 2), (31, .if_icmp .ge 7, 3), (34, .iconst 1, 1), (35, .goto 29, 3)]),
  (38, [(38, .iconst 0, 1), (39, .goto 25, 3)]),
  (42, [(42, .iload_n 3, 1), (43, .iload 4, 2), (45, .if_icmp .le 18, 3), (48, .iload_n 2, 1), (49, .iload_n 3, 1), (50, .if_icmp .ge 9, 3), (53, .iload_n 2, 1), (54, .iload 4, 2), (56, .if_icmp .ge 7, 3)]),
  (59, [(59, .iconst 1, 1), (60, .goto 4, 3)]),
  (63, [(63, .iconst 0, 1)]),
  (64, [(64, .ireturn, 1)])]
def T_X12_isNight (tb : Nat → Option (Nat × Nat)) : List (Nat × IV) := [(828, ivV tb 12 0 0 2 0 0 1 (w_X12_numberOf tb))]
def M_X12_isNight (tb : Nat → Option (Nat × Nat)) : MT := (tb, FX12, StX12, CX12, NwX12, ivOf (T_X12_isNight tb), 0, 0, 2)
def r_X12_isNight (tb : Nat → Option (Nat × Nat)) (K : Option AV → AX → Prop) (KX : String → AX → Prop) : PT := lfp (wpm (M_X12_isNight tb) B_X12_isNight K (fun _ _ _ E X _ _ => KX E X))
def w_X12_isNight (tb : Nat → Option (Nat × Nat)) : WP := fun as X K KX => gd ((ini0 as).length ≤ 5) (r_X12_isNight tb K KX 0 (iniL as 5) [] X 0 0)
theorem k_X12_isNight : B_X12_isNight.all (blkB FX12 CX12 NwX12 RX12 false cX12_isNight) = true := by decide +kernel
theorem g_X12_isNight : gw (.code yX12_isNight cX12_isNight 5 (some .boolean)) = true ∧ gw (.initialized yX12_isNight.cls) = true := by decide +kernel
theorem c_X12_isNight {l : Launch} {G : GX} (hl : l.stackTraces = false) : ∀ as X K KX, w_X12_isNight (gT G) as X K KX → CT l G yX12_isNight (.code yX12_isNight cX12_isNight 5 (some .boolean)) 1 22 0 0 as X K KX := fun as X K KX h => CT_of (M := M_X12_isNight (gT G)) (own := RX12) (ini := false) (T := T_X12_isNight (gT G)) (B := B_X12_isNight) (by decide +kernel) hl rfl (fun h => absurd h (by decide)) rfl tab_X12 k_X12_isNight rfl (Or.inl rfl) rfl
  ⟨ivV_ok (ci := 12) (c_X12_numberOf hl) g_X12_numberOf.1 g_X12_numberOf.2 ml_X12_207 in_X12_numberOf py_X12_numberOf rfl se_X12_numberOf, trivial⟩ (gd_use h).1 (gd_use h).2
def B_X12_collect : List (Nat × List (Nat × Instr × Nat)) := [(0, [(0, .iconst 0, 1), (1, .istore_n 2, 1)]),
  (2, [(2, .iload_n 2, 1), (3, .aload_n 0, 1), (4, .getfield 108, 3), (7, .iload_n 1, 1), (8, .iaload, 1), (9, .if_icmp .ge 59, 3), (12, .aload_n 0, 1), (13, .getfield 151, 3), (16, .aload_n 0, 1), (17, .getfield 235, 3), (20, .aload_n 0, 1), (21, .getfield 145, 3), (24, .bipush 80, 2), (26, .iload_n 1, 1), (27, .imul, 1), (28, .iload_n 2, 1), (29, .iadd, 1), (30, .laload, 1), (31, .lastore, 1), (32, .aload_n 0, 1), (33, .getfield 154, 3), (36, .aload_n 0, 1), (37, .getfield 235, 3), (40, .aload_n 0, 1), (41, .getfield 148, 3), (44, .bipush 80, 2), (46, .iload_n 1, 1), (47, .imul, 1), (48, .iload_n 2, 1), (49, .iadd, 1), (50, .laload, 1), (51, .lastore, 1), (52, .aload_n 0, 1), (53, .dup, 1), (54, .getfield 235, 3), (57, .iconst 1, 1), (58, .iadd, 1), (59, .putfield 235, 3), (62, .iinc 2 1, 3), (65, .goto (-63), 3)]),
  (68, [(68, .return_, 1)])]
def T_X12_collect (tb : Nat → Option (Nat × Nat)) : List (Nat × IV) := []
def M_X12_collect (tb : Nat → Option (Nat × Nat)) : MT := (tb, FX12, StX12, CX12, NwX12, ivOf (T_X12_collect tb), 0, 0, 0)
def r_X12_collect (tb : Nat → Option (Nat × Nat)) (K : Option AV → AX → Prop) (KX : String → AX → Prop) : PT := lfp (wpm (M_X12_collect tb) B_X12_collect K (fun _ _ _ E X _ _ => KX E X))
def w_X12_collect (tb : Nat → Option (Nat × Nat)) : WP := fun as X K KX => gd ((ini0 as).length ≤ 3) (r_X12_collect tb K KX 0 (iniL as 3) [] X 0 0)
theorem k_X12_collect : B_X12_collect.all (blkB FX12 CX12 NwX12 RX12 false cX12_collect) = true := by decide +kernel
theorem g_X12_collect : gw (.code yX12_collect cX12_collect 3 none) = true ∧ gw (.initialized yX12_collect.cls) = true := by decide +kernel
theorem c_X12_collect {l : Launch} {G : GX} (hl : l.stackTraces = false) : ∀ as X K KX, w_X12_collect (gT G) as X K KX → CT l G yX12_collect (.code yX12_collect cX12_collect 3 none) 0 0 0 0 as X K KX := fun as X K KX h => CT_of (M := M_X12_collect (gT G)) (own := RX12) (ini := false) (T := T_X12_collect (gT G)) (B := B_X12_collect) (by decide +kernel) hl rfl (fun h => absurd h (by decide)) rfl tab_X12 k_X12_collect rfl (Or.inl rfl) rfl
  trivial (gd_use h).1 (gd_use h).2
def B_X12_carry : List (Nat × List (Nat × Instr × Nat)) := [(0, [(0, .iconst 0, 1), (1, .istore_n 1, 1)]),
  (2, [(2, .iload_n 1, 1), (3, .sipush 179, 3), (6, .if_icmp .ge 32, 3), (9, .aload_n 0, 1), (10, .iload_n 1, 1), (11, .iconst 1, 1), (12, .iadd, 1), (13, .dup2, 1), (14, .laload, 1), (15, .aload_n 0, 1), (16, .iload_n 1, 1), (17, .laload, 1), (18, .bipush 28, 2), (20, .lshr, 1), (21, .ladd, 1), (22, .lastore, 1), (23, .aload_n 0, 1), (24, .iload_n 1, 1), (25, .dup2, 1), (26, .laload, 1), (27, .ldc2_w 259, 3), (30, .land, 1), (31, .lastore, 1), (32, .iinc 1 1, 3), (35, .goto (-33), 3)]),
  (38, [(38, .return_, 1)])]
def T_X12_carry (tb : Nat → Option (Nat × Nat)) : List (Nat × IV) := []
def M_X12_carry (tb : Nat → Option (Nat × Nat)) : MT := (tb, FX12, StX12, CX12, NwX12, ivOf (T_X12_carry tb), 0, 0, 0)
def r_X12_carry (tb : Nat → Option (Nat × Nat)) (K : Option AV → AX → Prop) (KX : String → AX → Prop) : PT := lfp (wpm (M_X12_carry tb) B_X12_carry K (fun _ _ _ E X _ _ => KX E X))
def w_X12_carry (tb : Nat → Option (Nat × Nat)) : WP := fun as X K KX => gd ((ini0 as).length ≤ 2) (r_X12_carry tb K KX 0 (iniL as 2) [] X 0 0)
theorem k_X12_carry : B_X12_carry.all (blkB FX12 CX12 NwX12 RX12 false cX12_carry) = true := by decide +kernel
theorem g_X12_carry : gw (.code yX12_carry cX12_carry 2 none) = true ∧ gw (.initialized yX12_carry.cls) = true := by decide +kernel
theorem c_X12_carry {l : Launch} {G : GX} (hl : l.stackTraces = false) : ∀ as X K KX, w_X12_carry (gT G) as X K KX → CT l G yX12_carry (.code yX12_carry cX12_carry 2 none) 0 0 0 0 as X K KX := fun as X K KX h => CT_of (M := M_X12_carry (gT G)) (own := RX12) (ini := false) (T := T_X12_carry (gT G)) (B := B_X12_carry) (by decide +kernel) hl rfl (fun h => absurd h (by decide)) rfl tab_X12 k_X12_carry rfl (Or.inl rfl) rfl
  trivial (gd_use h).1 (gd_use h).2
theorem st_X12_carry : gw (.static yX12_carry) = true := by decide +kernel
theorem py_X12_carry : plainY yX12_carry 1 = true := by decide +kernel
theorem ml_X12_244 : gw (.methodLink RX12 244 yX12_carry) = true := by decide +kernel
def B_X12_times : List (Nat × List (Nat × Instr × Nat)) := [(0, [(0, .iconst 0, 1), (1, .istore_n 3, 1)]),
  (2, [(2, .iload_n 3, 1), (3, .sipush 180, 3), (6, .if_icmp .ge 16, 3), (9, .aload_n 0, 1), (10, .iload_n 3, 1), (11, .dup2, 1), (12, .laload, 1), (13, .lload_n 1, 1), (14, .lmul, 1), (15, .lastore, 1), (16, .iinc 3 1, 3), (19, .goto (-17), 3)]),
  (22, [(22, .aload_n 0, 1), (23, .invokestatic 244, 3), (26, .return_, 1)])]
def T_X12_times (tb : Nat → Option (Nat × Nat)) : List (Nat × IV) := [(978, ivS 0 0 1 0 0 0 (w_X12_carry tb))]
def M_X12_times (tb : Nat → Option (Nat × Nat)) : MT := (tb, FX12, StX12, CX12, NwX12, ivOf (T_X12_times tb), 0, 0, 0)
def r_X12_times (tb : Nat → Option (Nat × Nat)) (K : Option AV → AX → Prop) (KX : String → AX → Prop) : PT := lfp (wpm (M_X12_times tb) B_X12_times K (fun _ _ _ E X _ _ => KX E X))
def w_X12_times (tb : Nat → Option (Nat × Nat)) : WP := fun as X K KX => gd ((ini0 as).length ≤ 4) (r_X12_times tb K KX 0 (iniL as 4) [] X 0 0)
theorem k_X12_times : B_X12_times.all (blkB FX12 CX12 NwX12 RX12 false cX12_times) = true := by decide +kernel
theorem g_X12_times : gw (.code yX12_times cX12_times 4 none) = true ∧ gw (.initialized yX12_times.cls) = true := by decide +kernel
theorem c_X12_times {l : Launch} {G : GX} (hl : l.stackTraces = false) : ∀ as X K KX, w_X12_times (gT G) as X K KX → CT l G yX12_times (.code yX12_times cX12_times 4 none) 1 21 0 0 as X K KX := fun as X K KX h => CT_of (M := M_X12_times (gT G)) (own := RX12) (ini := false) (T := T_X12_times (gT G)) (B := B_X12_times) (by decide +kernel) hl rfl (fun h => absurd h (by decide)) rfl tab_X12 k_X12_times rfl (Or.inl rfl) rfl
  ⟨ivS_ok (c_X12_carry hl) g_X12_carry.1 g_X12_carry.2 ml_X12_244 st_X12_carry py_X12_carry rfl, trivial⟩ (gd_use h).1 (gd_use h).2
def B_X12_isLess : List (Nat × List (Nat × Instr × Nat)) := [(0, [(0, .sipush 179, 3), (3, .istore_n 2, 1)]),
  (4, [(4, .iload_n 2, 1), (5, .ifCond .lt 35, 3), (8, .aload_n 0, 1), (9, .iload_n 2, 1), (10, .laload, 1), (11, .aload_n 1, 1), (12, .iload_n 2, 1), (13, .laload, 1), (14, .lcmp, 1), (15, .ifCond .eq 19, 3), (18, .aload_n 0, 1), (19, .iload_n 2, 1), (20, .laload, 1), (21, .aload_n 1, 1), (22, .iload_n 2, 1), (23, .laload, 1), (24, .lcmp, 1), (25, .ifCond .ge 7, 3), (28, .iconst 1, 1), (29, .goto 4, 3)]),
  (32, [(32, .iconst 0, 1)]),
  (33, [(33, .ireturn, 1)]),
  (34, [(34, .iinc 2 (-1), 3), (37, .goto (-33), 3)]),
  (40, [(40, .iconst 0, 1), (41, .ireturn, 1)])]
def T_X12_isLess (tb : Nat → Option (Nat × Nat)) : List (Nat × IV) := []
def M_X12_isLess (tb : Nat → Option (Nat × Nat)) : MT := (tb, FX12, StX12, CX12, NwX12, ivOf (T_X12_isLess tb), 0, 0, 2)
def r_X12_isLess (tb : Nat → Option (Nat × Nat)) (K : Option AV → AX → Prop) (KX : String → AX → Prop) : PT := lfp (wpm (M_X12_isLess tb) B_X12_isLess K (fun _ _ _ E X _ _ => KX E X))
def w_X12_isLess (tb : Nat → Option (Nat × Nat)) : WP := fun as X K KX => gd ((ini0 as).length ≤ 3) (r_X12_isLess tb K KX 0 (iniL as 3) [] X 0 0)
theorem k_X12_isLess : B_X12_isLess.all (blkB FX12 CX12 NwX12 RX12 false cX12_isLess) = true := by decide +kernel
theorem g_X12_isLess : gw (.code yX12_isLess cX12_isLess 3 (some .boolean)) = true ∧ gw (.initialized yX12_isLess.cls) = true := by decide +kernel
theorem c_X12_isLess {l : Launch} {G : GX} (hl : l.stackTraces = false) : ∀ as X K KX, w_X12_isLess (gT G) as X K KX → CT l G yX12_isLess (.code yX12_isLess cX12_isLess 3 (some .boolean)) 0 0 0 0 as X K KX := fun as X K KX h => CT_of (M := M_X12_isLess (gT G)) (own := RX12) (ini := false) (T := T_X12_isLess (gT G)) (B := B_X12_isLess) (by decide +kernel) hl rfl (fun h => absurd h (by decide)) rfl tab_X12 k_X12_isLess rfl (Or.inl rfl) rfl
  trivial (gd_use h).1 (gd_use h).2
def B_X12_isAlike : List (Nat × List (Nat × Instr × Nat)) := [(0, [(0, .iconst 0, 1), (1, .istore_n 1, 1)]),
  (2, [(2, .iload_n 1, 1), (3, .sipush 180, 3), (6, .if_icmp .ge 27, 3), (9, .aload_n 0, 1), (10, .getfield 157, 3), (13, .iload_n 1, 1), (14, .laload, 1), (15, .aload_n 0, 1), (16, .getfield 160, 3), (19, .iload_n 1, 1), (20, .laload, 1), (21, .lcmp, 1), (22, .ifCond .eq 5, 3), (25, .iconst 0, 1), (26, .ireturn, 1)]),
  (27, [(27, .iinc 1 1, 3), (30, .goto (-28), 3)]),
  (33, [(33, .iconst 1, 1), (34, .ireturn, 1)])]
def T_X12_isAlike (tb : Nat → Option (Nat × Nat)) : List (Nat × IV) := []
def M_X12_isAlike (tb : Nat → Option (Nat × Nat)) : MT := (tb, FX12, StX12, CX12, NwX12, ivOf (T_X12_isAlike tb), 0, 0, 2)
def r_X12_isAlike (tb : Nat → Option (Nat × Nat)) (K : Option AV → AX → Prop) (KX : String → AX → Prop) : PT := lfp (wpm (M_X12_isAlike tb) B_X12_isAlike K (fun _ _ _ E X _ _ => KX E X))
def w_X12_isAlike (tb : Nat → Option (Nat × Nat)) : WP := fun as X K KX => gd ((ini0 as).length ≤ 2) (r_X12_isAlike tb K KX 0 (iniL as 2) [] X 0 0)
theorem k_X12_isAlike : B_X12_isAlike.all (blkB FX12 CX12 NwX12 RX12 false cX12_isAlike) = true := by decide +kernel
theorem g_X12_isAlike : gw (.code yX12_isAlike cX12_isAlike 2 (some .boolean)) = true ∧ gw (.initialized yX12_isAlike.cls) = true := by decide +kernel
theorem c_X12_isAlike {l : Launch} {G : GX} (hl : l.stackTraces = false) : ∀ as X K KX, w_X12_isAlike (gT G) as X K KX → CT l G yX12_isAlike (.code yX12_isAlike cX12_isAlike 2 (some .boolean)) 0 0 0 0 as X K KX := fun as X K KX h => CT_of (M := M_X12_isAlike (gT G)) (own := RX12) (ini := false) (T := T_X12_isAlike (gT G)) (B := B_X12_isAlike) (by decide +kernel) hl rfl (fun h => absurd h (by decide)) rfl tab_X12 k_X12_isAlike rfl (Or.inl rfl) rfl
  trivial (gd_use h).1 (gd_use h).2
theorem st_X12_times : gw (.static yX12_times) = true := by decide +kernel
theorem py_X12_times : plainY yX12_times 2 = true := by decide +kernel
theorem ml_X12_240 : gw (.methodLink RX12 240 yX12_times) = true := by decide +kernel
theorem st_X12_isLess : gw (.static yX12_isLess) = true := by decide +kernel
theorem py_X12_isLess : plainY yX12_isLess 2 = true := by decide +kernel
theorem ml_X12_248 : gw (.methodLink RX12 248 yX12_isLess) = true := by decide +kernel
theorem py_X12_isAlike : plainY yX12_isAlike 0 = true := by decide +kernel
theorem in_X12_isAlike : gw (.instanceMethod yX12_isAlike) = true := by decide +kernel
theorem se_X12_isAlike : gw (.selects RX12 yX12_isAlike yX12_isAlike) = true := by decide +kernel
theorem ml_X12_252 : gw (.methodLink RX12 252 yX12_isAlike) = true := by decide +kernel
def B_X12_whole : List (Nat × List (Nat × Instr × Nat)) := [(0, [(0, .ldc2_w 238, 3), (3, .lstore_n 2, 1), (4, .lconst 0, 1), (5, .lstore 4, 2), (7, .iconst 0, 1), (8, .istore 6, 2)]),
  (10, [(10, .iload 6, 2), (12, .aload_n 0, 1), (13, .getfield 235, 3), (16, .if_icmp .ge 32, 3), (19, .lload 4, 2), (21, .aload_n 0, 1), (22, .getfield 151, 3), (25, .iload 6, 2), (27, .laload, 1), (28, .bipush 34, 2), (30, .lshl, 1), (31, .aload_n 0, 1), (32, .getfield 154, 3), (35, .iload 6, 2), (37, .laload, 1), (38, .ldiv, 1), (39, .ladd, 1), (40, .lstore 4, 2), (42, .iinc 6 1, 3), (45, .goto (-35), 3)]),
  (48, [(48, .iload_n 1, 1), (49, .ifCond .ne 24, 3), (52, .lload 4, 2), (54, .lload_n 2, 1), (55, .lrem, 1), (56, .aload_n 0, 1), (57, .getfield 235, 3), (60, .i2l, 1), (61, .ladd, 1), (62, .lload_n 2, 1), (63, .lcmp, 1), (64, .ifCond .gt 9, 3), (67, .lload 4, 2), (69, .lload_n 2, 1), (70, .ldiv, 1), (71, .l2i, 1), (72, .ireturn, 1)]),
  (73, [(73, .iconst 0, 1), (74, .istore 6, 2)]),
  (76, [(76, .iload 6, 2), (78, .sipush 180, 3), (81, .if_icmp .ge 25, 3), (84, .aload_n 0, 1), (85, .getfield 157, 3), (88, .iload 6, 2), (90, .lconst 0, 1), (91, .lastore, 1), (92, .aload_n 0, 1), (93, .getfield 160, 3), (96, .iload 6, 2), (98, .lconst 0, 1), (99, .lastore, 1), (100, .iinc 6 1, 3), (103, .goto (-27), 3)]),
  (106, [(106, .aload_n 0, 1), (107, .getfield 160, 3), (110, .iconst 0, 1), (111, .lconst 1, 1), (112, .lastore, 1), (113, .iconst 0, 1), (114, .istore 6, 2)]),
  (116, [(116, .iload 6, 2), (118, .aload_n 0, 1), (119, .getfield 235, 3), (122, .if_icmp .ge 86, 3), (125, .aload_n 0, 1), (126, .getfield 157, 3), (129, .aload_n 0, 1), (130, .getfield 154, 3), (133, .iload 6, 2), (135, .laload, 1), (136, .invokestatic 240, 3), (139, .iconst 0, 1), (140, .istore 7, 2)]),
  (142, [(142, .iload 7, 2), (144, .sipush 180, 3), (147, .if_icmp .ge 34, 3), (150, .aload_n 0, 1), (151, .getfield 157, 3), (154, .iload 7, 2), (156, .dup2, 1), (157, .laload, 1), (158, .aload_n 0, 1), (159, .getfield 160, 3), (162, .iload 7, 2), (164, .laload, 1), (165, .aload_n 0, 1), (166, .getfield 151, 3), (169, .iload 6, 2), (171, .laload, 1), (172, .lmul, 1), (173, .ladd, 1), (174, .lastore, 1), (175, .iinc 7 1, 3), (178, .goto (-36), 3)]),
  (181, [(181, .aload_n 0, 1), (182, .getfield 157, 3), (185, .invokestatic 244, 3), (188, .aload_n 0, 1), (189, .getfield 160, 3), (192, .aload_n 0, 1), (193, .getfield 154, 3), (196, .iload 6, 2), (198, .laload, 1), (199, .invokestatic 240, 3), (202, .iinc 6 1, 3), (205, .goto (-89), 3)]),
  (208, [(208, .iconst 0, 1), (209, .istore 6, 2)]),
  (211, [(211, .aload_n 0, 1), (212, .getfield 160, 3), (215, .aload_n 0, 1), (216, .getfield 157, 3), (219, .invokestatic 248, 3), (222, .ifCond .ne 10, 3), (225, .aload_n 0, 1), (226, .invokevirtual 252, 3), (229, .ifCond .eq 50, 3)]),
  (232, [(232, .iconst 0, 1), (233, .istore 7, 2)]),
  (235, [(235, .iload 7, 2), (237, .sipush 180, 3), (240, .if_icmp .ge 26, 3), (243, .aload_n 0, 1), (244, .getfield 157, 3), (247, .iload 7, 2), (249, .dup2, 1), (250, .laload, 1), (251, .aload_n 0, 1), (252, .getfield 160, 3), (255, .iload 7, 2), (257, .laload, 1), (258, .lsub, 1), (259, .lastore, 1), (260, .iinc 7 1, 3), (263, .goto (-28), 3)]),
  (266, [(266, .aload_n 0, 1), (267, .getfield 157, 3), (270, .invokestatic 244, 3), (273, .iinc 6 1, 3), (276, .goto (-65), 3)]),
  (279, [(279, .aload_n 0, 1), (280, .iconst 1, 1), (281, .putfield 256, 3), (284, .iconst 0, 1), (285, .istore 7, 2)]),
  (287, [(287, .iload 7, 2), (289, .sipush 180, 3), (292, .if_icmp .ge 37, 3), (295, .aload_n 0, 1), (296, .aload_n 0, 1), (297, .getfield 256, 3), (300, .ifCond .eq 19, 3), (303, .aload_n 0, 1), (304, .getfield 157, 3), (307, .iload 7, 2), (309, .laload, 1), (310, .lconst 0, 1), (311, .lcmp, 1), (312, .ifCond .ne 7, 3), (315, .iconst 1, 1), (316, .goto 4, 3)]),
  (319, [(319, .iconst 0, 1)]),
  (320, [(320, .putfield 256, 3), (323, .iinc 7 1, 3), (326, .goto (-39), 3)]),
  (329, [(329, .iload 6, 2), (331, .ireturn, 1)])]
def T_X12_whole (tb : Nat → Option (Nat × Nat)) : List (Nat × IV) := [(962, ivS 0 0 2 0 0 0 (w_X12_times tb)), (978, ivS 0 0 1 0 0 0 (w_X12_carry tb)), (994, ivS 0 0 2 0 0 1 (w_X12_isLess tb)), (1008, ivV tb 12 0 0 0 0 0 1 (w_X12_isAlike tb))]
def M_X12_whole (tb : Nat → Option (Nat × Nat)) : MT := (tb, FX12, StX12, CX12, NwX12, ivOf (T_X12_whole tb), 0, 0, 1)
def r_X12_whole (tb : Nat → Option (Nat × Nat)) (K : Option AV → AX → Prop) (KX : String → AX → Prop) : PT := lfp (wpm (M_X12_whole tb) B_X12_whole K (fun _ _ _ E X _ _ => KX E X))
def w_X12_whole (tb : Nat → Option (Nat × Nat)) : WP := fun as X K KX => gd ((ini0 as).length ≤ 8) (r_X12_whole tb K KX 0 (iniL as 8) [] X 0 0)
theorem k_X12_whole : B_X12_whole.all (blkB FX12 CX12 NwX12 RX12 false cX12_whole) = true := by decide +kernel
theorem g_X12_whole : gw (.code yX12_whole cX12_whole 8 (some .int)) = true ∧ gw (.initialized yX12_whole.cls) = true := by decide +kernel
theorem c_X12_whole {l : Launch} {G : GX} (hl : l.stackTraces = false) : ∀ as X K KX, w_X12_whole (gT G) as X K KX → CT l G yX12_whole (.code yX12_whole cX12_whole 8 (some .int)) 2 44 0 0 as X K KX := fun as X K KX h => CT_of (M := M_X12_whole (gT G)) (own := RX12) (ini := false) (T := T_X12_whole (gT G)) (B := B_X12_whole) (by decide +kernel) hl rfl (fun h => absurd h (by decide)) rfl tab_X12 k_X12_whole rfl (Or.inl rfl) rfl
  ⟨ivS_ok (c_X12_times hl) g_X12_times.1 g_X12_times.2 ml_X12_240 st_X12_times py_X12_times rfl, ivS_ok (c_X12_carry hl) g_X12_carry.1 g_X12_carry.2 ml_X12_244 st_X12_carry py_X12_carry rfl, ivS_ok (c_X12_isLess hl) g_X12_isLess.1 g_X12_isLess.2 ml_X12_248 st_X12_isLess py_X12_isLess rfl, ivV_ok (ci := 12) (c_X12_isAlike hl) g_X12_isAlike.1 g_X12_isAlike.2 ml_X12_252 in_X12_isAlike py_X12_isAlike rfl se_X12_isAlike, trivial⟩ (gd_use h).1 (gd_use h).2
theorem py_X12_collect : plainY yX12_collect 1 = true := by decide +kernel
theorem in_X12_collect : gw (.instanceMethod yX12_collect) = true := by decide +kernel
theorem se_X12_collect : gw (.selects RX12 yX12_collect yX12_collect) = true := by decide +kernel
theorem ml_X12_261 : gw (.methodLink RX12 261 yX12_collect) = true := by decide +kernel
theorem py_X12_whole : plainY yX12_whole 1 = true := by decide +kernel
theorem in_X12_whole : gw (.instanceMethod yX12_whole) = true := by decide +kernel
theorem se_X12_whole : gw (.selects RX12 yX12_whole yX12_whole) = true := by decide +kernel
theorem ml_X12_265 : gw (.methodLink RX12 265 yX12_whole) = true := by decide +kernel
def B_X12_more : List (Nat × List (Nat × Instr × Nat)) := [(0, [(0, .iconst 0, 1), (1, .istore 6, 2)]),
  (3, [(3, .iload 6, 2), (5, .aload_n 0, 1), (6, .getfield 108, 3), (9, .iload_n 1, 1), (10, .iaload, 1), (11, .if_icmp .ge 27, 3), (14, .aload_n 0, 1), (15, .getfield 148, 3), (18, .bipush 80, 2), (20, .iload_n 1, 1), (21, .imul, 1), (22, .iload 6, 2), (24, .iadd, 1), (25, .laload, 1), (26, .lload 4, 2), (28, .lcmp, 1), (29, .ifCond .eq 9, 3), (32, .iinc 6 1, 3), (35, .goto (-32), 3)]),
  (38, [(38, .iload 6, 2), (40, .aload_n 0, 1), (41, .getfield 108, 3), (44, .iload_n 1, 1), (45, .iaload, 1), (46, .if_icmp .ne 40, 3), (49, .aload_n 0, 1), (50, .getfield 108, 3), (53, .iload_n 1, 1), (54, .dup2, 1), (55, .iaload, 1), (56, .iconst 1, 1), (57, .iadd, 1), (58, .iastore, 1), (59, .aload_n 0, 1), (60, .getfield 145, 3), (63, .bipush 80, 2), (65, .iload_n 1, 1), (66, .imul, 1), (67, .iload 6, 2), (69, .iadd, 1), (70, .lconst 0, 1), (71, .lastore, 1), (72, .aload_n 0, 1), (73, .getfield 148, 3), (76, .bipush 80, 2), (78, .iload_n 1, 1), (79, .imul, 1), (80, .iload 6, 2), (82, .iadd, 1), (83, .lload 4, 2), (85, .lastore, 1)]),
  (86, [(86, .aload_n 0, 1), (87, .getfield 145, 3), (90, .bipush 80, 2), (92, .iload_n 1, 1), (93, .imul, 1), (94, .iload 6, 2), (96, .iadd, 1), (97, .laload, 1), (98, .lload_n 2, 1), (99, .ladd, 1), (100, .lstore 7, 2), (102, .aload_n 0, 1), (103, .getfield 145, 3), (106, .bipush 80, 2), (108, .iload_n 1, 1), (109, .imul, 1), (110, .iload 6, 2), (112, .iadd, 1), (113, .lload 7, 2), (115, .lload 4, 2), (117, .lrem, 1), (118, .lastore, 1), (119, .aload_n 0, 1), (120, .iconst 0, 1), (121, .putfield 235, 3), (124, .aload_n 0, 1), (125, .iload_n 1, 1), (126, .invokevirtual 261, 3), (129, .aload_n 0, 1), (130, .getfield 105, 3), (133, .iload_n 1, 1), (134, .iaload, 1), (135, .istore 9, 2), (137, .aload_n 0, 1), (138, .getfield 105, 3), (141, .iload_n 1, 1), (142, .aload_n 0, 1), (143, .iconst 0, 1), (144, .invokevirtual 265, 3), (147, .iastore, 1), (148, .lload 7, 2), (150, .lload 4, 2), (152, .ldiv, 1), (153, .l2i, 1), (154, .aload_n 0, 1), (155, .getfield 105, 3), (158, .iload_n 1, 1), (159, .iaload, 1), (160, .iadd, 1), (161, .iload 9, 2), (163, .isub, 1), (164, .ireturn, 1)])]
def T_X12_more (tb : Nat → Option (Nat × Nat)) : List (Nat × IV) := [(1044, ivV tb 12 0 0 1 0 0 0 (w_X12_collect tb)), (1060, ivV tb 12 0 0 1 0 0 1 (w_X12_whole tb))]
def M_X12_more (tb : Nat → Option (Nat × Nat)) : MT := (tb, FX12, StX12, CX12, NwX12, ivOf (T_X12_more tb), 0, 0, 1)
def r_X12_more (tb : Nat → Option (Nat × Nat)) (K : Option AV → AX → Prop) (KX : String → AX → Prop) : PT := lfp (wpm (M_X12_more tb) B_X12_more K (fun _ _ _ E X _ _ => KX E X))
def w_X12_more (tb : Nat → Option (Nat × Nat)) : WP := fun as X K KX => gd ((ini0 as).length ≤ 10) (r_X12_more tb K KX 0 (iniL as 10) [] X 0 0)
theorem k_X12_more : B_X12_more.all (blkB FX12 CX12 NwX12 RX12 false cX12_more) = true := by decide +kernel
theorem g_X12_more : gw (.code yX12_more cX12_more 10 (some .int)) = true ∧ gw (.initialized yX12_more.cls) = true := by decide +kernel
theorem c_X12_more {l : Launch} {G : GX} (hl : l.stackTraces = false) : ∀ as X K KX, w_X12_more (gT G) as X K KX → CT l G yX12_more (.code yX12_more cX12_more 10 (some .int)) 3 71 0 0 as X K KX := fun as X K KX h => CT_of (M := M_X12_more (gT G)) (own := RX12) (ini := false) (T := T_X12_more (gT G)) (B := B_X12_more) (by decide +kernel) hl rfl (fun h => absurd h (by decide)) rfl tab_X12 k_X12_more rfl (Or.inl rfl) rfl
  ⟨ivV_ok (ci := 12) (c_X12_collect hl) g_X12_collect.1 g_X12_collect.2 ml_X12_261 in_X12_collect py_X12_collect rfl se_X12_collect, ivV_ok (ci := 12) (c_X12_whole hl) g_X12_whole.1 g_X12_whole.2 ml_X12_265 in_X12_whole py_X12_whole rfl se_X12_whole, trivial⟩ (gd_use h).1 (gd_use h).2
theorem py_X12_minuteOf : plainY yX12_minuteOf 1 = true := by decide +kernel
theorem in_X12_minuteOf : gw (.instanceMethod yX12_minuteOf) = true := by decide +kernel
theorem se_X12_minuteOf : gw (.selects RX12 yX12_minuteOf yX12_minuteOf) = true := by decide +kernel
theorem ml_X12_273 : gw (.methodLink RX12 273 yX12_minuteOf) = true := by decide +kernel
theorem py_X12_isNight : plainY yX12_isNight 2 = true := by decide +kernel
theorem in_X12_isNight : gw (.instanceMethod yX12_isNight) = true := by decide +kernel
theorem se_X12_isNight : gw (.selects RX12 yX12_isNight yX12_isNight) = true := by decide +kernel
theorem ml_X12_276 : gw (.methodLink RX12 276 yX12_isNight) = true := by decide +kernel
theorem py_X12_more : plainY yX12_more 3 = true := by decide +kernel
theorem in_X12_more : gw (.instanceMethod yX12_more) = true := by decide +kernel
theorem se_X12_more : gw (.selects RX12 yX12_more yX12_more) = true := by decide +kernel
theorem ml_X12_279 : gw (.methodLink RX12 279 yX12_more) = true := by decide +kernel
def B_X12_passes : List (Nat × List (Nat × Instr × Nat)) := [(0, [(0, .aload_n 0, 1), (1, .getfield 81, 3), (4, .iload_n 1, 1), (5, .iaload, 1), (6, .istore 4, 2), (8, .aload_n 0, 1), (9, .getfield 23, 3), (12, .iload 4, 2), (14, .iaload, 1), (15, .istore 5, 2), (17, .aload_n 0, 1), (18, .iload 4, 2), (20, .iload 5, 2), (22, .iconst 1, 1), (23, .if_icmp .ne 22, 3), (26, .aload_n 0, 1), (27, .iload 4, 2), (29, .aload_n 0, 1), (30, .iload_n 1, 1), (31, .invokevirtual 273, 3), (34, .invokevirtual 276, 3), (37, .ifCond .eq 8, 3), (40, .bipush 8, 2), (42, .goto 4, 3)]),
  (45, [(45, .iconst 2, 1)]),
  (46, [(46, .invokevirtual 207, 3), (49, .istore 6, 2), (51, .iload 5, 2), (53, .iconst 2, 1), (54, .if_icmp .eq 9, 3), (57, .iload 5, 2), (59, .iconst 3, 1), (60, .if_icmp .ne 42, 3)]),
  (63, [(63, .aload_n 0, 1), (64, .getfield 111, 3), (67, .iload_n 1, 1), (68, .laload, 1), (69, .aload_n 0, 1), (70, .getfield 84, 3), (73, .iload_n 1, 1), (74, .iaload, 1), (75, .i2l, 1), (76, .lmul, 1), (77, .aload_n 0, 1), (78, .iload 4, 2), (80, .bipush 9, 2), (82, .invokevirtual 207, 3), (85, .i2l, 1), (86, .aload_n 0, 1), (87, .getfield 87, 3), (90, .iload_n 1, 1), (91, .iaload, 1), (92, .i2l, 1), (93, .lmul, 1), (94, .lcmp, 1), (95, .ifCond .le 7, 3), (98, .iconst 1, 1), (99, .goto 4, 3)]),
  (102, [(102, .iconst 0, 1)]),
  (103, [(103, .istore 7, 2), (105, .aload_n 0, 1), (106, .iload 4, 2), (108, .iload 7, 2), (110, .ifCond .eq 8, 3), (113, .bipush 10, 2), (115, .goto 4, 3)]),
  (118, [(118, .iconst 3, 1)]),
  (119, [(119, .invokevirtual 207, 3), (122, .i2l, 1), (123, .lstore 8, 2), (125, .lload_n 2, 1), (126, .aload_n 0, 1), (127, .getfield 84, 3), (130, .iload_n 1, 1), (131, .iaload, 1), (132, .i2l, 1), (133, .lmul, 1), (134, .lstore 10, 2), (136, .lload 10, 2), (138, .aload_n 0, 1), (139, .iload 4, 2), (141, .iconst 5, 1), (142, .invokevirtual 207, 3), (145, .i2l, 1), (146, .aload_n 0, 1), (147, .getfield 87, 3), (150, .iload_n 1, 1), (151, .iaload, 1), (152, .i2l, 1), (153, .lmul, 1), (154, .lcmp, 1), (155, .ifCond .le 7, 3), (158, .iconst 1, 1), (159, .goto 4, 3)]),
  (162, [(162, .iconst 0, 1)]),
  (163, [(163, .istore 12, 2), (165, .iload 12, 2), (167, .ifCond .eq 23, 3), (170, .aload_n 0, 1), (171, .iload_n 1, 1), (172, .lload 10, 2), (174, .lload 8, 2), (176, .aload_n 0, 1), (177, .getfield 87, 3), (180, .iload_n 1, 1), (181, .iaload, 1), (182, .i2l, 1), (183, .lmul, 1), (184, .invokevirtual 279, 3), (187, .goto 17, 3)]),
  (190, [(190, .aload_n 0, 1), (191, .iload_n 1, 1), (192, .lconst 1, 1), (193, .aload_n 0, 1), (194, .iload 4, 2), (196, .iconst 4, 1), (197, .invokevirtual 207, 3), (200, .i2l, 1), (201, .invokevirtual 279, 3)]),
  (204, [(204, .istore 13, 2), (206, .aload_n 0, 1), (207, .getfield 111, 3), (210, .iload_n 1, 1), (211, .dup2, 1), (212, .laload, 1), (213, .lload_n 2, 1), (214, .ladd, 1), (215, .lastore, 1), (216, .aload_n 0, 1), (217, .getfield 66, 3), (220, .iload_n 1, 1), (221, .dup2, 1), (222, .iaload, 1), (223, .iconst 1, 1), (224, .iadd, 1), (225, .iastore, 1), (226, .aload_n 0, 1), (227, .getfield 90, 3), (230, .iload_n 1, 1), (231, .dup2, 1), (232, .iaload, 1), (233, .iload 13, 2), (235, .iadd, 1), (236, .iastore, 1), (237, .iload 13, 2), (239, .aload_n 0, 1), (240, .getfield 93, 3), (243, .iload_n 1, 1), (244, .iaload, 1), (245, .if_icmp .ge 8, 3), (248, .iload 13, 2), (250, .goto 9, 3)]),
  (253, [(253, .aload_n 0, 1), (254, .getfield 93, 3), (257, .iload_n 1, 1), (258, .iaload, 1)]),
  (259, [(259, .istore 14, 2), (261, .aload_n 0, 1), (262, .getfield 93, 3), (265, .iload_n 1, 1), (266, .dup2, 1), (267, .iaload, 1), (268, .iload 14, 2), (270, .isub, 1), (271, .iastore, 1), (272, .aload_n 0, 1), (273, .getfield 115, 3), (276, .iload_n 1, 1), (277, .dup2, 1), (278, .laload, 1), (279, .iload 13, 2), (281, .iload 14, 2), (283, .isub, 1), (284, .i2l, 1), (285, .iload 6, 2), (287, .i2l, 1), (288, .lmul, 1), (289, .ladd, 1), (290, .lastore, 1), (291, .iload 13, 2), (293, .ireturn, 1)])]
def T_X12_passes (tb : Nat → Option (Nat × Nat)) : List (Nat × IV) := [(1092, ivV tb 12 0 0 1 0 0 1 (w_X12_minuteOf tb)), (1104, ivV tb 12 0 0 2 0 0 1 (w_X12_isNight tb)), (828, ivV tb 12 0 0 2 0 0 1 (w_X12_numberOf tb)), (1116, ivV tb 12 0 0 3 0 0 1 (w_X12_more tb))]
def M_X12_passes (tb : Nat → Option (Nat × Nat)) : MT := (tb, FX12, StX12, CX12, NwX12, ivOf (T_X12_passes tb), 0, 0, 1)
def r_X12_passes (tb : Nat → Option (Nat × Nat)) (K : Option AV → AX → Prop) (KX : String → AX → Prop) : PT := lfp (wpm (M_X12_passes tb) B_X12_passes K (fun _ _ _ E X _ _ => KX E X))
def w_X12_passes (tb : Nat → Option (Nat × Nat)) : WP := fun as X K KX => gd ((ini0 as).length ≤ 15) (r_X12_passes tb K KX 0 (iniL as 15) [] X 0 0)
theorem k_X12_passes : B_X12_passes.all (blkB FX12 CX12 NwX12 RX12 false cX12_passes) = true := by decide +kernel
theorem g_X12_passes : gw (.code yX12_passes cX12_passes 15 (some .int)) = true ∧ gw (.initialized yX12_passes.cls) = true := by decide +kernel
theorem c_X12_passes {l : Launch} {G : GX} (hl : l.stackTraces = false) : ∀ as X K KX, w_X12_passes (gT G) as X K KX → CT l G yX12_passes (.code yX12_passes cX12_passes 15 (some .int)) 4 100 0 0 as X K KX := fun as X K KX h => CT_of (M := M_X12_passes (gT G)) (own := RX12) (ini := false) (T := T_X12_passes (gT G)) (B := B_X12_passes) (by decide +kernel) hl rfl (fun h => absurd h (by decide)) rfl tab_X12 k_X12_passes rfl (Or.inl rfl) rfl
  ⟨ivV_ok (ci := 12) (c_X12_minuteOf hl) g_X12_minuteOf.1 g_X12_minuteOf.2 ml_X12_273 in_X12_minuteOf py_X12_minuteOf rfl se_X12_minuteOf, ivV_ok (ci := 12) (c_X12_isNight hl) g_X12_isNight.1 g_X12_isNight.2 ml_X12_276 in_X12_isNight py_X12_isNight rfl se_X12_isNight, ivV_ok (ci := 12) (c_X12_numberOf hl) g_X12_numberOf.1 g_X12_numberOf.2 ml_X12_207 in_X12_numberOf py_X12_numberOf rfl se_X12_numberOf, ivV_ok (ci := 12) (c_X12_more hl) g_X12_more.1 g_X12_more.2 ml_X12_279 in_X12_more py_X12_more rfl se_X12_more, trivial⟩ (gd_use h).1 (gd_use h).2
