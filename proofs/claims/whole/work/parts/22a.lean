theorem oi_X12_1 : gw (.methodLink RX12 1 objectInit) = true := by decide +kernel
def B_X12_init : List (Nat × List (Nat × Instr × Nat)) := [(0, [(0, .aload_n 0, 1), (1, .invokespecial 1, 3), (4, .aload_n 0, 1), (5, .sipush 2000, 3), (8, .putfield 7, 3), (11, .aload_n 0, 1), (12, .iconst 4, 1), (13, .putfield 13, 3), (16, .aload_n 0, 1), (17, .bipush 64, 2), (19, .newarray .int, 2), (21, .putfield 16, 3), (24, .aload_n 0, 1), (25, .sipush 3840, 3), (28, .newarray .int, 2), (30, .putfield 20, 3), (33, .aload_n 0, 1), (34, .bipush 12, 2), (36, .newarray .int, 2), (38, .putfield 23, 3), (41, .aload_n 0, 1), (42, .sipush 180, 3), (45, .newarray .int, 2), (47, .putfield 26, 3), (50, .aload_n 0, 1), (51, .bipush 12, 2), (53, .newarray .int, 2), (55, .putfield 29, 3), (58, .aload_n 0, 1), (59, .bipush 12, 2), (61, .newarray .int, 2), (63, .putfield 32, 3), (66, .aload_n 0, 1), (67, .bipush 40, 2), (69, .newarray .boolean, 2), (71, .putfield 35, 3), (74, .aload_n 0, 1), (75, .bipush 40, 2), (77, .newarray .int, 2), (79, .putfield 39, 3), (82, .aload_n 0, 1), (83, .sipush 4000, 3), (86, .newarray .int, 2), (88, .putfield 42, 3), (91, .aload_n 0, 1), (92, .sipush 4000, 3), (95, .newarray .int, 2), (97, .putfield 45, 3), (100, .aload_n 0, 1), (101, .sipush 4000, 3), (104, .newarray .int, 2), (106, .putfield 48, 3), (109, .aload_n 0, 1), (110, .sipush 4000, 3), (113, .newarray .boolean, 2), (115, .putfield 51, 3), (118, .aload_n 0, 1), (119, .sipush 4000, 3), (122, .newarray .boolean, 2), (124, .putfield 54, 3), (127, .aload_n 0, 1), (128, .bipush 20, 2), (130, .newarray .int, 2), (132, .putfield 57, 3), (135, .aload_n 0, 1), (136, .bipush 20, 2), (138, .newarray .int, 2), (140, .putfield 60, 3), (143, .aload_n 0, 1), (144, .iconst 5, 1), (145, .newarray .int, 2), (147, .putfield 63, 3), (150, .aload_n 0, 1), (151, .iconst 5, 1), (152, .newarray .int, 2), (154, .putfield 66, 3), (157, .aload_n 0, 1), (158, .iconst 5, 1), (159, .newarray .int, 2), (161, .putfield 69, 3), (164, .aload_n 0, 1), (165, .iconst 5, 1), (166, .newarray .int, 2), (168, .putfield 72, 3), (171, .aload_n 0, 1), (172, .iconst 5, 1), (173, .newarray .int, 2), (175, .putfield 75, 3), (178, .aload_n 0, 1), (179, .iconst 5, 1), (180, .newarray .int, 2), (182, .putfield 78, 3), (185, .aload_n 0, 1), (186, .iconst 5, 1), (187, .newarray .int, 2), (189, .putfield 81, 3), (192, .aload_n 0, 1), (193, .iconst 5, 1), (194, .newarray .int, 2), (196, .putfield 84, 3), (199, .aload_n 0, 1), (200, .iconst 5, 1), (201, .newarray .int, 2), (203, .putfield 87, 3), (206, .aload_n 0, 1), (207, .iconst 5, 1), (208, .newarray .int, 2), (210, .putfield 90, 3), (213, .aload_n 0, 1), (214, .iconst 5, 1), (215, .newarray .int, 2), (217, .putfield 93, 3), (220, .aload_n 0, 1), (221, .iconst 5, 1), (222, .newarray .int, 2), (224, .putfield 96, 3), (227, .aload_n 0, 1), (228, .iconst 5, 1), (229, .newarray .int, 2), (231, .putfield 99, 3), (234, .aload_n 0, 1), (235, .iconst 5, 1), (236, .newarray .int, 2), (238, .putfield 102, 3), (241, .aload_n 0, 1), (242, .iconst 5, 1), (243, .newarray .int, 2), (245, .putfield 105, 3), (248, .aload_n 0, 1), (249, .iconst 5, 1), (250, .newarray .int, 2), (252, .putfield 108, 3), (255, .aload_n 0, 1), (256, .iconst 5, 1), (257, .newarray .long, 2), (259, .putfield 111, 3), (262, .aload_n 0, 1), (263, .iconst 5, 1), (264, .newarray .long, 2), (266, .putfield 115, 3), (269, .aload_n 0, 1), (270, .iconst 5, 1), (271, .newarray .long, 2), (273, .putfield 118, 3), (276, .aload_n 0, 1), (277, .iconst 5, 1), (278, .newarray .long, 2), (280, .putfield 121, 3), (283, .aload_n 0, 1), (284, .iconst 5, 1), (285, .newarray .boolean, 2), (287, .putfield 124, 3), (290, .aload_n 0, 1), (291, .iconst 5, 1), (292, .newarray .boolean, 2), (294, .putfield 127, 3), (297, .aload_n 0, 1), (298, .iconst 5, 1), (299, .newarray .boolean, 2), (301, .putfield 130, 3), (304, .aload_n 0, 1), (305, .bipush 60, 2), (307, .newarray .boolean, 2), (309, .putfield 133, 3), (312, .aload_n 0, 1), (313, .sipush 19200, 3), (316, .newarray .int, 2), (318, .putfield 136, 3), (321, .aload_n 0, 1), (322, .sipush 250, 3), (325, .newarray .int, 2), (327, .putfield 139, 3), (330, .aload_n 0, 1), (331, .sipush 250, 3), (334, .newarray .int, 2), (336, .putfield 142, 3), (339, .aload_n 0, 1), (340, .sipush 400, 3), (343, .newarray .long, 2), (345, .putfield 145, 3), (348, .aload_n 0, 1), (349, .sipush 400, 3), (352, .newarray .long, 2), (354, .putfield 148, 3), (357, .aload_n 0, 1), (358, .sipush 170, 3), (361, .newarray .long, 2), (363, .putfield 151, 3), (366, .aload_n 0, 1), (367, .sipush 170, 3), (370, .newarray .long, 2), (372, .putfield 154, 3), (375, .aload_n 0, 1), (376, .sipush 180, 3), (379, .newarray .long, 2), (381, .putfield 157, 3), (384, .aload_n 0, 1), (385, .sipush 180, 3), (388, .newarray .long, 2), (390, .putfield 160, 3), (393, .iconst 0, 1), (394, .istore_n 1, 1)]),
  (395, [(395, .iload_n 1, 1), (396, .bipush 64, 2), (398, .if_icmp .ge 16, 3), (401, .aload_n 0, 1), (402, .getfield 16, 3), (405, .iload_n 1, 1), (406, .iconst (-1), 1), (407, .iastore, 1), (408, .iinc 1 1, 3), (411, .goto (-16), 3)]),
  (414, [(414, .return_, 1)])]
def T_X12_init (tb : Nat → Option (Nat × Nat)) : List (Nat × IV) := [(5, ivO)]
def M_X12_init (tb : Nat → Option (Nat × Nat)) : MT := (tb, FX12i, StX12, CX12, NwX12, ivOf (T_X12_init tb), 48, 45615, 5)
def r_X12_init (tb : Nat → Option (Nat × Nat)) (K : Option AV → AX → Prop) (KX : String → AX → Prop) : PT := lfp (wpm (M_X12_init tb) B_X12_init K (fun _ _ _ E X _ _ => KX E X))
def w_X12_init (tb : Nat → Option (Nat × Nat)) : WP := fun as X K KX => gd ((ini0 as).length ≤ 2) (r_X12_init tb K KX 0 (iniL as 2) [] X 0 0)
theorem k_X12_init : B_X12_init.all (blkB FX12i CX12 NwX12 RX12 true cX12_init) = true := by decide +kernel
theorem g_X12_init : gw (.code yX12_init cX12_init 2 none) = true ∧ gw (.initialized yX12_init.cls) = true := by decide +kernel
theorem c_X12_init {l : Launch} {G : GX} (hl : l.stackTraces = false) : ∀ as X K KX, w_X12_init (gT G) as X K KX → CT l G yX12_init (.code yX12_init cX12_init 2 none) 1 20 48 45615 as X K KX := fun as X K KX h => CT_of (M := M_X12_init (gT G)) (own := RX12) (ini := true) (T := T_X12_init (gT G)) (B := B_X12_init) (by decide +kernel) hl rfl (fun h => rfl) rfl tab_X12i k_X12_init rfl (Or.inl rfl) rfl
  ⟨ivO_ok oi_X12_1 rfl, trivial⟩ (gd_use h).1 (gd_use h).2
def B_X12_right : List (Nat × List (Nat × Instr × Nat)) := [(0, [(0, .aload_n 0, 1), (1, .getfield 163, 3), (4, .ifCond .ne 12, 3), (7, .iload_n 1, 1), (8, .ifCond .ne 8, 3), (11, .aload_n 0, 1), (12, .iload_n 2, 1), (13, .putfield 163, 3)]),
  (16, [(16, .aload_n 0, 1), (17, .getfield 163, 3), (20, .ifCond .ne 7, 3), (23, .iconst 1, 1), (24, .goto 4, 3)]),
  (27, [(27, .iconst 0, 1)]),
  (28, [(28, .ireturn, 1)])]
def T_X12_right (tb : Nat → Option (Nat × Nat)) : List (Nat × IV) := []
def M_X12_right (tb : Nat → Option (Nat × Nat)) : MT := (tb, FX12, StX12, CX12, NwX12, ivOf (T_X12_right tb), 0, 0, 2)
def r_X12_right (tb : Nat → Option (Nat × Nat)) (K : Option AV → AX → Prop) (KX : String → AX → Prop) : PT := lfp (wpm (M_X12_right tb) B_X12_right K (fun _ _ _ E X _ _ => KX E X))
def w_X12_right (tb : Nat → Option (Nat × Nat)) : WP := fun as X K KX => gd ((ini0 as).length ≤ 3) (r_X12_right tb K KX 0 (iniL as 3) [] X 0 0)
theorem k_X12_right : B_X12_right.all (blkB FX12 CX12 NwX12 RX12 false cX12_right) = true := by decide +kernel
theorem g_X12_right : gw (.code yX12_right cX12_right 3 (some .boolean)) = true ∧ gw (.initialized yX12_right.cls) = true := by decide +kernel
theorem c_X12_right {l : Launch} {G : GX} (hl : l.stackTraces = false) : ∀ as X K KX, w_X12_right (gT G) as X K KX → CT l G yX12_right (.code yX12_right cX12_right 3 (some .boolean)) 0 0 0 0 as X K KX := fun as X K KX h => CT_of (M := M_X12_right (gT G)) (own := RX12) (ini := false) (T := T_X12_right (gT G)) (B := B_X12_right) (by decide +kernel) hl rfl (fun h => absurd h (by decide)) rfl tab_X12 k_X12_right rfl (Or.inl rfl) rfl
  trivial (gd_use h).1 (gd_use h).2
theorem py_X12_right : plainY yX12_right 2 = true := by decide +kernel
theorem in_X12_right : gw (.instanceMethod yX12_right) = true := by decide +kernel
theorem se_X12_right : gw (.selects RX12 yX12_right yX12_right) = true := by decide +kernel
theorem ml_X12_170 : gw (.methodLink RX12 170 yX12_right) = true := by decide +kernel
def B_X12_wheel : List (Nat × List (Nat × Instr × Nat)) := [(0, [(0, .aload_n 0, 1), (1, .iconst 0, 1), (2, .putfield 163, 3), (5, .aload_n 0, 1), (6, .aload_n 0, 1), (7, .getfield 166, 3), (10, .ifCond .ne 7, 3), (13, .iconst 1, 1), (14, .goto 4, 3)]),
  (17, [(17, .iconst 0, 1)]),
  (18, [(18, .iconst 1, 1), (19, .invokevirtual 170, 3), (22, .ifCond .ne 5, 3), (25, .iconst 0, 1), (26, .ireturn, 1)]),
  (27, [(27, .aload_n 0, 1), (28, .iload_n 2, 1), (29, .ifCond .lt 31, 3), (32, .iload_n 2, 1), (33, .bipush 20, 2), (35, .if_icmp .gt 25, 3), (38, .iload_n 3, 1), (39, .iconst 1, 1), (40, .if_icmp .lt 20, 3), (43, .iload_n 3, 1), (44, .sipush 200, 3), (47, .if_icmp .gt 13, 3), (50, .iload_n 1, 1), (51, .ldc 176, 2), (53, .if_icmp .eq 7, 3), (56, .iconst 1, 1), (57, .goto 4, 3)]),
  (60, [(60, .iconst 0, 1)]),
  (61, [(61, .iconst 2, 1), (62, .invokevirtual 170, 3), (65, .ifCond .ne 5, 3), (68, .iconst 0, 1), (69, .ireturn, 1)]),
  (70, [(70, .iload_n 1, 1), (71, .i2f, 1), (72, .iconst 1, 1), (73, .iload_n 2, 1), (74, .ishl, 1), (75, .i2f, 1), (76, .fdiv, 1), (77, .ldc 177, 2), (79, .fmul, 1), (80, .f2i, 1), (81, .istore 4, 2), (83, .aload_n 0, 1), (84, .iload 4, 2), (86, .bipush 100, 2), (88, .if_icmp .lt 15, 3), (91, .iload 4, 2), (93, .sipush 10000, 3), (96, .if_icmp .gt 7, 3), (99, .iconst 1, 1), (100, .goto 4, 3)]),
  (103, [(103, .iconst 0, 1)]),
  (104, [(104, .iconst 2, 1), (105, .invokevirtual 170, 3), (108, .ifCond .ne 5, 3), (111, .iconst 0, 1), (112, .ireturn, 1)]),
  (113, [(113, .aload_n 0, 1), (114, .iload 4, 2), (116, .putfield 7, 3), (119, .aload_n 0, 1), (120, .iload_n 3, 1), (121, .putfield 13, 3), (124, .iload 4, 2), (126, .ireturn, 1)])]
def T_X12_wheel (tb : Nat → Option (Nat × Nat)) : List (Nat × IV) := [(680, ivV tb 12 0 0 2 0 0 1 (w_X12_right tb))]
def M_X12_wheel (tb : Nat → Option (Nat × Nat)) : MT := (tb, FX12, StX12, CX12, NwX12, ivOf (T_X12_wheel tb), 0, 0, 1)
def r_X12_wheel (tb : Nat → Option (Nat × Nat)) (K : Option AV → AX → Prop) (KX : String → AX → Prop) : PT := lfp (wpm (M_X12_wheel tb) B_X12_wheel K (fun _ _ _ E X _ _ => KX E X))
def w_X12_wheel (tb : Nat → Option (Nat × Nat)) : WP := fun as X K KX => gd ((ini0 as).length ≤ 5) (r_X12_wheel tb K KX 0 (iniL as 5) [] X 0 0)
theorem k_X12_wheel : B_X12_wheel.all (blkB FX12 CX12 NwX12 RX12 false cX12_wheel) = true := by decide +kernel
theorem g_X12_wheel : gw (.code yX12_wheel cX12_wheel 5 (some .int)) = true ∧ gw (.initialized yX12_wheel.cls) = true := by decide +kernel
theorem c_X12_wheel {l : Launch} {G : GX} (hl : l.stackTraces = false) : ∀ as X K KX, w_X12_wheel (gT G) as X K KX → CT l G yX12_wheel (.code yX12_wheel cX12_wheel 5 (some .int)) 1 22 0 0 as X K KX := fun as X K KX h => CT_of (M := M_X12_wheel (gT G)) (own := RX12) (ini := false) (T := T_X12_wheel (gT G)) (B := B_X12_wheel) (by decide +kernel) hl rfl (fun h => absurd h (by decide)) rfl tab_X12 k_X12_wheel rfl (Or.inl rfl) rfl
  ⟨ivV_ok (ci := 12) (c_X12_right hl) g_X12_right.1 g_X12_right.2 ml_X12_170 in_X12_right py_X12_right rfl se_X12_right, trivial⟩ (gd_use h).1 (gd_use h).2
def B_X12_thrown : List (Nat × List (Nat × Instr × Nat)) := [(0, [(0, .aload_n 0, 1), (1, .getfield 163, 3), (4, .ireturn, 1)])]
def T_X12_thrown (tb : Nat → Option (Nat × Nat)) : List (Nat × IV) := []
def M_X12_thrown (tb : Nat → Option (Nat × Nat)) : MT := (tb, FX12, StX12, CX12, NwX12, ivOf (T_X12_thrown tb), 0, 0, 1)
def r_X12_thrown (tb : Nat → Option (Nat × Nat)) (K : Option AV → AX → Prop) (KX : String → AX → Prop) : PT := lfp (wpm (M_X12_thrown tb) B_X12_thrown K (fun _ _ _ E X _ _ => KX E X))
def w_X12_thrown (tb : Nat → Option (Nat × Nat)) : WP := fun as X K KX => gd ((ini0 as).length ≤ 1) (r_X12_thrown tb K KX 0 (iniL as 1) [] X 0 0)
theorem k_X12_thrown : B_X12_thrown.all (blkB FX12 CX12 NwX12 RX12 false cX12_thrown) = true := by decide +kernel
theorem g_X12_thrown : gw (.code yX12_thrown cX12_thrown 1 (some .int)) = true ∧ gw (.initialized yX12_thrown.cls) = true := by decide +kernel
theorem c_X12_thrown {l : Launch} {G : GX} (hl : l.stackTraces = false) : ∀ as X K KX, w_X12_thrown (gT G) as X K KX → CT l G yX12_thrown (.code yX12_thrown cX12_thrown 1 (some .int)) 0 0 0 0 as X K KX := fun as X K KX h => CT_of (M := M_X12_thrown (gT G)) (own := RX12) (ini := false) (T := T_X12_thrown (gT G)) (B := B_X12_thrown) (by decide +kernel) hl rfl (fun h => absurd h (by decide)) rfl tab_X12 k_X12_thrown rfl (Or.inl rfl) rfl
  trivial (gd_use h).1 (gd_use h).2
def B_X12_isRow : List (Nat × List (Nat × Instr × Nat)) := [(0, [(0, .aload_n 0, 1), (1, .iload_n 1, 1), (2, .ifCond .lt 13, 3), (5, .iload_n 1, 1), (6, .bipush 64, 2), (8, .if_icmp .ge 7, 3), (11, .iconst 1, 1), (12, .goto 4, 3)]),
  (15, [(15, .iconst 0, 1)]),
  (16, [(16, .iload_n 2, 1), (17, .invokevirtual 170, 3), (20, .ireturn, 1)])]
def T_X12_isRow (tb : Nat → Option (Nat × Nat)) : List (Nat × IV) := [(680, ivV tb 12 0 0 2 0 0 1 (w_X12_right tb))]
def M_X12_isRow (tb : Nat → Option (Nat × Nat)) : MT := (tb, FX12, StX12, CX12, NwX12, ivOf (T_X12_isRow tb), 0, 0, 2)
def r_X12_isRow (tb : Nat → Option (Nat × Nat)) (K : Option AV → AX → Prop) (KX : String → AX → Prop) : PT := lfp (wpm (M_X12_isRow tb) B_X12_isRow K (fun _ _ _ E X _ _ => KX E X))
def w_X12_isRow (tb : Nat → Option (Nat × Nat)) : WP := fun as X K KX => gd ((ini0 as).length ≤ 3) (r_X12_isRow tb K KX 0 (iniL as 3) [] X 0 0)
theorem k_X12_isRow : B_X12_isRow.all (blkB FX12 CX12 NwX12 RX12 false cX12_isRow) = true := by decide +kernel
theorem g_X12_isRow : gw (.code yX12_isRow cX12_isRow 3 (some .boolean)) = true ∧ gw (.initialized yX12_isRow.cls) = true := by decide +kernel
theorem c_X12_isRow {l : Launch} {G : GX} (hl : l.stackTraces = false) : ∀ as X K KX, w_X12_isRow (gT G) as X K KX → CT l G yX12_isRow (.code yX12_isRow cX12_isRow 3 (some .boolean)) 1 22 0 0 as X K KX := fun as X K KX h => CT_of (M := M_X12_isRow (gT G)) (own := RX12) (ini := false) (T := T_X12_isRow (gT G)) (B := B_X12_isRow) (by decide +kernel) hl rfl (fun h => absurd h (by decide)) rfl tab_X12 k_X12_isRow rfl (Or.inl rfl) rfl
  ⟨ivV_ok (ci := 12) (c_X12_right hl) g_X12_right.1 g_X12_right.2 ml_X12_170 in_X12_right py_X12_right rfl se_X12_right, trivial⟩ (gd_use h).1 (gd_use h).2
theorem py_X12_isRow : plainY yX12_isRow 2 = true := by decide +kernel
theorem in_X12_isRow : gw (.instanceMethod yX12_isRow) = true := by decide +kernel
theorem se_X12_isRow : gw (.selects RX12 yX12_isRow yX12_isRow) = true := by decide +kernel
theorem ml_X12_178 : gw (.methodLink RX12 178 yX12_isRow) = true := by decide +kernel
def B_X12_row : List (Nat × List (Nat × Instr × Nat)) := [(0, [(0, .aload_n 0, 1), (1, .iconst 0, 1), (2, .putfield 163, 3), (5, .aload_n 0, 1), (6, .iload_n 1, 1), (7, .iconst 1, 1), (8, .invokevirtual 178, 3), (11, .ifCond .eq 26, 3), (14, .aload_n 0, 1), (15, .iload_n 2, 1), (16, .ifCond .lt 13, 3), (19, .iload_n 2, 1), (20, .bipush 60, 2), (22, .if_icmp .gt 7, 3), (25, .iconst 1, 1), (26, .goto 4, 3)]),
  (29, [(29, .iconst 0, 1)]),
  (30, [(30, .iconst 2, 1), (31, .invokevirtual 170, 3), (34, .ifCond .ne 5, 3)]),
  (37, [(37, .iconst 0, 1), (38, .ireturn, 1)]),
  (39, [(39, .aload_n 0, 1), (40, .getfield 16, 3), (43, .iload_n 1, 1), (44, .iaload, 1), (45, .iconst (-1), 1), (46, .if_icmp .ne 7, 3), (49, .iconst 1, 1), (50, .goto 4, 3)]),
  (53, [(53, .iconst 0, 1)]),
  (54, [(54, .istore_n 3, 1), (55, .aload_n 0, 1), (56, .getfield 16, 3), (59, .iload_n 1, 1), (60, .iload_n 2, 1), (61, .iastore, 1), (62, .iconst 0, 1), (63, .istore 4, 2)]),
  (65, [(65, .iload 4, 2), (67, .bipush 60, 2), (69, .if_icmp .ge 22, 3), (72, .aload_n 0, 1), (73, .getfield 20, 3), (76, .bipush 60, 2), (78, .iload_n 1, 1), (79, .imul, 1), (80, .iload 4, 2), (82, .iadd, 1), (83, .iconst 0, 1), (84, .iastore, 1), (85, .iinc 4 1, 3), (88, .goto (-23), 3)]),
  (91, [(91, .iload_n 3, 1), (92, .ireturn, 1)])]
def T_X12_row (tb : Nat → Option (Nat × Nat)) : List (Nat × IV) := [(712, ivV tb 12 0 0 2 0 0 1 (w_X12_isRow tb)), (680, ivV tb 12 0 0 2 0 0 1 (w_X12_right tb))]
def M_X12_row (tb : Nat → Option (Nat × Nat)) : MT := (tb, FX12, StX12, CX12, NwX12, ivOf (T_X12_row tb), 0, 0, 2)
def r_X12_row (tb : Nat → Option (Nat × Nat)) (K : Option AV → AX → Prop) (KX : String → AX → Prop) : PT := lfp (wpm (M_X12_row tb) B_X12_row K (fun _ _ _ E X _ _ => KX E X))
def w_X12_row (tb : Nat → Option (Nat × Nat)) : WP := fun as X K KX => gd ((ini0 as).length ≤ 5) (r_X12_row tb K KX 0 (iniL as 5) [] X 0 0)
theorem k_X12_row : B_X12_row.all (blkB FX12 CX12 NwX12 RX12 false cX12_row) = true := by decide +kernel
theorem g_X12_row : gw (.code yX12_row cX12_row 5 (some .boolean)) = true ∧ gw (.initialized yX12_row.cls) = true := by decide +kernel
theorem c_X12_row {l : Launch} {G : GX} (hl : l.stackTraces = false) : ∀ as X K KX, w_X12_row (gT G) as X K KX → CT l G yX12_row (.code yX12_row cX12_row 5 (some .boolean)) 2 44 0 0 as X K KX := fun as X K KX h => CT_of (M := M_X12_row (gT G)) (own := RX12) (ini := false) (T := T_X12_row (gT G)) (B := B_X12_row) (by decide +kernel) hl rfl (fun h => absurd h (by decide)) rfl tab_X12 k_X12_row rfl (Or.inl rfl) rfl
  ⟨ivV_ok (ci := 12) (c_X12_isRow hl) g_X12_isRow.1 g_X12_isRow.2 ml_X12_178 in_X12_isRow py_X12_isRow rfl se_X12_isRow, ivV_ok (ci := 12) (c_X12_right hl) g_X12_right.1 g_X12_right.2 ml_X12_170 in_X12_right py_X12_right rfl se_X12_right, trivial⟩ (gd_use h).1 (gd_use h).2
def B_X12_pulse : List (Nat × List (Nat × Instr × Nat)) := [(0, [(0, .aload_n 0, 1), (1, .iconst 0, 1), (2, .putfield 163, 3), (5, .aload_n 0, 1), (6, .iload_n 3, 1), (7, .ifCond .lt 14, 3), (10, .iload_n 3, 1), (11, .sipush 500, 3), (14, .if_icmp .gt 7, 3), (17, .iconst 1, 1), (18, .goto 4, 3)]),
  (21, [(21, .iconst 0, 1)]),
  (22, [(22, .iconst 1, 1), (23, .invokevirtual 170, 3), (26, .ifCond .eq 62, 3), (29, .aload_n 0, 1), (30, .iload_n 1, 1), (31, .iconst 2, 1), (32, .invokevirtual 178, 3), (35, .ifCond .eq 53, 3), (38, .aload_n 0, 1), (39, .aload_n 0, 1), (40, .getfield 16, 3), (43, .iload_n 1, 1), (44, .iaload, 1), (45, .iconst (-1), 1), (46, .if_icmp .eq 7, 3), (49, .iconst 1, 1), (50, .goto 4, 3)]),
  (53, [(53, .iconst 0, 1)]),
  (54, [(54, .iconst 3, 1), (55, .invokevirtual 170, 3), (58, .ifCond .eq 30, 3), (61, .aload_n 0, 1), (62, .iload_n 2, 1), (63, .ifCond .lt 17, 3), (66, .iload_n 2, 1), (67, .aload_n 0, 1), (68, .getfield 16, 3), (71, .iload_n 1, 1), (72, .iaload, 1), (73, .if_icmp .ge 7, 3), (76, .iconst 1, 1), (77, .goto 4, 3)]),
  (80, [(80, .iconst 0, 1)]),
  (81, [(81, .iconst 2, 1), (82, .invokevirtual 170, 3), (85, .ifCond .ne 5, 3)]),
  (88, [(88, .iconst 0, 1), (89, .ireturn, 1)]),
  (90, [(90, .aload_n 0, 1), (91, .getfield 20, 3), (94, .bipush 60, 2), (96, .iload_n 1, 1), (97, .imul, 1), (98, .iload_n 2, 1), (99, .iadd, 1), (100, .iaload, 1), (101, .istore 4, 2), (103, .aload_n 0, 1), (104, .getfield 20, 3), (107, .bipush 60, 2), (109, .iload_n 1, 1), (110, .imul, 1), (111, .iload_n 2, 1), (112, .iadd, 1), (113, .iload_n 3, 1), (114, .iastore, 1), (115, .iload 4, 2), (117, .ireturn, 1)])]
def T_X12_pulse (tb : Nat → Option (Nat × Nat)) : List (Nat × IV) := [(680, ivV tb 12 0 0 2 0 0 1 (w_X12_right tb)), (712, ivV tb 12 0 0 2 0 0 1 (w_X12_isRow tb))]
def M_X12_pulse (tb : Nat → Option (Nat × Nat)) : MT := (tb, FX12, StX12, CX12, NwX12, ivOf (T_X12_pulse tb), 0, 0, 1)
def r_X12_pulse (tb : Nat → Option (Nat × Nat)) (K : Option AV → AX → Prop) (KX : String → AX → Prop) : PT := lfp (wpm (M_X12_pulse tb) B_X12_pulse K (fun _ _ _ E X _ _ => KX E X))
def w_X12_pulse (tb : Nat → Option (Nat × Nat)) : WP := fun as X K KX => gd ((ini0 as).length ≤ 5) (r_X12_pulse tb K KX 0 (iniL as 5) [] X 0 0)
theorem k_X12_pulse : B_X12_pulse.all (blkB FX12 CX12 NwX12 RX12 false cX12_pulse) = true := by decide +kernel
theorem g_X12_pulse : gw (.code yX12_pulse cX12_pulse 5 (some .int)) = true ∧ gw (.initialized yX12_pulse.cls) = true := by decide +kernel
theorem c_X12_pulse {l : Launch} {G : GX} (hl : l.stackTraces = false) : ∀ as X K KX, w_X12_pulse (gT G) as X K KX → CT l G yX12_pulse (.code yX12_pulse cX12_pulse 5 (some .int)) 2 44 0 0 as X K KX := fun as X K KX h => CT_of (M := M_X12_pulse (gT G)) (own := RX12) (ini := false) (T := T_X12_pulse (gT G)) (B := B_X12_pulse) (by decide +kernel) hl rfl (fun h => absurd h (by decide)) rfl tab_X12 k_X12_pulse rfl (Or.inl rfl) rfl
  ⟨ivV_ok (ci := 12) (c_X12_right hl) g_X12_right.1 g_X12_right.2 ml_X12_170 in_X12_right py_X12_right rfl se_X12_right, ivV_ok (ci := 12) (c_X12_isRow hl) g_X12_isRow.1 g_X12_isRow.2 ml_X12_178 in_X12_isRow py_X12_isRow rfl se_X12_isRow, trivial⟩ (gd_use h).1 (gd_use h).2
def B_X12_tear : List (Nat × List (Nat × Instr × Nat)) := [(0, [(0, .aload_n 0, 1), (1, .iconst 0, 1), (2, .putfield 163, 3), (5, .aload_n 0, 1), (6, .iload_n 1, 1), (7, .iconst 1, 1), (8, .invokevirtual 178, 3), (11, .ifCond .eq 26, 3), (14, .aload_n 0, 1), (15, .aload_n 0, 1), (16, .getfield 16, 3), (19, .iload_n 1, 1), (20, .iaload, 1), (21, .iconst (-1), 1), (22, .if_icmp .eq 7, 3), (25, .iconst 1, 1), (26, .goto 4, 3)]),
  (29, [(29, .iconst 0, 1)]),
  (30, [(30, .iconst 2, 1), (31, .invokevirtual 170, 3), (34, .ifCond .ne 5, 3)]),
  (37, [(37, .iconst 0, 1), (38, .ireturn, 1)]),
  (39, [(39, .aload_n 0, 1), (40, .getfield 16, 3), (43, .iload_n 1, 1), (44, .iaload, 1), (45, .istore_n 3, 1), (46, .aload_n 0, 1), (47, .getfield 16, 3), (50, .iload_n 1, 1), (51, .iload_n 2, 1), (52, .ifCond .ge 7, 3), (55, .iconst (-1), 1), (56, .goto 13, 3)]),
  (59, [(59, .iload_n 2, 1), (60, .iload_n 3, 1), (61, .if_icmp .ge 7, 3), (64, .iload_n 2, 1), (65, .goto 4, 3)]),
  (68, [(68, .iload_n 3, 1)]),
  (69, [(69, .iastore, 1), (70, .iload_n 3, 1), (71, .ireturn, 1)])]
def T_X12_tear (tb : Nat → Option (Nat × Nat)) : List (Nat × IV) := [(712, ivV tb 12 0 0 2 0 0 1 (w_X12_isRow tb)), (680, ivV tb 12 0 0 2 0 0 1 (w_X12_right tb))]
def M_X12_tear (tb : Nat → Option (Nat × Nat)) : MT := (tb, FX12, StX12, CX12, NwX12, ivOf (T_X12_tear tb), 0, 0, 1)
def r_X12_tear (tb : Nat → Option (Nat × Nat)) (K : Option AV → AX → Prop) (KX : String → AX → Prop) : PT := lfp (wpm (M_X12_tear tb) B_X12_tear K (fun _ _ _ E X _ _ => KX E X))
def w_X12_tear (tb : Nat → Option (Nat × Nat)) : WP := fun as X K KX => gd ((ini0 as).length ≤ 4) (r_X12_tear tb K KX 0 (iniL as 4) [] X 0 0)
theorem k_X12_tear : B_X12_tear.all (blkB FX12 CX12 NwX12 RX12 false cX12_tear) = true := by decide +kernel
theorem g_X12_tear : gw (.code yX12_tear cX12_tear 4 (some .int)) = true ∧ gw (.initialized yX12_tear.cls) = true := by decide +kernel
theorem c_X12_tear {l : Launch} {G : GX} (hl : l.stackTraces = false) : ∀ as X K KX, w_X12_tear (gT G) as X K KX → CT l G yX12_tear (.code yX12_tear cX12_tear 4 (some .int)) 2 44 0 0 as X K KX := fun as X K KX h => CT_of (M := M_X12_tear (gT G)) (own := RX12) (ini := false) (T := T_X12_tear (gT G)) (B := B_X12_tear) (by decide +kernel) hl rfl (fun h => absurd h (by decide)) rfl tab_X12 k_X12_tear rfl (Or.inl rfl) rfl
  ⟨ivV_ok (ci := 12) (c_X12_isRow hl) g_X12_isRow.1 g_X12_isRow.2 ml_X12_178 in_X12_isRow py_X12_isRow rfl se_X12_isRow, ivV_ok (ci := 12) (c_X12_right hl) g_X12_right.1 g_X12_right.2 ml_X12_170 in_X12_right py_X12_right rfl se_X12_right, trivial⟩ (gd_use h).1 (gd_use h).2
def B_X12_told : List (Nat × List (Nat × Instr × Nat)) := [(0, [(0, .iload_n 2, 1), (1, .ifCond .lt 27, 3), (4, .iload_n 2, 1), (5, .aload_n 0, 1), (6, .getfield 16, 3), (9, .iload_n 1, 1), (10, .iaload, 1), (11, .if_icmp .ge 17, 3), (14, .aload_n 0, 1), (15, .getfield 20, 3), (18, .bipush 60, 2), (20, .iload_n 1, 1), (21, .imul, 1), (22, .iload_n 2, 1), (23, .iadd, 1), (24, .iaload, 1), (25, .goto 4, 3)]),
  (28, [(28, .iconst (-1), 1)]),
  (29, [(29, .ireturn, 1)])]
def T_X12_told (tb : Nat → Option (Nat × Nat)) : List (Nat × IV) := []
def M_X12_told (tb : Nat → Option (Nat × Nat)) : MT := (tb, FX12, StX12, CX12, NwX12, ivOf (T_X12_told tb), 0, 0, 1)
def r_X12_told (tb : Nat → Option (Nat × Nat)) (K : Option AV → AX → Prop) (KX : String → AX → Prop) : PT := lfp (wpm (M_X12_told tb) B_X12_told K (fun _ _ _ E X _ _ => KX E X))
def w_X12_told (tb : Nat → Option (Nat × Nat)) : WP := fun as X K KX => gd ((ini0 as).length ≤ 3) (r_X12_told tb K KX 0 (iniL as 3) [] X 0 0)
theorem k_X12_told : B_X12_told.all (blkB FX12 CX12 NwX12 RX12 false cX12_told) = true := by decide +kernel
theorem g_X12_told : gw (.code yX12_told cX12_told 3 (some .int)) = true ∧ gw (.initialized yX12_told.cls) = true := by decide +kernel
theorem c_X12_told {l : Launch} {G : GX} (hl : l.stackTraces = false) : ∀ as X K KX, w_X12_told (gT G) as X K KX → CT l G yX12_told (.code yX12_told cX12_told 3 (some .int)) 0 0 0 0 as X K KX := fun as X K KX h => CT_of (M := M_X12_told (gT G)) (own := RX12) (ini := false) (T := T_X12_told (gT G)) (B := B_X12_told) (by decide +kernel) hl rfl (fun h => absurd h (by decide)) rfl tab_X12 k_X12_told rfl (Or.inl rfl) rfl
  trivial (gd_use h).1 (gd_use h).2
theorem py_X12_told : plainY yX12_told 2 = true := by decide +kernel
theorem in_X12_told : gw (.instanceMethod yX12_told) = true := by decide +kernel
theorem se_X12_told : gw (.selects RX12 yX12_told yX12_told) = true := by decide +kernel
theorem ml_X12_182 : gw (.methodLink RX12 182 yX12_told) = true := by decide +kernel
def B_X12_pulses : List (Nat × List (Nat × Instr × Nat)) := [(0, [(0, .aload_n 0, 1), (1, .iconst 0, 1), (2, .putfield 163, 3), (5, .aload_n 0, 1), (6, .iload_n 1, 1), (7, .iconst 1, 1), (8, .invokevirtual 178, 3), (11, .ifCond .eq 12, 3), (14, .aload_n 0, 1), (15, .iload_n 1, 1), (16, .iload_n 2, 1), (17, .invokevirtual 182, 3), (20, .goto 4, 3)]),
  (23, [(23, .iconst 0, 1)]),
  (24, [(24, .ireturn, 1)])]
def T_X12_pulses (tb : Nat → Option (Nat × Nat)) : List (Nat × IV) := [(712, ivV tb 12 0 0 2 0 0 1 (w_X12_isRow tb)), (728, ivV tb 12 0 0 2 0 0 1 (w_X12_told tb))]
def M_X12_pulses (tb : Nat → Option (Nat × Nat)) : MT := (tb, FX12, StX12, CX12, NwX12, ivOf (T_X12_pulses tb), 0, 0, 1)
def r_X12_pulses (tb : Nat → Option (Nat × Nat)) (K : Option AV → AX → Prop) (KX : String → AX → Prop) : PT := lfp (wpm (M_X12_pulses tb) B_X12_pulses K (fun _ _ _ E X _ _ => KX E X))
def w_X12_pulses (tb : Nat → Option (Nat × Nat)) : WP := fun as X K KX => gd ((ini0 as).length ≤ 3) (r_X12_pulses tb K KX 0 (iniL as 3) [] X 0 0)
theorem k_X12_pulses : B_X12_pulses.all (blkB FX12 CX12 NwX12 RX12 false cX12_pulses) = true := by decide +kernel
theorem g_X12_pulses : gw (.code yX12_pulses cX12_pulses 3 (some .int)) = true ∧ gw (.initialized yX12_pulses.cls) = true := by decide +kernel
theorem c_X12_pulses {l : Launch} {G : GX} (hl : l.stackTraces = false) : ∀ as X K KX, w_X12_pulses (gT G) as X K KX → CT l G yX12_pulses (.code yX12_pulses cX12_pulses 3 (some .int)) 2 44 0 0 as X K KX := fun as X K KX h => CT_of (M := M_X12_pulses (gT G)) (own := RX12) (ini := false) (T := T_X12_pulses (gT G)) (B := B_X12_pulses) (by decide +kernel) hl rfl (fun h => absurd h (by decide)) rfl tab_X12 k_X12_pulses rfl (Or.inl rfl) rfl
  ⟨ivV_ok (ci := 12) (c_X12_isRow hl) g_X12_isRow.1 g_X12_isRow.2 ml_X12_178 in_X12_isRow py_X12_isRow rfl se_X12_isRow, ivV_ok (ci := 12) (c_X12_told hl) g_X12_told.1 g_X12_told.2 ml_X12_182 in_X12_told py_X12_told rfl se_X12_told, trivial⟩ (gd_use h).1 (gd_use h).2
def B_X12_atFirst : List (Nat × List (Nat × Instr × Nat)) := [(0, [(0, .iload_n 0, 1), (1, .tableswitch 112 0 13 #[71, 75, 77, 80, 83, 86, 90, 94, 83, 98, 101, 104, 106, 108], 71)]),
  (72, [(72, .sipush 300, 3), (75, .ireturn, 1)]),
  (76, [(76, .iconst 1, 1), (77, .ireturn, 1)]),
  (78, [(78, .bipush 20, 2), (80, .ireturn, 1)]),
  (81, [(81, .ldc 185, 2), (83, .ireturn, 1)]),
  (84, [(84, .bipush 30, 2), (86, .ireturn, 1)]),
  (87, [(87, .sipush 5000, 3), (90, .ireturn, 1)]),
  (91, [(91, .sipush 1320, 3), (94, .ireturn, 1)]),
  (95, [(95, .sipush 360, 3), (98, .ireturn, 1)]),
  (99, [(99, .ldc 186, 2), (101, .ireturn, 1)]),
  (102, [(102, .ldc 187, 2), (104, .ireturn, 1)]),
  (105, [(105, .iconst 0, 1), (106, .ireturn, 1)]),
  (107, [(107, .iconst 1, 1), (108, .ireturn, 1)]),
  (109, [(109, .sipush 4000, 3), (112, .ireturn, 1)]),
  (113, [(113, .bipush 100, 2), (115, .ireturn, 1)])]
def T_X12_atFirst (tb : Nat → Option (Nat × Nat)) : List (Nat × IV) := []
def M_X12_atFirst (tb : Nat → Option (Nat × Nat)) : MT := (tb, FX12, StX12, CX12, NwX12, ivOf (T_X12_atFirst tb), 0, 0, 1)
def r_X12_atFirst (tb : Nat → Option (Nat × Nat)) (K : Option AV → AX → Prop) (KX : String → AX → Prop) : PT := lfp (wpm (M_X12_atFirst tb) B_X12_atFirst K (fun _ _ _ E X _ _ => KX E X))
def w_X12_atFirst (tb : Nat → Option (Nat × Nat)) : WP := fun as X K KX => gd ((ini0 as).length ≤ 1) (r_X12_atFirst tb K KX 0 (iniL as 1) [] X 0 0)
theorem k_X12_atFirst : B_X12_atFirst.all (blkB FX12 CX12 NwX12 RX12 false cX12_atFirst) = true := by decide +kernel
theorem g_X12_atFirst : gw (.code yX12_atFirst cX12_atFirst 1 (some .int)) = true ∧ gw (.initialized yX12_atFirst.cls) = true := by decide +kernel
theorem c_X12_atFirst {l : Launch} {G : GX} (hl : l.stackTraces = false) : ∀ as X K KX, w_X12_atFirst (gT G) as X K KX → CT l G yX12_atFirst (.code yX12_atFirst cX12_atFirst 1 (some .int)) 0 0 0 0 as X K KX := fun as X K KX h => CT_of (M := M_X12_atFirst (gT G)) (own := RX12) (ini := false) (T := T_X12_atFirst (gT G)) (B := B_X12_atFirst) (by decide +kernel) hl rfl (fun h => absurd h (by decide)) rfl tab_X12 k_X12_atFirst rfl (Or.inl rfl) rfl
  trivial (gd_use h).1 (gd_use h).2
theorem st_X12_atFirst : gw (.static yX12_atFirst) = true := by decide +kernel
theorem py_X12_atFirst : plainY yX12_atFirst 1 = true := by decide +kernel
theorem ml_X12_194 : gw (.methodLink RX12 194 yX12_atFirst) = true := by decide +kernel
def B_X12_tariff : List (Nat × List (Nat × Instr × Nat)) := [(0, [(0, .aload_n 0, 1), (1, .iconst 0, 1), (2, .putfield 163, 3), (5, .aload_n 0, 1), (6, .iload_n 1, 1), (7, .ifCond .lt 12, 3), (10, .iload_n 1, 1), (11, .iconst 4, 1), (12, .if_icmp .gt 7, 3), (15, .iconst 1, 1), (16, .goto 4, 3)]),
  (19, [(19, .iconst 0, 1)]),
  (20, [(20, .iconst 1, 1), (21, .invokevirtual 170, 3), (24, .ifCond .ne 5, 3), (27, .iconst 0, 1), (28, .ireturn, 1)]),
  (29, [(29, .aload_n 0, 1), (30, .getfield 191, 3), (33, .bipush 12, 2), (35, .if_icmp .ne 5, 3), (38, .iconst (-1), 1), (39, .ireturn, 1)]),
  (40, [(40, .aload_n 0, 1), (41, .getfield 23, 3), (44, .aload_n 0, 1), (45, .getfield 191, 3), (48, .iload_n 1, 1), (49, .iastore, 1), (50, .iconst 0, 1), (51, .istore_n 2, 1)]),
  (52, [(52, .iload_n 2, 1), (53, .bipush 15, 2), (55, .if_icmp .ge 27, 3), (58, .aload_n 0, 1), (59, .getfield 26, 3), (62, .bipush 15, 2), (64, .aload_n 0, 1), (65, .getfield 191, 3), (68, .imul, 1), (69, .iload_n 2, 1), (70, .iadd, 1), (71, .iload_n 2, 1), (72, .invokestatic 194, 3), (75, .iastore, 1), (76, .iinc 2 1, 3), (79, .goto (-27), 3)]),
  (82, [(82, .aload_n 0, 1), (83, .dup, 1), (84, .getfield 191, 3), (87, .iconst 1, 1), (88, .iadd, 1), (89, .putfield 191, 3), (92, .aload_n 0, 1), (93, .getfield 191, 3), (96, .iconst 1, 1), (97, .isub, 1), (98, .ireturn, 1)])]
def T_X12_tariff (tb : Nat → Option (Nat × Nat)) : List (Nat × IV) := [(680, ivV tb 12 0 0 2 0 0 1 (w_X12_right tb)), (778, ivS 0 0 1 0 0 1 (w_X12_atFirst tb))]
def M_X12_tariff (tb : Nat → Option (Nat × Nat)) : MT := (tb, FX12, StX12, CX12, NwX12, ivOf (T_X12_tariff tb), 0, 0, 1)
def r_X12_tariff (tb : Nat → Option (Nat × Nat)) (K : Option AV → AX → Prop) (KX : String → AX → Prop) : PT := lfp (wpm (M_X12_tariff tb) B_X12_tariff K (fun _ _ _ E X _ _ => KX E X))
def w_X12_tariff (tb : Nat → Option (Nat × Nat)) : WP := fun as X K KX => gd ((ini0 as).length ≤ 3) (r_X12_tariff tb K KX 0 (iniL as 3) [] X 0 0)
theorem k_X12_tariff : B_X12_tariff.all (blkB FX12 CX12 NwX12 RX12 false cX12_tariff) = true := by decide +kernel
theorem g_X12_tariff : gw (.code yX12_tariff cX12_tariff 3 (some .int)) = true ∧ gw (.initialized yX12_tariff.cls) = true := by decide +kernel
theorem c_X12_tariff {l : Launch} {G : GX} (hl : l.stackTraces = false) : ∀ as X K KX, w_X12_tariff (gT G) as X K KX → CT l G yX12_tariff (.code yX12_tariff cX12_tariff 3 (some .int)) 1 22 0 0 as X K KX := fun as X K KX h => CT_of (M := M_X12_tariff (gT G)) (own := RX12) (ini := false) (T := T_X12_tariff (gT G)) (B := B_X12_tariff) (by decide +kernel) hl rfl (fun h => absurd h (by decide)) rfl tab_X12 k_X12_tariff rfl (Or.inl rfl) rfl
  ⟨ivV_ok (ci := 12) (c_X12_right hl) g_X12_right.1 g_X12_right.2 ml_X12_170 in_X12_right py_X12_right rfl se_X12_right, ivS_ok (c_X12_atFirst hl) g_X12_atFirst.1 g_X12_atFirst.2 ml_X12_194 st_X12_atFirst py_X12_atFirst rfl, trivial⟩ (gd_use h).1 (gd_use h).2
def B_X12_isTariff : List (Nat × List (Nat × Instr × Nat)) := [(0, [(0, .aload_n 0, 1), (1, .iload_n 1, 1), (2, .ifCond .lt 15, 3), (5, .iload_n 1, 1), (6, .aload_n 0, 1), (7, .getfield 191, 3), (10, .if_icmp .ge 7, 3), (13, .iconst 1, 1), (14, .goto 4, 3)]),
  (17, [(17, .iconst 0, 1)]),
  (18, [(18, .iload_n 2, 1), (19, .invokevirtual 170, 3), (22, .ireturn, 1)])]
def T_X12_isTariff (tb : Nat → Option (Nat × Nat)) : List (Nat × IV) := [(680, ivV tb 12 0 0 2 0 0 1 (w_X12_right tb))]
def M_X12_isTariff (tb : Nat → Option (Nat × Nat)) : MT := (tb, FX12, StX12, CX12, NwX12, ivOf (T_X12_isTariff tb), 0, 0, 2)
def r_X12_isTariff (tb : Nat → Option (Nat × Nat)) (K : Option AV → AX → Prop) (KX : String → AX → Prop) : PT := lfp (wpm (M_X12_isTariff tb) B_X12_isTariff K (fun _ _ _ E X _ _ => KX E X))
def w_X12_isTariff (tb : Nat → Option (Nat × Nat)) : WP := fun as X K KX => gd ((ini0 as).length ≤ 3) (r_X12_isTariff tb K KX 0 (iniL as 3) [] X 0 0)
theorem k_X12_isTariff : B_X12_isTariff.all (blkB FX12 CX12 NwX12 RX12 false cX12_isTariff) = true := by decide +kernel
theorem g_X12_isTariff : gw (.code yX12_isTariff cX12_isTariff 3 (some .boolean)) = true ∧ gw (.initialized yX12_isTariff.cls) = true := by decide +kernel
theorem c_X12_isTariff {l : Launch} {G : GX} (hl : l.stackTraces = false) : ∀ as X K KX, w_X12_isTariff (gT G) as X K KX → CT l G yX12_isTariff (.code yX12_isTariff cX12_isTariff 3 (some .boolean)) 1 22 0 0 as X K KX := fun as X K KX h => CT_of (M := M_X12_isTariff (gT G)) (own := RX12) (ini := false) (T := T_X12_isTariff (gT G)) (B := B_X12_isTariff) (by decide +kernel) hl rfl (fun h => absurd h (by decide)) rfl tab_X12 k_X12_isTariff rfl (Or.inl rfl) rfl
  ⟨ivV_ok (ci := 12) (c_X12_right hl) g_X12_right.1 g_X12_right.2 ml_X12_170 in_X12_right py_X12_right rfl se_X12_right, trivial⟩ (gd_use h).1 (gd_use h).2
def B_X12_has : List (Nat × List (Nat × Instr × Nat)) := [(0, [(0, .aload_n 0, 1), (1, .getfield 23, 3), (4, .iload_n 1, 1), (5, .iaload, 1), (6, .istore_n 3, 1), (7, .iload_n 2, 1), (8, .ifCond .lt 9, 3), (11, .iload_n 2, 1), (12, .bipush 14, 2), (14, .if_icmp .le 5, 3)]),
  (17, [(17, .iconst 0, 1), (18, .ireturn, 1)]),
  (19, [(19, .iload_n 2, 1), (20, .bipush 6, 2), (22, .if_icmp .ge 5, 3), (25, .iconst 1, 1), (26, .ireturn, 1)]),
  (27, [(27, .iload_n 2, 1), (28, .bipush 9, 2), (30, .if_icmp .ge 14, 3), (33, .iload_n 3, 1), (34, .iconst 1, 1), (35, .if_icmp .ne 7, 3), (38, .iconst 1, 1), (39, .goto 4, 3)]),
  (42, [(42, .iconst 0, 1)]),
  (43, [(43, .ireturn, 1)]),
  (44, [(44, .iload_n 2, 1), (45, .bipush 11, 2), (47, .if_icmp .ge 19, 3), (50, .iload_n 3, 1), (51, .iconst 2, 1), (52, .if_icmp .eq 8, 3), (55, .iload_n 3, 1), (56, .iconst 3, 1), (57, .if_icmp .ne 7, 3)]),
  (60, [(60, .iconst 1, 1), (61, .goto 4, 3)]),
  (64, [(64, .iconst 0, 1)]),
  (65, [(65, .ireturn, 1)]),
  (66, [(66, .iload_n 2, 1), (67, .bipush 14, 2), (69, .if_icmp .ge 16, 3), (72, .iload_n 3, 1), (73, .iconst 3, 1), (74, .if_icmp .ne 7, 3), (77, .iconst 1, 1), (78, .goto 17, 3)]),
  (81, [(81, .iconst 0, 1), (82, .goto 13, 3)]),
  (85, [(85, .iload_n 3, 1), (86, .iconst 4, 1), (87, .if_icmp .ne 7, 3), (90, .iconst 1, 1), (91, .goto 4, 3)]),
  (94, [(94, .iconst 0, 1)]),
  (95, [(95, .ireturn, 1)])]
def T_X12_has (tb : Nat → Option (Nat × Nat)) : List (Nat × IV) := []
def M_X12_has (tb : Nat → Option (Nat × Nat)) : MT := (tb, FX12, StX12, CX12, NwX12, ivOf (T_X12_has tb), 0, 0, 2)
def r_X12_has (tb : Nat → Option (Nat × Nat)) (K : Option AV → AX → Prop) (KX : String → AX → Prop) : PT := lfp (wpm (M_X12_has tb) B_X12_has K (fun _ _ _ E X _ _ => KX E X))
def w_X12_has (tb : Nat → Option (Nat × Nat)) : WP := fun as X K KX => gd ((ini0 as).length ≤ 4) (r_X12_has tb K KX 0 (iniL as 4) [] X 0 0)
theorem k_X12_has : B_X12_has.all (blkB FX12 CX12 NwX12 RX12 false cX12_has) = true := by decide +kernel
theorem g_X12_has : gw (.code yX12_has cX12_has 4 (some .boolean)) = true ∧ gw (.initialized yX12_has.cls) = true := by decide +kernel
theorem c_X12_has {l : Launch} {G : GX} (hl : l.stackTraces = false) : ∀ as X K KX, w_X12_has (gT G) as X K KX → CT l G yX12_has (.code yX12_has cX12_has 4 (some .boolean)) 0 0 0 0 as X K KX := fun as X K KX h => CT_of (M := M_X12_has (gT G)) (own := RX12) (ini := false) (T := T_X12_has (gT G)) (B := B_X12_has) (by decide +kernel) hl rfl (fun h => absurd h (by decide)) rfl tab_X12 k_X12_has rfl (Or.inl rfl) rfl
  trivial (gd_use h).1 (gd_use h).2
def B_X12_may : List (Nat × List (Nat × Instr × Nat)) := [(0, [(0, .iload_n 0, 1), (1, .iconst 1, 1), (2, .if_icmp .eq 8, 3), (5, .iload_n 0, 1), (6, .iconst 4, 1), (7, .if_icmp .ne 7, 3)]),
  (10, [(10, .iconst 1, 1), (11, .goto 21, 3)]),
  (14, [(14, .iload_n 0, 1), (15, .iconst 3, 1), (16, .if_icmp .eq 9, 3), (19, .iload_n 0, 1), (20, .bipush 10, 2), (22, .if_icmp .ne 9, 3)]),
  (25, [(25, .sipush 10000, 3), (28, .goto 4, 3)]),
  (31, [(31, .iconst 0, 1)]),
  (32, [(32, .istore_n 2, 1), (33, .iload_n 0, 1), (34, .iconst 1, 1), (35, .if_icmp .ne 9, 3), (38, .bipush 50, 2), (40, .istore_n 3, 1), (41, .goto 102, 3)]),
  (44, [(44, .iload_n 0, 1), (45, .iconst 3, 1), (46, .if_icmp .eq 15, 3), (49, .iload_n 0, 1), (50, .bipush 10, 2), (52, .if_icmp .eq 9, 3), (55, .iload_n 0, 1), (56, .bipush 13, 2), (58, .if_icmp .ne 9, 3)]),
  (61, [(61, .ldc 188, 2), (63, .istore_n 3, 1), (64, .goto 79, 3)]),
  (67, [(67, .iload_n 0, 1), (68, .iconst 4, 1), (69, .if_icmp .ne 10, 3), (72, .sipush 600, 3), (75, .istore_n 3, 1), (76, .goto 67, 3)]),
  (79, [(79, .iload_n 0, 1), (80, .iconst 5, 1), (81, .if_icmp .ne 9, 3), (84, .ldc 189, 2), (86, .istore_n 3, 1), (87, .goto 56, 3)]),
  (90, [(90, .iload_n 0, 1), (91, .bipush 6, 2), (93, .if_icmp .eq 9, 3), (96, .iload_n 0, 1), (97, .bipush 7, 2), (99, .if_icmp .ne 10, 3)]),
  (102, [(102, .sipush 1439, 3), (105, .istore_n 3, 1), (106, .goto 37, 3)]),
  (109, [(109, .iload_n 0, 1), (110, .bipush 9, 2), (112, .if_icmp .ne 9, 3), (115, .ldc 190, 2), (117, .istore_n 3, 1), (118, .goto 25, 3)]),
  (121, [(121, .iload_n 0, 1), (122, .bipush 11, 2), (124, .if_icmp .eq 9, 3), (127, .iload_n 0, 1), (128, .bipush 12, 2), (130, .if_icmp .ne 9, 3)]),
  (133, [(133, .bipush 99, 2), (135, .istore_n 3, 1), (136, .goto 7, 3)]),
  (139, [(139, .sipush 10000, 3), (142, .istore_n 3, 1)]),
  (143, [(143, .iload_n 1, 1), (144, .iload_n 2, 1), (145, .if_icmp .lt 12, 3), (148, .iload_n 1, 1), (149, .iload_n 3, 1), (150, .if_icmp .gt 7, 3), (153, .iconst 1, 1), (154, .goto 4, 3)]),
  (157, [(157, .iconst 0, 1)]),
  (158, [(158, .ireturn, 1)])]
def T_X12_may (tb : Nat → Option (Nat × Nat)) : List (Nat × IV) := []
def M_X12_may (tb : Nat → Option (Nat × Nat)) : MT := (tb, FX12, StX12, CX12, NwX12, ivOf (T_X12_may tb), 0, 0, 2)
def r_X12_may (tb : Nat → Option (Nat × Nat)) (K : Option AV → AX → Prop) (KX : String → AX → Prop) : PT := lfp (wpm (M_X12_may tb) B_X12_may K (fun _ _ _ E X _ _ => KX E X))
def w_X12_may (tb : Nat → Option (Nat × Nat)) : WP := fun as X K KX => gd ((ini0 as).length ≤ 4) (r_X12_may tb K KX 0 (iniL as 4) [] X 0 0)
theorem k_X12_may : B_X12_may.all (blkB FX12 CX12 NwX12 RX12 false cX12_may) = true := by decide +kernel
theorem g_X12_may : gw (.code yX12_may cX12_may 4 (some .boolean)) = true ∧ gw (.initialized yX12_may.cls) = true := by decide +kernel
theorem c_X12_may {l : Launch} {G : GX} (hl : l.stackTraces = false) : ∀ as X K KX, w_X12_may (gT G) as X K KX → CT l G yX12_may (.code yX12_may cX12_may 4 (some .boolean)) 0 0 0 0 as X K KX := fun as X K KX h => CT_of (M := M_X12_may (gT G)) (own := RX12) (ini := false) (T := T_X12_may (gT G)) (B := B_X12_may) (by decide +kernel) hl rfl (fun h => absurd h (by decide)) rfl tab_X12 k_X12_may rfl (Or.inl rfl) rfl
  trivial (gd_use h).1 (gd_use h).2
def B_X12_numberOf : List (Nat × List (Nat × Instr × Nat)) := [(0, [(0, .aload_n 0, 1), (1, .getfield 26, 3), (4, .bipush 15, 2), (6, .iload_n 1, 1), (7, .imul, 1), (8, .iload_n 2, 1), (9, .iadd, 1), (10, .iaload, 1), (11, .ireturn, 1)])]
def T_X12_numberOf (tb : Nat → Option (Nat × Nat)) : List (Nat × IV) := []
def M_X12_numberOf (tb : Nat → Option (Nat × Nat)) : MT := (tb, FX12, StX12, CX12, NwX12, ivOf (T_X12_numberOf tb), 0, 0, 1)
def r_X12_numberOf (tb : Nat → Option (Nat × Nat)) (K : Option AV → AX → Prop) (KX : String → AX → Prop) : PT := lfp (wpm (M_X12_numberOf tb) B_X12_numberOf K (fun _ _ _ E X _ _ => KX E X))
def w_X12_numberOf (tb : Nat → Option (Nat × Nat)) : WP := fun as X K KX => gd ((ini0 as).length ≤ 3) (r_X12_numberOf tb K KX 0 (iniL as 3) [] X 0 0)
theorem k_X12_numberOf : B_X12_numberOf.all (blkB FX12 CX12 NwX12 RX12 false cX12_numberOf) = true := by decide +kernel
theorem g_X12_numberOf : gw (.code yX12_numberOf cX12_numberOf 3 (some .int)) = true ∧ gw (.initialized yX12_numberOf.cls) = true := by decide +kernel
theorem c_X12_numberOf {l : Launch} {G : GX} (hl : l.stackTraces = false) : ∀ as X K KX, w_X12_numberOf (gT G) as X K KX → CT l G yX12_numberOf (.code yX12_numberOf cX12_numberOf 3 (some .int)) 0 0 0 0 as X K KX := fun as X K KX h => CT_of (M := M_X12_numberOf (gT G)) (own := RX12) (ini := false) (T := T_X12_numberOf (gT G)) (B := B_X12_numberOf) (by decide +kernel) hl rfl (fun h => absurd h (by decide)) rfl tab_X12 k_X12_numberOf rfl (Or.inl rfl) rfl
  trivial (gd_use h).1 (gd_use h).2
theorem py_X12_isTariff : plainY yX12_isTariff 2 = true := by decide +kernel
theorem in_X12_isTariff : gw (.instanceMethod yX12_isTariff) = true := by decide +kernel
theorem se_X12_isTariff : gw (.selects RX12 yX12_isTariff yX12_isTariff) = true := by decide +kernel
theorem ml_X12_198 : gw (.methodLink RX12 198 yX12_isTariff) = true := by decide +kernel
theorem py_X12_has : plainY yX12_has 2 = true := by decide +kernel
theorem in_X12_has : gw (.instanceMethod yX12_has) = true := by decide +kernel
theorem se_X12_has : gw (.selects RX12 yX12_has yX12_has) = true := by decide +kernel
theorem ml_X12_201 : gw (.methodLink RX12 201 yX12_has) = true := by decide +kernel
theorem st_X12_may : gw (.static yX12_may) = true := by decide +kernel
theorem py_X12_may : plainY yX12_may 2 = true := by decide +kernel
theorem ml_X12_204 : gw (.methodLink RX12 204 yX12_may) = true := by decide +kernel
theorem py_X12_numberOf : plainY yX12_numberOf 2 = true := by decide +kernel
theorem in_X12_numberOf : gw (.instanceMethod yX12_numberOf) = true := by decide +kernel
theorem se_X12_numberOf : gw (.selects RX12 yX12_numberOf yX12_numberOf) = true := by decide +kernel
theorem ml_X12_207 : gw (.methodLink RX12 207 yX12_numberOf) = true := by decide +kernel
def B_X12_set : List (Nat × List (Nat × Instr × Nat)) := [(0, [(0, .aload_n 0, 1), (1, .iconst 0, 1), (2, .putfield 163, 3), (5, .aload_n 0, 1), (6, .aload_n 0, 1), (7, .getfield 166, 3), (10, .ifCond .ne 7, 3), (13, .iconst 1, 1), (14, .goto 4, 3)]),
  (17, [(17, .iconst 0, 1)]),
  (18, [(18, .iconst 1, 1), (19, .invokevirtual 170, 3), (22, .ifCond .eq 39, 3), (25, .aload_n 0, 1), (26, .iload_n 1, 1), (27, .iconst 2, 1), (28, .invokevirtual 198, 3), (31, .ifCond .eq 30, 3), (34, .aload_n 0, 1), (35, .aload_n 0, 1), (36, .iload_n 1, 1), (37, .iload_n 2, 1), (38, .invokevirtual 201, 3), (41, .iconst 3, 1), (42, .invokevirtual 170, 3), (45, .ifCond .eq 16, 3), (48, .aload_n 0, 1), (49, .iload_n 2, 1), (50, .iload_n 3, 1), (51, .invokestatic 204, 3), (54, .iconst 4, 1), (55, .invokevirtual 170, 3), (58, .ifCond .ne 5, 3)]),
  (61, [(61, .iconst 0, 1), (62, .ireturn, 1)]),
  (63, [(63, .aload_n 0, 1), (64, .iload_n 1, 1), (65, .iload_n 2, 1), (66, .invokevirtual 207, 3), (69, .istore 4, 2), (71, .aload_n 0, 1), (72, .getfield 26, 3), (75, .bipush 15, 2), (77, .iload_n 1, 1), (78, .imul, 1), (79, .iload_n 2, 1), (80, .iadd, 1), (81, .iload_n 3, 1), (82, .iastore, 1), (83, .iload 4, 2), (85, .ireturn, 1)])]
def T_X12_set (tb : Nat → Option (Nat × Nat)) : List (Nat × IV) := [(680, ivV tb 12 0 0 2 0 0 1 (w_X12_right tb)), (792, ivV tb 12 0 0 2 0 0 1 (w_X12_isTariff tb)), (804, ivV tb 12 0 0 2 0 0 1 (w_X12_has tb)), (818, ivS 0 0 2 0 0 1 (w_X12_may tb)), (828, ivV tb 12 0 0 2 0 0 1 (w_X12_numberOf tb))]
def M_X12_set (tb : Nat → Option (Nat × Nat)) : MT := (tb, FX12, StX12, CX12, NwX12, ivOf (T_X12_set tb), 0, 0, 1)
def r_X12_set (tb : Nat → Option (Nat × Nat)) (K : Option AV → AX → Prop) (KX : String → AX → Prop) : PT := lfp (wpm (M_X12_set tb) B_X12_set K (fun _ _ _ E X _ _ => KX E X))
def w_X12_set (tb : Nat → Option (Nat × Nat)) : WP := fun as X K KX => gd ((ini0 as).length ≤ 5) (r_X12_set tb K KX 0 (iniL as 5) [] X 0 0)
theorem k_X12_set : B_X12_set.all (blkB FX12 CX12 NwX12 RX12 false cX12_set) = true := by decide +kernel
theorem g_X12_set : gw (.code yX12_set cX12_set 5 (some .int)) = true ∧ gw (.initialized yX12_set.cls) = true := by decide +kernel
theorem c_X12_set {l : Launch} {G : GX} (hl : l.stackTraces = false) : ∀ as X K KX, w_X12_set (gT G) as X K KX → CT l G yX12_set (.code yX12_set cX12_set 5 (some .int)) 2 44 0 0 as X K KX := fun as X K KX h => CT_of (M := M_X12_set (gT G)) (own := RX12) (ini := false) (T := T_X12_set (gT G)) (B := B_X12_set) (by decide +kernel) hl rfl (fun h => absurd h (by decide)) rfl tab_X12 k_X12_set rfl (Or.inl rfl) rfl
  ⟨ivV_ok (ci := 12) (c_X12_right hl) g_X12_right.1 g_X12_right.2 ml_X12_170 in_X12_right py_X12_right rfl se_X12_right, ivV_ok (ci := 12) (c_X12_isTariff hl) g_X12_isTariff.1 g_X12_isTariff.2 ml_X12_198 in_X12_isTariff py_X12_isTariff rfl se_X12_isTariff, ivV_ok (ci := 12) (c_X12_has hl) g_X12_has.1 g_X12_has.2 ml_X12_201 in_X12_has py_X12_has rfl se_X12_has, ivS_ok (c_X12_may hl) g_X12_may.1 g_X12_may.2 ml_X12_204 st_X12_may py_X12_may rfl, ivV_ok (ci := 12) (c_X12_numberOf hl) g_X12_numberOf.1 g_X12_numberOf.2 ml_X12_207 in_X12_numberOf py_X12_numberOf rfl se_X12_numberOf, trivial⟩ (gd_use h).1 (gd_use h).2
def B_X12_number : List (Nat × List (Nat × Instr × Nat)) := [(0, [(0, .aload_n 0, 1), (1, .iconst 0, 1), (2, .putfield 163, 3), (5, .aload_n 0, 1), (6, .iload_n 1, 1), (7, .iconst 1, 1), (8, .invokevirtual 198, 3), (11, .ifCond .eq 26, 3), (14, .aload_n 0, 1), (15, .aload_n 0, 1), (16, .iload_n 1, 1), (17, .iload_n 2, 1), (18, .invokevirtual 201, 3), (21, .iconst 2, 1), (22, .invokevirtual 170, 3), (25, .ifCond .eq 12, 3), (28, .aload_n 0, 1), (29, .iload_n 1, 1), (30, .iload_n 2, 1), (31, .invokevirtual 207, 3), (34, .goto 4, 3)]),
  (37, [(37, .iconst 0, 1)]),
  (38, [(38, .ireturn, 1)])]
def T_X12_number (tb : Nat → Option (Nat × Nat)) : List (Nat × IV) := [(792, ivV tb 12 0 0 2 0 0 1 (w_X12_isTariff tb)), (804, ivV tb 12 0 0 2 0 0 1 (w_X12_has tb)), (680, ivV tb 12 0 0 2 0 0 1 (w_X12_right tb)), (828, ivV tb 12 0 0 2 0 0 1 (w_X12_numberOf tb))]
def M_X12_number (tb : Nat → Option (Nat × Nat)) : MT := (tb, FX12, StX12, CX12, NwX12, ivOf (T_X12_number tb), 0, 0, 1)
def r_X12_number (tb : Nat → Option (Nat × Nat)) (K : Option AV → AX → Prop) (KX : String → AX → Prop) : PT := lfp (wpm (M_X12_number tb) B_X12_number K (fun _ _ _ E X _ _ => KX E X))
def w_X12_number (tb : Nat → Option (Nat × Nat)) : WP := fun as X K KX => gd ((ini0 as).length ≤ 3) (r_X12_number tb K KX 0 (iniL as 3) [] X 0 0)
theorem k_X12_number : B_X12_number.all (blkB FX12 CX12 NwX12 RX12 false cX12_number) = true := by decide +kernel
theorem g_X12_number : gw (.code yX12_number cX12_number 3 (some .int)) = true ∧ gw (.initialized yX12_number.cls) = true := by decide +kernel
theorem c_X12_number {l : Launch} {G : GX} (hl : l.stackTraces = false) : ∀ as X K KX, w_X12_number (gT G) as X K KX → CT l G yX12_number (.code yX12_number cX12_number 3 (some .int)) 2 44 0 0 as X K KX := fun as X K KX h => CT_of (M := M_X12_number (gT G)) (own := RX12) (ini := false) (T := T_X12_number (gT G)) (B := B_X12_number) (by decide +kernel) hl rfl (fun h => absurd h (by decide)) rfl tab_X12 k_X12_number rfl (Or.inl rfl) rfl
  ⟨ivV_ok (ci := 12) (c_X12_isTariff hl) g_X12_isTariff.1 g_X12_isTariff.2 ml_X12_198 in_X12_isTariff py_X12_isTariff rfl se_X12_isTariff, ivV_ok (ci := 12) (c_X12_has hl) g_X12_has.1 g_X12_has.2 ml_X12_201 in_X12_has py_X12_has rfl se_X12_has, ivV_ok (ci := 12) (c_X12_right hl) g_X12_right.1 g_X12_right.2 ml_X12_170 in_X12_right py_X12_right rfl se_X12_right, ivV_ok (ci := 12) (c_X12_numberOf hl) g_X12_numberOf.1 g_X12_numberOf.2 ml_X12_207 in_X12_numberOf py_X12_numberOf rfl se_X12_numberOf, trivial⟩ (gd_use h).1 (gd_use h).2
def B_X12_isSlot : List (Nat × List (Nat × Instr × Nat)) := [(0, [(0, .aload_n 0, 1), (1, .iload_n 1, 1), (2, .ifCond .lt 13, 3), (5, .iload_n 1, 1), (6, .bipush 12, 2), (8, .if_icmp .ge 7, 3), (11, .iconst 1, 1), (12, .goto 4, 3)]),
  (15, [(15, .iconst 0, 1)]),
  (16, [(16, .iload_n 2, 1), (17, .invokevirtual 170, 3), (20, .ireturn, 1)])]
def T_X12_isSlot (tb : Nat → Option (Nat × Nat)) : List (Nat × IV) := [(680, ivV tb 12 0 0 2 0 0 1 (w_X12_right tb))]
def M_X12_isSlot (tb : Nat → Option (Nat × Nat)) : MT := (tb, FX12, StX12, CX12, NwX12, ivOf (T_X12_isSlot tb), 0, 0, 2)
def r_X12_isSlot (tb : Nat → Option (Nat × Nat)) (K : Option AV → AX → Prop) (KX : String → AX → Prop) : PT := lfp (wpm (M_X12_isSlot tb) B_X12_isSlot K (fun _ _ _ E X _ _ => KX E X))
def w_X12_isSlot (tb : Nat → Option (Nat × Nat)) : WP := fun as X K KX => gd ((ini0 as).length ≤ 3) (r_X12_isSlot tb K KX 0 (iniL as 3) [] X 0 0)
theorem k_X12_isSlot : B_X12_isSlot.all (blkB FX12 CX12 NwX12 RX12 false cX12_isSlot) = true := by decide +kernel
theorem g_X12_isSlot : gw (.code yX12_isSlot cX12_isSlot 3 (some .boolean)) = true ∧ gw (.initialized yX12_isSlot.cls) = true := by decide +kernel
theorem c_X12_isSlot {l : Launch} {G : GX} (hl : l.stackTraces = false) : ∀ as X K KX, w_X12_isSlot (gT G) as X K KX → CT l G yX12_isSlot (.code yX12_isSlot cX12_isSlot 3 (some .boolean)) 1 22 0 0 as X K KX := fun as X K KX h => CT_of (M := M_X12_isSlot (gT G)) (own := RX12) (ini := false) (T := T_X12_isSlot (gT G)) (B := B_X12_isSlot) (by decide +kernel) hl rfl (fun h => absurd h (by decide)) rfl tab_X12 k_X12_isSlot rfl (Or.inl rfl) rfl
  ⟨ivV_ok (ci := 12) (c_X12_right hl) g_X12_right.1 g_X12_right.2 ml_X12_170 in_X12_right py_X12_right rfl se_X12_right, trivial⟩ (gd_use h).1 (gd_use h).2
def B_X12_held : List (Nat × List (Nat × Instr × Nat)) := [(0, [(0, .aload_n 0, 1), (1, .getfield 29, 3), (4, .iload_n 1, 1), (5, .iaload, 1), (6, .ifCond .ne 7, 3), (9, .iconst (-1), 1), (10, .goto 28, 3)]),
  (13, [(13, .aload_n 0, 1), (14, .getfield 29, 3), (17, .iload_n 1, 1), (18, .iaload, 1), (19, .iconst 2, 1), (20, .if_icmp .ne 7, 3), (23, .iconst 5, 1), (24, .goto 14, 3)]),
  (27, [(27, .aload_n 0, 1), (28, .getfield 23, 3), (31, .aload_n 0, 1), (32, .getfield 32, 3), (35, .iload_n 1, 1), (36, .iaload, 1), (37, .iaload, 1)]),
  (38, [(38, .ireturn, 1)])]
def T_X12_held (tb : Nat → Option (Nat × Nat)) : List (Nat × IV) := []
def M_X12_held (tb : Nat → Option (Nat × Nat)) : MT := (tb, FX12, StX12, CX12, NwX12, ivOf (T_X12_held tb), 0, 0, 1)
def r_X12_held (tb : Nat → Option (Nat × Nat)) (K : Option AV → AX → Prop) (KX : String → AX → Prop) : PT := lfp (wpm (M_X12_held tb) B_X12_held K (fun _ _ _ E X _ _ => KX E X))
def w_X12_held (tb : Nat → Option (Nat × Nat)) : WP := fun as X K KX => gd ((ini0 as).length ≤ 2) (r_X12_held tb K KX 0 (iniL as 2) [] X 0 0)
theorem k_X12_held : B_X12_held.all (blkB FX12 CX12 NwX12 RX12 false cX12_held) = true := by decide +kernel
theorem g_X12_held : gw (.code yX12_held cX12_held 2 (some .int)) = true ∧ gw (.initialized yX12_held.cls) = true := by decide +kernel
theorem c_X12_held {l : Launch} {G : GX} (hl : l.stackTraces = false) : ∀ as X K KX, w_X12_held (gT G) as X K KX → CT l G yX12_held (.code yX12_held cX12_held 2 (some .int)) 0 0 0 0 as X K KX := fun as X K KX h => CT_of (M := M_X12_held (gT G)) (own := RX12) (ini := false) (T := T_X12_held (gT G)) (B := B_X12_held) (by decide +kernel) hl rfl (fun h => absurd h (by decide)) rfl tab_X12 k_X12_held rfl (Or.inl rfl) rfl
  trivial (gd_use h).1 (gd_use h).2
theorem py_X12_isSlot : plainY yX12_isSlot 2 = true := by decide +kernel
theorem in_X12_isSlot : gw (.instanceMethod yX12_isSlot) = true := by decide +kernel
theorem se_X12_isSlot : gw (.selects RX12 yX12_isSlot yX12_isSlot) = true := by decide +kernel
theorem ml_X12_210 : gw (.methodLink RX12 210 yX12_isSlot) = true := by decide +kernel
theorem py_X12_held : plainY yX12_held 1 = true := by decide +kernel
theorem in_X12_held : gw (.instanceMethod yX12_held) = true := by decide +kernel
theorem se_X12_held : gw (.selects RX12 yX12_held yX12_held) = true := by decide +kernel
theorem ml_X12_216 : gw (.methodLink RX12 216 yX12_held) = true := by decide +kernel
def B_X12_slot : List (Nat × List (Nat × Instr × Nat)) := [(0, [(0, .aload_n 0, 1), (1, .iconst 0, 1), (2, .putfield 163, 3), (5, .aload_n 0, 1), (6, .iload_n 1, 1), (7, .iconst 1, 1), (8, .invokevirtual 210, 3), (11, .ifCond .eq 25, 3), (14, .aload_n 0, 1), (15, .iload_n 2, 1), (16, .ifCond .lt 12, 3), (19, .iload_n 2, 1), (20, .iconst 2, 1), (21, .if_icmp .gt 7, 3), (24, .iconst 1, 1), (25, .goto 4, 3)]),
  (28, [(28, .iconst 0, 1)]),
  (29, [(29, .iconst 2, 1), (30, .invokevirtual 170, 3), (33, .ifCond .ne 5, 3)]),
  (36, [(36, .iconst 0, 1), (37, .ireturn, 1)]),
  (38, [(38, .aload_n 0, 1), (39, .iload_n 2, 1), (40, .ifCond .eq 27, 3), (43, .iload_n 3, 1), (44, .ifCond .lt 27, 3), (47, .iload_n 3, 1), (48, .iload_n 2, 1), (49, .iconst 1, 1), (50, .if_icmp .ne 10, 3), (53, .aload_n 0, 1), (54, .getfield 191, 3), (57, .goto 7, 3)]),
  (60, [(60, .aload_n 0, 1), (61, .getfield 213, 3)]),
  (64, [(64, .if_icmp .ge 7, 3)]),
  (67, [(67, .iconst 1, 1), (68, .goto 4, 3)]),
  (71, [(71, .iconst 0, 1)]),
  (72, [(72, .iconst 3, 1), (73, .invokevirtual 170, 3), (76, .ifCond .ne 5, 3), (79, .iconst 0, 1), (80, .ireturn, 1)]),
  (81, [(81, .aload_n 0, 1), (82, .iload_n 1, 1), (83, .invokevirtual 216, 3), (86, .istore 4, 2), (88, .aload_n 0, 1), (89, .getfield 29, 3), (92, .iload_n 1, 1), (93, .iload_n 2, 1), (94, .iastore, 1), (95, .aload_n 0, 1), (96, .getfield 32, 3), (99, .iload_n 1, 1), (100, .iload_n 3, 1), (101, .iastore, 1), (102, .iload 4, 2), (104, .ireturn, 1)])]
def T_X12_slot (tb : Nat → Option (Nat × Nat)) : List (Nat × IV) := [(840, ivV tb 12 0 0 2 0 0 1 (w_X12_isSlot tb)), (680, ivV tb 12 0 0 2 0 0 1 (w_X12_right tb)), (864, ivV tb 12 0 0 1 0 0 1 (w_X12_held tb))]
def M_X12_slot (tb : Nat → Option (Nat × Nat)) : MT := (tb, FX12, StX12, CX12, NwX12, ivOf (T_X12_slot tb), 0, 0, 1)
def r_X12_slot (tb : Nat → Option (Nat × Nat)) (K : Option AV → AX → Prop) (KX : String → AX → Prop) : PT := lfp (wpm (M_X12_slot tb) B_X12_slot K (fun _ _ _ E X _ _ => KX E X))
def w_X12_slot (tb : Nat → Option (Nat × Nat)) : WP := fun as X K KX => gd ((ini0 as).length ≤ 5) (r_X12_slot tb K KX 0 (iniL as 5) [] X 0 0)
theorem k_X12_slot : B_X12_slot.all (blkB FX12 CX12 NwX12 RX12 false cX12_slot) = true := by decide +kernel
theorem g_X12_slot : gw (.code yX12_slot cX12_slot 5 (some .int)) = true ∧ gw (.initialized yX12_slot.cls) = true := by decide +kernel
theorem c_X12_slot {l : Launch} {G : GX} (hl : l.stackTraces = false) : ∀ as X K KX, w_X12_slot (gT G) as X K KX → CT l G yX12_slot (.code yX12_slot cX12_slot 5 (some .int)) 2 44 0 0 as X K KX := fun as X K KX h => CT_of (M := M_X12_slot (gT G)) (own := RX12) (ini := false) (T := T_X12_slot (gT G)) (B := B_X12_slot) (by decide +kernel) hl rfl (fun h => absurd h (by decide)) rfl tab_X12 k_X12_slot rfl (Or.inl rfl) rfl
  ⟨ivV_ok (ci := 12) (c_X12_isSlot hl) g_X12_isSlot.1 g_X12_isSlot.2 ml_X12_210 in_X12_isSlot py_X12_isSlot rfl se_X12_isSlot, ivV_ok (ci := 12) (c_X12_right hl) g_X12_right.1 g_X12_right.2 ml_X12_170 in_X12_right py_X12_right rfl se_X12_right, ivV_ok (ci := 12) (c_X12_held hl) g_X12_held.1 g_X12_held.2 ml_X12_216 in_X12_held py_X12_held rfl se_X12_held, trivial⟩ (gd_use h).1 (gd_use h).2
def B_X12_kind : List (Nat × List (Nat × Instr × Nat)) := [(0, [(0, .aload_n 0, 1), (1, .iconst 0, 1), (2, .putfield 163, 3), (5, .aload_n 0, 1), (6, .iload_n 1, 1), (7, .iconst 1, 1), (8, .invokevirtual 210, 3), (11, .ifCond .eq 11, 3), (14, .aload_n 0, 1), (15, .iload_n 1, 1), (16, .invokevirtual 216, 3), (19, .goto 4, 3)]),
  (22, [(22, .iconst 0, 1)]),
  (23, [(23, .ireturn, 1)])]
def T_X12_kind (tb : Nat → Option (Nat × Nat)) : List (Nat × IV) := [(840, ivV tb 12 0 0 2 0 0 1 (w_X12_isSlot tb)), (864, ivV tb 12 0 0 1 0 0 1 (w_X12_held tb))]
def M_X12_kind (tb : Nat → Option (Nat × Nat)) : MT := (tb, FX12, StX12, CX12, NwX12, ivOf (T_X12_kind tb), 0, 0, 1)
def r_X12_kind (tb : Nat → Option (Nat × Nat)) (K : Option AV → AX → Prop) (KX : String → AX → Prop) : PT := lfp (wpm (M_X12_kind tb) B_X12_kind K (fun _ _ _ E X _ _ => KX E X))
def w_X12_kind (tb : Nat → Option (Nat × Nat)) : WP := fun as X K KX => gd ((ini0 as).length ≤ 2) (r_X12_kind tb K KX 0 (iniL as 2) [] X 0 0)
theorem k_X12_kind : B_X12_kind.all (blkB FX12 CX12 NwX12 RX12 false cX12_kind) = true := by decide +kernel
theorem g_X12_kind : gw (.code yX12_kind cX12_kind 2 (some .int)) = true ∧ gw (.initialized yX12_kind.cls) = true := by decide +kernel
theorem c_X12_kind {l : Launch} {G : GX} (hl : l.stackTraces = false) : ∀ as X K KX, w_X12_kind (gT G) as X K KX → CT l G yX12_kind (.code yX12_kind cX12_kind 2 (some .int)) 2 44 0 0 as X K KX := fun as X K KX h => CT_of (M := M_X12_kind (gT G)) (own := RX12) (ini := false) (T := T_X12_kind (gT G)) (B := B_X12_kind) (by decide +kernel) hl rfl (fun h => absurd h (by decide)) rfl tab_X12 k_X12_kind rfl (Or.inl rfl) rfl
  ⟨ivV_ok (ci := 12) (c_X12_isSlot hl) g_X12_isSlot.1 g_X12_isSlot.2 ml_X12_210 in_X12_isSlot py_X12_isSlot rfl se_X12_isSlot, ivV_ok (ci := 12) (c_X12_held hl) g_X12_held.1 g_X12_held.2 ml_X12_216 in_X12_held py_X12_held rfl se_X12_held, trivial⟩ (gd_use h).1 (gd_use h).2
