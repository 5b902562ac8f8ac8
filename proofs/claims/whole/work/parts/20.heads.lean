def FJ7 : List (Nat × Nat × Nat × Nat) := []
def FJ7i : List (Nat × Nat × Nat × Nat) := []
def CJ7 : List (Nat × AV) := []
def NwJ7 : List (Nat × (Nat ⊕ String)) := []
def StJ7 : List (Nat × Nat) := []
theorem tab_J7 : tabB FJ7 CJ7 StJ7 NwJ7 RJ7 = true := by decide +kernel
theorem tab_J7i : tabB FJ7i CJ7 StJ7 NwJ7 RJ7 = true := by decide +kernel
def FX8 : List (Nat × Nat × Nat × Nat) := [(9, 8, 0, 3), (15, 8, 1, 3)]
def FX8i : List (Nat × Nat × Nat × Nat) := [(9, 8, 0, 2), (15, 8, 1, 2)]
def CX8 : List (Nat × AV) := []
def NwX8 : List (Nat × (Nat ⊕ String)) := []
def StX8 : List (Nat × Nat) := []
theorem tab_X8 : tabB FX8 CX8 StX8 NwX8 RX8 = true := by decide +kernel
theorem tab_X8i : tabB FX8i CX8 StX8 NwX8 RX8 = true := by decide +kernel
def FX9 : List (Nat × Nat × Nat × Nat) := [(9, 9, 0, 3), (15, 9, 1, 3), (19, 9, 2, 0)]
def FX9i : List (Nat × Nat × Nat × Nat) := [(9, 9, 0, 2), (15, 9, 1, 2), (19, 9, 2, 0)]
def CX9 : List (Nat × AV) := []
def NwX9 : List (Nat × (Nat ⊕ String)) := []
def StX9 : List (Nat × Nat) := []
theorem tab_X9 : tabB FX9 CX9 StX9 NwX9 RX9 = true := by decide +kernel
theorem tab_X9i : tabB FX9i CX9 StX9 NwX9 RX9 = true := by decide +kernel
def FX7 : List (Nat × Nat × Nat × Nat) := [(9, 7, 0, 3), (13, 7, 1, 3), (16, 7, 2, 3), (19, 7, 3, 0)]
def FX7i : List (Nat × Nat × Nat × Nat) := [(9, 7, 0, 2), (13, 7, 1, 2), (16, 7, 2, 2), (19, 7, 3, 0)]
def CX7 : List (Nat × AV) := [(79, vL 1073741823)]
def NwX7 : List (Nat × (Nat ⊕ String)) := []
def StX7 : List (Nat × Nat) := []
theorem tab_X7 : tabB FX7 CX7 StX7 NwX7 RX7 = true := by decide +kernel
theorem tab_X7i : tabB FX7i CX7 StX7 NwX7 RX7 = true := by decide +kernel
def FX5 : List (Nat × Nat × Nat × Nat) := [(12, 5, 0, 3), (21, 5, 2, 0), (25, 5, 3, 0), (28, 5, 4, 0), (31, 5, 5, 1), (35, 1, 1, 3), (41, 5, 6, 1), (44, 5, 7, 0), (47, 5, 8, 0), (50, 5, 9, 0), (53, 5, 10, 0), (56, 5, 11, 0), (59, 5, 12, 0), (62, 5, 13, 0), (65, 5, 14, 4), (73, 5, 1, 2), (77, 1, 0, 0)]
def FX5i : List (Nat × Nat × Nat × Nat) := [(12, 5, 0, 2), (21, 5, 2, 0), (25, 5, 3, 0), (28, 5, 4, 0), (31, 5, 5, 1), (35, 1, 1, 2), (41, 5, 6, 1), (44, 5, 7, 0), (47, 5, 8, 0), (50, 5, 9, 0), (53, 5, 10, 0), (56, 5, 11, 0), (59, 5, 12, 0), (62, 5, 13, 0), (65, 5, 14, 4), (73, 5, 1, 2), (77, 1, 0, 0)]
def CX5 : List (Nat × AV) := [(114, vL 2147483647)]
def NwX5 : List (Nat × (Nat ⊕ String)) := [(9, .inl 7)]
def StX5 : List (Nat × Nat) := []
theorem tab_X5 : tabB FX5 CX5 StX5 NwX5 RX5 = true := by decide +kernel
theorem tab_X5i : tabB FX5i CX5 StX5 NwX5 RX5 = true := by decide +kernel
theorem nw_X5 : ∀ q ∈ NwX5, ∃ ci, q.2 = Sum.inl ci := by simp [NwX5]
def FX4 : List (Nat × Nat × Nat × Nat) := [(12, 4, 0, 3), (18, 4, 1, 3), (22, 4, 2, 3), (28, 4, 3, 3), (32, 4, 5, 0), (36, 4, 4, 2), (40, 4, 6, 4), (44, 4, 7, 0), (47, 4, 8, 0), (50, 9, 2, 0), (55, 4, 9, 0), (62, 4, 10, 4), (65, 4, 11, 4), (68, 4, 12, 4), (71, 5, 4, 0), (80, 5, 13, 0), (83, 5, 14, 4), (95, 5, 12, 0), (106, 5, 2, 0), (113, 5, 10, 0), (120, 5, 7, 0), (123, 5, 8, 0), (126, 5, 9, 0), (133, 5, 1, 2), (136, 1, 0, 0)]
def FX4i : List (Nat × Nat × Nat × Nat) := [(12, 4, 0, 2), (18, 4, 1, 2), (22, 4, 2, 2), (28, 4, 3, 2), (32, 4, 5, 0), (36, 4, 4, 2), (40, 4, 6, 4), (44, 4, 7, 0), (47, 4, 8, 0), (50, 9, 2, 0), (55, 4, 9, 0), (62, 4, 10, 4), (65, 4, 11, 4), (68, 4, 12, 4), (71, 5, 4, 0), (80, 5, 13, 0), (83, 5, 14, 4), (95, 5, 12, 0), (106, 5, 2, 0), (113, 5, 10, 0), (120, 5, 7, 0), (123, 5, 8, 0), (126, 5, 9, 0), (133, 5, 1, 2), (136, 1, 0, 0)]
def CX4 : List (Nat × AV) := []
def NwX4 : List (Nat × (Nat ⊕ String)) := [(9, .inl 5)]
def StX4 : List (Nat × Nat) := []
theorem tab_X4 : tabB FX4 CX4 StX4 NwX4 RX4 = true := by decide +kernel
theorem tab_X4i : tabB FX4i CX4 StX4 NwX4 RX4 = true := by decide +kernel
theorem nw_X4 : ∀ q ∈ NwX4, ∃ ci, q.2 = Sum.inl ci := by simp [NwX4]
def FX10 : List (Nat × Nat × Nat × Nat) := [(9, 10, 0, 3), (15, 10, 1, 3), (18, 10, 2, 0), (22, 10, 3, 0)]
def FX10i : List (Nat × Nat × Nat × Nat) := [(9, 10, 0, 2), (15, 10, 1, 2), (18, 10, 2, 0), (22, 10, 3, 0)]
def CX10 : List (Nat × AV) := []
def NwX10 : List (Nat × (Nat ⊕ String)) := []
def StX10 : List (Nat × Nat) := []
theorem tab_X10 : tabB FX10 CX10 StX10 NwX10 RX10 = true := by decide +kernel
theorem tab_X10i : tabB FX10i CX10 StX10 NwX10 RX10 = true := by decide +kernel
def FX11 : List (Nat × Nat × Nat × Nat) := [(7, 11, 0, 0), (13, 11, 1, 0), (19, 11, 2, 3), (25, 11, 3, 3), (29, 11, 5, 3), (33, 11, 6, 3), (39, 11, 7, 3), (46, 11, 8, 3), (50, 11, 10, 2), (56, 11, 11, 3), (60, 11, 12, 0), (63, 11, 13, 3), (69, 11, 14, 3), (73, 11, 15, 3), (105, 8, 1, 3), (121, 11, 4, 0), (137, 1, 1, 3), (140, 9, 2, 0), (147, 11, 9, 0), (156, 9, 0, 3), (163, 9, 1, 3), (177, 4, 0, 3), (184, 4, 5, 0), (190, 5, 4, 0), (200, 5, 14, 4), (204, 5, 12, 0), (207, 5, 1, 2), (215, 5, 10, 0), (222, 5, 9, 0), (231, 5, 6, 1), (235, 4, 12, 4), (239, 5, 0, 3), (251, 5, 13, 0), (254, 4, 1, 3), (258, 4, 6, 4), (266, 10, 2, 0), (267, 10, 3, 0), (280, 11, 16, 4), (283, 5, 7, 0), (323, 4, 9, 0), (326, 4, 10, 4)]
def FX11i : List (Nat × Nat × Nat × Nat) := [(7, 11, 0, 0), (13, 11, 1, 0), (19, 11, 2, 2), (25, 11, 3, 2), (29, 11, 5, 2), (33, 11, 6, 2), (39, 11, 7, 2), (46, 11, 8, 2), (50, 11, 10, 2), (56, 11, 11, 2), (60, 11, 12, 0), (63, 11, 13, 2), (69, 11, 14, 2), (73, 11, 15, 2), (105, 8, 1, 2), (121, 11, 4, 0), (137, 1, 1, 2), (140, 9, 2, 0), (147, 11, 9, 0), (156, 9, 0, 2), (163, 9, 1, 2), (177, 4, 0, 2), (184, 4, 5, 0), (190, 5, 4, 0), (200, 5, 14, 4), (204, 5, 12, 0), (207, 5, 1, 2), (215, 5, 10, 0), (222, 5, 9, 0), (231, 5, 6, 1), (235, 4, 12, 4), (239, 5, 0, 2), (251, 5, 13, 0), (254, 4, 1, 2), (258, 4, 6, 4), (266, 10, 2, 0), (267, 10, 3, 0), (280, 11, 16, 4), (283, 5, 7, 0), (323, 4, 9, 0), (326, 4, 10, 4)]
def CX11 : List (Nat × AV) := [(81, vI (-2147483648)), (90, vF 1148846080), (238, vI 1000000), (265, vI 60000), (335, vL 2147483647)]
def NwX11 : List (Nat × (Nat ⊕ String)) := [(16, .inl 8), (23, .inl 1), (36, .inl 9), (43, .inl 4), (53, .inl 5), (66, .inl 10), (293, .inr "java/lang/IllegalArgumentException"), (296, .inr "java/lang/IllegalStateException"), (299, .inr "java/util/NoSuchElementException"), (302, .inr "java/lang/IndexOutOfBoundsException"), (305, .inl 6), (309, .inl 2), (312, .inl 3), (315, .inl 0)]
def StX11 : List (Nat × Nat) := [(131, 2), (134, 3)]
theorem tab_X11 : tabB FX11 CX11 StX11 NwX11 RX11 = true := by decide +kernel
theorem tab_X11i : tabB FX11i CX11 StX11 NwX11 RX11 = true := by decide +kernel
def FX12 : List (Nat × Nat × Nat × Nat) := [(7, 12, 1, 0), (13, 12, 2, 0), (16, 12, 3, 3), (20, 12, 4, 3), (23, 12, 8, 3), (26, 12, 9, 3), (29, 12, 10, 3), (32, 12, 11, 3), (35, 12, 12, 3), (39, 12, 13, 3), (42, 12, 20, 3), (45, 12, 21, 3), (48, 12, 22, 3), (51, 12, 23, 3), (54, 12, 24, 3), (57, 12, 26, 3), (60, 12, 27, 3), (63, 12, 28, 3), (66, 12, 29, 3), (69, 12, 30, 3), (72, 12, 31, 3), (75, 12, 32, 3), (78, 12, 33, 3), (81, 12, 34, 3), (84, 12, 35, 3), (87, 12, 36, 3), (90, 12, 37, 3), (93, 12, 38, 3), (96, 12, 39, 3), (99, 12, 40, 3), (102, 12, 41, 3), (105, 12, 42, 3), (108, 12, 43, 3), (111, 12, 44, 3), (115, 12, 45, 3), (118, 12, 46, 3), (121, 12, 47, 3), (124, 12, 48, 3), (127, 12, 49, 3), (130, 12, 50, 3), (133, 12, 51, 3), (136, 12, 52, 3), (139, 12, 53, 3), (142, 12, 54, 3), (145, 12, 55, 3), (148, 12, 56, 3), (151, 12, 57, 3), (154, 12, 58, 3), (157, 12, 61, 3), (160, 12, 62, 3), (163, 12, 0, 0), (166, 12, 14, 4), (191, 12, 5, 0), (213, 12, 6, 0), (219, 12, 7, 0), (222, 12, 18, 0), (225, 12, 19, 4), (235, 12, 59, 0), (256, 12, 60, 4), (308, 12, 15, 4), (326, 12, 25, 0), (329, 12, 17, 4), (335, 12, 16, 4)]
def FX12i : List (Nat × Nat × Nat × Nat) := [(7, 12, 1, 0), (13, 12, 2, 0), (16, 12, 3, 2), (20, 12, 4, 2), (23, 12, 8, 2), (26, 12, 9, 2), (29, 12, 10, 2), (32, 12, 11, 2), (35, 12, 12, 2), (39, 12, 13, 2), (42, 12, 20, 2), (45, 12, 21, 2), (48, 12, 22, 2), (51, 12, 23, 2), (54, 12, 24, 2), (57, 12, 26, 2), (60, 12, 27, 2), (63, 12, 28, 2), (66, 12, 29, 2), (69, 12, 30, 2), (72, 12, 31, 2), (75, 12, 32, 2), (78, 12, 33, 2), (81, 12, 34, 2), (84, 12, 35, 2), (87, 12, 36, 2), (90, 12, 37, 2), (93, 12, 38, 2), (96, 12, 39, 2), (99, 12, 40, 2), (102, 12, 41, 2), (105, 12, 42, 2), (108, 12, 43, 2), (111, 12, 44, 2), (115, 12, 45, 2), (118, 12, 46, 2), (121, 12, 47, 2), (124, 12, 48, 2), (127, 12, 49, 2), (130, 12, 50, 2), (133, 12, 51, 2), (136, 12, 52, 2), (139, 12, 53, 2), (142, 12, 54, 2), (145, 12, 55, 2), (148, 12, 56, 2), (151, 12, 57, 2), (154, 12, 58, 2), (157, 12, 61, 2), (160, 12, 62, 2), (163, 12, 0, 0), (166, 12, 14, 4), (191, 12, 5, 0), (213, 12, 6, 0), (219, 12, 7, 0), (222, 12, 18, 0), (225, 12, 19, 4), (235, 12, 59, 0), (256, 12, 60, 4), (308, 12, 15, 4), (326, 12, 25, 0), (329, 12, 17, 4), (335, 12, 16, 4)]
def CX12 : List (Nat × AV) := [(176, vI (-2147483648)), (177, vF 1148846080), (185, vI 100000), (186, vI 10000000), (187, vI 50000), (188, vI 1000000), (189, vI 60000), (190, vI 100000000), (238, vL 17179869184), (259, vL 268435455), (314, vL 2147483647), (316, vI 2147483647)]
def NwX12 : List (Nat × (Nat ⊕ String)) := []
def StX12 : List (Nat × Nat) := []
theorem tab_X12 : tabB FX12 CX12 StX12 NwX12 RX12 = true := by decide +kernel
theorem tab_X12i : tabB FX12i CX12 StX12 NwX12 RX12 = true := by decide +kernel
def FX1 : List (Nat × Nat × Nat × Nat) := [(18, 1, 1, 3), (23, 1, 0, 0)]
def FX1i : List (Nat × Nat × Nat × Nat) := [(18, 1, 1, 2), (23, 1, 0, 0)]
def CX1 : List (Nat × AV) := []
def NwX1 : List (Nat × (Nat ⊕ String)) := []
def StX1 : List (Nat × Nat) := [(9, 1)]
theorem tab_X1 : tabB FX1 CX1 StX1 NwX1 RX1 = true := by decide +kernel
theorem tab_X1i : tabB FX1i CX1 StX1 NwX1 RX1 = true := by decide +kernel
def FX6 : List (Nat × Nat × Nat × Nat) := [(22, 6, 1, 3)]
def FX6i : List (Nat × Nat × Nat × Nat) := [(22, 6, 1, 2)]
def CX6 : List (Nat × AV) := []
def NwX6 : List (Nat × (Nat ⊕ String)) := []
def StX6 : List (Nat × Nat) := []
theorem tab_X6 : tabB FX6 CX6 StX6 NwX6 RX6 = true := by decide +kernel
theorem tab_X6i : tabB FX6i CX6 StX6 NwX6 RX6 = true := by decide +kernel
def FX2 : List (Nat × Nat × Nat × Nat) := [(17, 2, 1, 3)]
def FX2i : List (Nat × Nat × Nat × Nat) := [(17, 2, 1, 2)]
def CX2 : List (Nat × AV) := []
def NwX2 : List (Nat × (Nat ⊕ String)) := []
def StX2 : List (Nat × Nat) := []
theorem tab_X2 : tabB FX2 CX2 StX2 NwX2 RX2 = true := by decide +kernel
theorem tab_X2i : tabB FX2i CX2 StX2 NwX2 RX2 = true := by decide +kernel
def FX3 : List (Nat × Nat × Nat × Nat) := [(17, 3, 1, 3)]
def FX3i : List (Nat × Nat × Nat × Nat) := [(17, 3, 1, 2)]
def CX3 : List (Nat × AV) := []
def NwX3 : List (Nat × (Nat ⊕ String)) := []
def StX3 : List (Nat × Nat) := []
theorem tab_X3 : tabB FX3 CX3 StX3 NwX3 RX3 = true := by decide +kernel
theorem tab_X3i : tabB FX3i CX3 StX3 NwX3 RX3 = true := by decide +kernel
def FX0 : List (Nat × Nat × Nat × Nat) := [(13, 0, 1, 3)]
def FX0i : List (Nat × Nat × Nat × Nat) := [(13, 0, 1, 2)]
def CX0 : List (Nat × AV) := []
def NwX0 : List (Nat × (Nat ⊕ String)) := []
def StX0 : List (Nat × Nat) := []
theorem tab_X0 : tabB FX0 CX0 StX0 NwX0 RX0 = true := by decide +kernel
theorem tab_X0i : tabB FX0i CX0 StX0 NwX0 RX0 = true := by decide +kernel
theorem tab_e : tabB [] [] [] [] RL = true := by decide +kernel
