def B_J7_fill_53178 : List (Nat × List (Nat × Instr × Nat)) := [(0, [(0, .iconst 0, 1), (1, .istore_n 2, 1), (2, .aload_n 0, 1), (3, .arraylength, 1), (4, .istore_n 3, 1)]),
  (5, [(5, .iload_n 2, 1), (6, .iload_n 3, 1), (7, .if_icmp .ge 13, 3), (10, .aload_n 0, 1), (11, .iload_n 2, 1), (12, .iload_n 1, 1), (13, .iastore, 1), (14, .iinc 2 1, 3), (17, .goto (-12), 3)]),
  (20, [(20, .return_, 1)])]
def T_J7_fill_53178 (tb : Nat → Option (Nat × Nat)) : List (Nat × IV) := []
def M_J7_fill_53178 (tb : Nat → Option (Nat × Nat)) : MT := (tb, FJ7, StJ7, CJ7, NwJ7, ivOf (T_J7_fill_53178 tb), 0, 0, 0)
def r_J7_fill_53178 (tb : Nat → Option (Nat × Nat)) (K : Option AV → AX → Prop) (KX : String → AX → Prop) : PT := lfp (wpm (M_J7_fill_53178 tb) B_J7_fill_53178 K (fun _ _ _ E X _ _ => KX E X))
def w_J7_fill_53178 (tb : Nat → Option (Nat × Nat)) : WP := fun as X K KX => gd ((ini0 as).length ≤ 4) (r_J7_fill_53178 tb K KX 0 (iniL as 4) [] X 0 0)
theorem k_J7_fill_53178 : B_J7_fill_53178.all (blkB FJ7 CJ7 NwJ7 RJ7 false cJ7_fill_53178) = true := by decide +kernel
theorem g_J7_fill_53178 : gw (.code yJ7_fill_53178 cJ7_fill_53178 4 none) = true ∧ gw (.initialized yJ7_fill_53178.cls) = true := by decide +kernel
theorem c_J7_fill_53178 {l : Launch} {G : GX} (hl : l.stackTraces = false) : ∀ as X K KX, w_J7_fill_53178 (gT G) as X K KX → CT l G yJ7_fill_53178 (.code yJ7_fill_53178 cJ7_fill_53178 4 none) 0 0 0 0 as X K KX := fun as X K KX h => CT_of (M := M_J7_fill_53178 (gT G)) (own := RJ7) (ini := false) (T := T_J7_fill_53178 (gT G)) (B := B_J7_fill_53178) (by decide +kernel) hl rfl (fun h => absurd h (by decide)) rfl tab_J7 k_J7_fill_53178 rfl (Or.inl rfl) rfl
  trivial (gd_use h).1 (gd_use h).2
theorem oi_X8_3 : gw (.methodLink RX8 3 objectInit) = true := by decide +kernel
theorem st_J7_fill_53178 : gw (.static yJ7_fill_53178) = true := by decide +kernel
theorem py_J7_fill_53178 : plainY yJ7_fill_53178 2 = true := by decide +kernel
theorem ml_X8_19 : gw (.methodLink RX8 19 yJ7_fill_53178) = true := by decide +kernel
def B_X8_init : List (Nat × List (Nat × Instr × Nat)) := [(0, [(0, .aload_n 0, 1), (1, .invokespecial 3, 3), (4, .aload_n 0, 1), (5, .sipush 3840, 3), (8, .newarray .short, 2), (10, .putfield 9, 3), (13, .aload_n 0, 1), (14, .bipush 64, 2), (16, .newarray .int, 2), (18, .putfield 15, 3), (21, .aload_n 0, 1), (22, .getfield 15, 3), (25, .iconst (-1), 1), (26, .invokestatic 19, 3), (29, .return_, 1)])]
def T_X8_init (tb : Nat → Option (Nat × Nat)) : List (Nat × IV) := [(13, ivO), (78, ivS 2 3904 2 0 0 0 (w_J7_fill_53178 tb))]
def M_X8_init (tb : Nat → Option (Nat × Nat)) : MT := (tb, FX8i, StX8, CX8, NwX8, ivOf (T_X8_init tb), 2, 3904, 5)
def r_X8_init (tb : Nat → Option (Nat × Nat)) (K : Option AV → AX → Prop) (KX : String → AX → Prop) : PT := lfp (wpm (M_X8_init tb) B_X8_init K (fun _ _ _ E X _ _ => KX E X))
def w_X8_init (tb : Nat → Option (Nat × Nat)) : WP := fun as X K KX => gd ((ini0 as).length ≤ 1) (r_X8_init tb K KX 0 (iniL as 1) [] X 0 0)
theorem k_X8_init : B_X8_init.all (blkB FX8i CX8 NwX8 RX8 true cX8_init) = true := by decide +kernel
theorem g_X8_init : gw (.code yX8_init cX8_init 1 none) = true ∧ gw (.initialized yX8_init.cls) = true := by decide +kernel
theorem c_X8_init {l : Launch} {G : GX} (hl : l.stackTraces = false) : ∀ as X K KX, w_X8_init (gT G) as X K KX → CT l G yX8_init (.code yX8_init cX8_init 1 none) 1 23 2 3904 as X K KX := fun as X K KX h => CT_of (M := M_X8_init (gT G)) (own := RX8) (ini := true) (T := T_X8_init (gT G)) (B := B_X8_init) (by decide +kernel) hl rfl (fun h => rfl) rfl tab_X8i k_X8_init rfl (Or.inl rfl) rfl
  ⟨ivO_ok oi_X8_3 rfl, ivS_ok (c_J7_fill_53178 hl) g_J7_fill_53178.1 g_J7_fill_53178.2 ml_X8_19 st_J7_fill_53178 py_J7_fill_53178 rfl, trivial⟩ (gd_use h).1 (gd_use h).2
theorem oi_X9_3 : gw (.methodLink RX9 3 objectInit) = true := by decide +kernel
def B_X9_init : List (Nat × List (Nat × Instr × Nat)) := [(0, [(0, .aload_n 0, 1), (1, .invokespecial 3, 3), (4, .aload_n 0, 1), (5, .bipush 40, 2), (7, .newarray .boolean, 2), (9, .putfield 9, 3), (12, .aload_n 0, 1), (13, .bipush 40, 2), (15, .newarray .int, 2), (17, .putfield 15, 3), (20, .return_, 1)])]
def T_X9_init (tb : Nat → Option (Nat × Nat)) : List (Nat × IV) := [(13, ivO)]
def M_X9_init (tb : Nat → Option (Nat × Nat)) : MT := (tb, FX9i, StX9, CX9, NwX9, ivOf (T_X9_init tb), 2, 80, 5)
def r_X9_init (tb : Nat → Option (Nat × Nat)) (K : Option AV → AX → Prop) (KX : String → AX → Prop) : PT := lfp (wpm (M_X9_init tb) B_X9_init K (fun _ _ _ E X _ _ => KX E X))
def w_X9_init (tb : Nat → Option (Nat × Nat)) : WP := fun as X K KX => gd ((ini0 as).length ≤ 1) (r_X9_init tb K KX 0 (iniL as 1) [] X 0 0)
theorem k_X9_init : B_X9_init.all (blkB FX9i CX9 NwX9 RX9 true cX9_init) = true := by decide +kernel
theorem g_X9_init : gw (.code yX9_init cX9_init 1 none) = true ∧ gw (.initialized yX9_init.cls) = true := by decide +kernel
theorem c_X9_init {l : Launch} {G : GX} (hl : l.stackTraces = false) : ∀ as X K KX, w_X9_init (gT G) as X K KX → CT l G yX9_init (.code yX9_init cX9_init 1 none) 1 20 2 80 as X K KX := fun as X K KX h => CT_of (M := M_X9_init (gT G)) (own := RX9) (ini := true) (T := T_X9_init (gT G)) (B := B_X9_init) (by decide +kernel) hl rfl (fun h => rfl) rfl tab_X9i k_X9_init rfl (Or.inl rfl) rfl
  ⟨ivO_ok oi_X9_3 rfl, trivial⟩ (gd_use h).1 (gd_use h).2
theorem oi_X7_3 : gw (.methodLink RX7 3 objectInit) = true := by decide +kernel
def B_X7_init : List (Nat × List (Nat × Instr × Nat)) := [(0, [(0, .aload_n 0, 1), (1, .invokespecial 3, 3), (4, .aload_n 0, 1), (5, .bipush 24, 2), (7, .newarray .int, 2), (9, .putfield 9, 3), (12, .aload_n 0, 1), (13, .bipush 24, 2), (15, .newarray .int, 2), (17, .putfield 13, 3), (20, .aload_n 0, 1), (21, .bipush 24, 2), (23, .newarray .int, 2), (25, .putfield 16, 3), (28, .aload_n 0, 1), (29, .iconst 2, 1), (30, .putfield 19, 3), (33, .aload_n 0, 1), (34, .getfield 13, 3), (37, .iconst 0, 1), (38, .iconst 1, 1), (39, .iastore, 1), (40, .return_, 1)])]
def T_X7_init (tb : Nat → Option (Nat × Nat)) : List (Nat × IV) := [(13, ivO)]
def M_X7_init (tb : Nat → Option (Nat × Nat)) : MT := (tb, FX7i, StX7, CX7, NwX7, ivOf (T_X7_init tb), 3, 72, 5)
def r_X7_init (tb : Nat → Option (Nat × Nat)) (K : Option AV → AX → Prop) (KX : String → AX → Prop) : PT := lfp (wpm (M_X7_init tb) B_X7_init K (fun _ _ _ E X _ _ => KX E X))
def w_X7_init (tb : Nat → Option (Nat × Nat)) : WP := fun as X K KX => gd ((ini0 as).length ≤ 1) (r_X7_init tb K KX 0 (iniL as 1) [] X 0 0)
theorem k_X7_init : B_X7_init.all (blkB FX7i CX7 NwX7 RX7 true cX7_init) = true := by decide +kernel
theorem g_X7_init : gw (.code yX7_init cX7_init 1 none) = true ∧ gw (.initialized yX7_init.cls) = true := by decide +kernel
theorem c_X7_init {l : Launch} {G : GX} (hl : l.stackTraces = false) : ∀ as X K KX, w_X7_init (gT G) as X K KX → CT l G yX7_init (.code yX7_init cX7_init 1 none) 1 20 3 72 as X K KX := fun as X K KX h => CT_of (M := M_X7_init (gT G)) (own := RX7) (ini := true) (T := T_X7_init (gT G)) (B := B_X7_init) (by decide +kernel) hl rfl (fun h => rfl) rfl tab_X7i k_X7_init rfl (Or.inl rfl) rfl
  ⟨ivO_ok oi_X7_3 rfl, trivial⟩ (gd_use h).1 (gd_use h).2
theorem oi_X5_3 : gw (.methodLink RX5 3 objectInit) = true := by decide +kernel
theorem py_X7_init : plainY yX7_init 0 = true := by decide +kernel
theorem in_X7_init : gw (.instanceMethod yX7_init) = true := by decide +kernel
theorem ml_X5_11 : gw (.methodLink RX5 11 yX7_init) = true := by decide +kernel
def B_X5_init : List (Nat × List (Nat × Instr × Nat)) := [(0, [(0, .aload_n 0, 1), (1, .invokespecial 3, 3), (4, .aload_n 0, 1), (5, .new 9, 3), (8, .dup, 1), (9, .invokespecial 11, 3), (12, .putfield 12, 3), (15, .return_, 1)])]
def T_X5_init (tb : Nat → Option (Nat × Nat)) : List (Nat × IV) := [(13, ivO), (45, ivI 4 76 0 3 72 0 (w_X7_init tb))]
def M_X5_init (tb : Nat → Option (Nat × Nat)) : MT := (tb, FX5i, StX5, CX5, NwX5, ivOf (T_X5_init tb), 4, 76, 5)
def r_X5_init (tb : Nat → Option (Nat × Nat)) (K : Option AV → AX → Prop) (KX : String → AX → Prop) : PT := lfp (wpm (M_X5_init tb) B_X5_init K (fun _ _ _ E X _ _ => KX E X))
def w_X5_init (tb : Nat → Option (Nat × Nat)) : WP := fun as X K KX => gd ((ini0 as).length ≤ 1) (r_X5_init tb K KX 0 (iniL as 1) [] X 0 0)
theorem k_X5_init : B_X5_init.all (blkB FX5i CX5 NwX5 RX5 true cX5_init) = true := by decide +kernel
theorem g_X5_init : gw (.code yX5_init cX5_init 1 none) = true ∧ gw (.initialized yX5_init.cls) = true := by decide +kernel
theorem c_X5_init {l : Launch} {G : GX} (hl : l.stackTraces = false) : ∀ as X K KX, w_X5_init (gT G) as X K KX → CT l G yX5_init (.code yX5_init cX5_init 1 none) 2 40 4 76 as X K KX := fun as X K KX h => CT_of (M := M_X5_init (gT G)) (own := RX5) (ini := true) (T := T_X5_init (gT G)) (B := B_X5_init) (by decide +kernel) hl rfl (fun h => rfl) rfl tab_X5i k_X5_init rfl (Or.inr (Or.inl nw_X5)) rfl
  ⟨ivO_ok oi_X5_3 rfl, ivI_ok (c_X7_init hl) g_X7_init.1 g_X7_init.2 ml_X5_11 in_X7_init py_X7_init rfl rfl, trivial⟩ (gd_use h).1 (gd_use h).2
theorem oi_X4_3 : gw (.methodLink RX4 3 objectInit) = true := by decide +kernel
theorem py_X5_init : plainY yX5_init 0 = true := by decide +kernel
theorem in_X5_init : gw (.instanceMethod yX5_init) = true := by decide +kernel
theorem ml_X4_11 : gw (.methodLink RX4 11 yX5_init) = true := by decide +kernel
def B_X4_init : List (Nat × List (Nat × Instr × Nat)) := [(0, [(0, .aload_n 0, 1), (1, .invokespecial 3, 3), (4, .aload_n 0, 1), (5, .new 9, 3), (8, .dup, 1), (9, .invokespecial 11, 3), (12, .putfield 12, 3), (15, .aload_n 0, 1), (16, .sipush 3840, 3), (19, .newarray .short, 2), (21, .putfield 18, 3), (24, .aload_n 0, 1), (25, .bipush 50, 2), (27, .newarray .int, 2), (29, .putfield 22, 3), (32, .aload_n 0, 1), (33, .bipush 50, 2), (35, .anewarray 26, 3), (38, .putfield 28, 3), (41, .aload_n 0, 1), (42, .iconst (-1), 1), (43, .putfield 32, 3), (46, .return_, 1)])]
def T_X4_init (tb : Nat → Option (Nat × Nat)) : List (Nat × IV) := [(13, ivO), (45, ivI 8 4031 0 4 76 0 (w_X5_init tb))]
def M_X4_init (tb : Nat → Option (Nat × Nat)) : MT := (tb, FX4i, StX4, CX4, NwX4, ivOf (T_X4_init tb), 8, 4031, 5)
def r_X4_init (tb : Nat → Option (Nat × Nat)) (K : Option AV → AX → Prop) (KX : String → AX → Prop) : PT := lfp (wpm (M_X4_init tb) B_X4_init K (fun _ _ _ E X _ _ => KX E X))
def w_X4_init (tb : Nat → Option (Nat × Nat)) : WP := fun as X K KX => gd ((ini0 as).length ≤ 1) (r_X4_init tb K KX 0 (iniL as 1) [] X 0 0)
theorem k_X4_init : B_X4_init.all (blkB FX4i CX4 NwX4 RX4 true cX4_init) = true := by decide +kernel
theorem g_X4_init : gw (.code yX4_init cX4_init 1 none) = true ∧ gw (.initialized yX4_init.cls) = true := by decide +kernel
theorem c_X4_init {l : Launch} {G : GX} (hl : l.stackTraces = false) : ∀ as X K KX, w_X4_init (gT G) as X K KX → CT l G yX4_init (.code yX4_init cX4_init 1 none) 3 60 8 4031 as X K KX := fun as X K KX h => CT_of (M := M_X4_init (gT G)) (own := RX4) (ini := true) (T := T_X4_init (gT G)) (B := B_X4_init) (by decide +kernel) hl rfl (fun h => rfl) rfl tab_X4i k_X4_init rfl (Or.inr (Or.inl nw_X4)) rfl
  ⟨ivO_ok oi_X4_3 rfl, ivI_ok (c_X5_init hl) g_X5_init.1 g_X5_init.2 ml_X4_11 in_X5_init py_X5_init rfl rfl, trivial⟩ (gd_use h).1 (gd_use h).2
theorem oi_X10_3 : gw (.methodLink RX10 3 objectInit) = true := by decide +kernel
def B_X10_init : List (Nat × List (Nat × Instr × Nat)) := [(0, [(0, .aload_n 0, 1), (1, .invokespecial 3, 3), (4, .aload_n 0, 1), (5, .bipush 20, 2), (7, .newarray .int, 2), (9, .putfield 9, 3), (12, .aload_n 0, 1), (13, .bipush 20, 2), (15, .newarray .int, 2), (17, .putfield 15, 3), (20, .return_, 1)])]
def T_X10_init (tb : Nat → Option (Nat × Nat)) : List (Nat × IV) := [(13, ivO)]
def M_X10_init (tb : Nat → Option (Nat × Nat)) : MT := (tb, FX10i, StX10, CX10, NwX10, ivOf (T_X10_init tb), 2, 40, 5)
def r_X10_init (tb : Nat → Option (Nat × Nat)) (K : Option AV → AX → Prop) (KX : String → AX → Prop) : PT := lfp (wpm (M_X10_init tb) B_X10_init K (fun _ _ _ E X _ _ => KX E X))
def w_X10_init (tb : Nat → Option (Nat × Nat)) : WP := fun as X K KX => gd ((ini0 as).length ≤ 1) (r_X10_init tb K KX 0 (iniL as 1) [] X 0 0)
theorem k_X10_init : B_X10_init.all (blkB FX10i CX10 NwX10 RX10 true cX10_init) = true := by decide +kernel
theorem g_X10_init : gw (.code yX10_init cX10_init 1 none) = true ∧ gw (.initialized yX10_init.cls) = true := by decide +kernel
theorem c_X10_init {l : Launch} {G : GX} (hl : l.stackTraces = false) : ∀ as X K KX, w_X10_init (gT G) as X K KX → CT l G yX10_init (.code yX10_init cX10_init 1 none) 1 20 2 40 as X K KX := fun as X K KX h => CT_of (M := M_X10_init (gT G)) (own := RX10) (ini := true) (T := T_X10_init (gT G)) (B := B_X10_init) (by decide +kernel) hl rfl (fun h => rfl) rfl tab_X10i k_X10_init rfl (Or.inl rfl) rfl
  ⟨ivO_ok oi_X10_3 rfl, trivial⟩ (gd_use h).1 (gd_use h).2
theorem oi_X11_1 : gw (.methodLink RX11 1 objectInit) = true := by decide +kernel
theorem py_X8_init : plainY yX8_init 0 = true := by decide +kernel
theorem in_X8_init : gw (.instanceMethod yX8_init) = true := by decide +kernel
theorem ml_X11_18 : gw (.methodLink RX11 18 yX8_init) = true := by decide +kernel
theorem py_X9_init : plainY yX9_init 0 = true := by decide +kernel
theorem in_X9_init : gw (.instanceMethod yX9_init) = true := by decide +kernel
theorem ml_X11_38 : gw (.methodLink RX11 38 yX9_init) = true := by decide +kernel
theorem py_X4_init : plainY yX4_init 0 = true := by decide +kernel
theorem in_X4_init : gw (.instanceMethod yX4_init) = true := by decide +kernel
theorem ml_X11_45 : gw (.methodLink RX11 45 yX4_init) = true := by decide +kernel
theorem ml_X11_55 : gw (.methodLink RX11 55 yX5_init) = true := by decide +kernel
theorem py_X10_init : plainY yX10_init 0 = true := by decide +kernel
theorem in_X10_init : gw (.instanceMethod yX10_init) = true := by decide +kernel
theorem ml_X11_68 : gw (.methodLink RX11 68 yX10_init) = true := by decide +kernel
theorem tab_X11i_X11_init : tabB FX11i CX11 StX11 [(16, .inl 8), (36, .inl 9), (43, .inl 4), (53, .inl 5), (66, .inl 10)] RX11 = true := tab_sub tab_X11i (by simp [NwX11])
def B_X11_init : List (Nat × List (Nat × Instr × Nat)) := [(0, [(0, .aload_n 0, 1), (1, .invokespecial 1, 3), (4, .aload_n 0, 1), (5, .sipush 2000, 3), (8, .putfield 7, 3), (11, .aload_n 0, 1), (12, .iconst 4, 1), (13, .putfield 13, 3), (16, .aload_n 0, 1), (17, .new 16, 3), (20, .dup, 1), (21, .invokespecial 18, 3), (24, .putfield 19, 3), (27, .aload_n 0, 1), (28, .bipush 12, 2), (30, .anewarray 23, 3), (33, .putfield 25, 3), (36, .aload_n 0, 1), (37, .bipush 12, 2), (39, .newarray .int, 2), (41, .putfield 29, 3), (44, .aload_n 0, 1), (45, .bipush 12, 2), (47, .newarray .int, 2), (49, .putfield 33, 3), (52, .aload_n 0, 1), (53, .new 36, 3), (56, .dup, 1), (57, .invokespecial 38, 3), (60, .putfield 39, 3), (63, .aload_n 0, 1), (64, .new 43, 3), (67, .dup, 1), (68, .invokespecial 45, 3), (71, .putfield 46, 3), (74, .aload_n 0, 1), (75, .bipush 64, 2), (77, .newarray .int, 2), (79, .putfield 50, 3), (82, .aload_n 0, 1), (83, .new 53, 3), (86, .dup, 1), (87, .invokespecial 55, 3), (90, .putfield 56, 3), (93, .aload_n 0, 1), (94, .iconst (-1), 1), (95, .putfield 60, 3), (98, .aload_n 0, 1), (99, .new 53, 3), (102, .dup, 1), (103, .invokespecial 55, 3), (106, .putfield 63, 3), (109, .aload_n 0, 1), (110, .new 66, 3), (113, .dup, 1), (114, .invokespecial 68, 3), (117, .putfield 69, 3), (120, .aload_n 0, 1), (121, .new 53, 3), (124, .dup, 1), (125, .invokespecial 55, 3), (128, .putfield 73, 3), (131, .return_, 1)])]
def T_X11_init (tb : Nat → Option (Nat × Nat)) : List (Nat × IV) := [(5, ivO), (73, ivI 37 8450 0 2 3904 0 (w_X8_init tb)), (153, ivI 37 8450 0 2 80 0 (w_X9_init tb)), (181, ivI 37 8450 0 8 4031 0 (w_X4_init tb)), (221, ivI 37 8450 0 4 76 0 (w_X5_init tb)), (273, ivI 37 8450 0 2 40 0 (w_X10_init tb))]
def M_X11_init (tb : Nat → Option (Nat × Nat)) : MT := (tb, FX11i, StX11, CX11, [(16, .inl 8), (36, .inl 9), (43, .inl 4), (53, .inl 5), (66, .inl 10)], ivOf (T_X11_init tb), 37, 8450, 5)
def r_X11_init (tb : Nat → Option (Nat × Nat)) (K : Option AV → AX → Prop) (KX : String → AX → Prop) : PT := lfp (wpm (M_X11_init tb) B_X11_init K (fun _ _ _ E X _ _ => KX E X))
def w_X11_init (tb : Nat → Option (Nat × Nat)) : WP := fun as X K KX => gd ((ini0 as).length ≤ 1) (r_X11_init tb K KX 0 (iniL as 1) [] X 0 0)
theorem k_X11_init : B_X11_init.all (blkB FX11i CX11 [(16, .inl 8), (36, .inl 9), (43, .inl 4), (53, .inl 5), (66, .inl 10)] RX11 true cX11_init) = true := by decide +kernel
theorem g_X11_init : gw (.code yX11_init cX11_init 1 none) = true ∧ gw (.initialized yX11_init.cls) = true := by decide +kernel
theorem c_X11_init {l : Launch} {G : GX} (hl : l.stackTraces = false) : ∀ as X K KX, w_X11_init (gT G) as X K KX → CT l G yX11_init (.code yX11_init cX11_init 1 none) 4 80 37 8450 as X K KX := fun as X K KX h => CT_of (M := M_X11_init (gT G)) (own := RX11) (ini := true) (T := T_X11_init (gT G)) (B := B_X11_init) (by decide +kernel) hl rfl (fun h => rfl) rfl tab_X11i_X11_init k_X11_init rfl (Or.inr (Or.inl (by simp [M_X11_init, mNw]))) rfl
  ⟨ivO_ok oi_X11_1 rfl, ivI_ok (c_X8_init hl) g_X8_init.1 g_X8_init.2 ml_X11_18 in_X8_init py_X8_init rfl rfl, ivI_ok (c_X9_init hl) g_X9_init.1 g_X9_init.2 ml_X11_38 in_X9_init py_X9_init rfl rfl, ivI_ok (c_X4_init hl) g_X4_init.1 g_X4_init.2 ml_X11_45 in_X4_init py_X4_init rfl rfl, ivI_ok (c_X5_init hl) g_X5_init.1 g_X5_init.2 ml_X11_55 in_X5_init py_X5_init rfl rfl, ivI_ok (c_X10_init hl) g_X10_init.1 g_X10_init.2 ml_X11_68 in_X10_init py_X10_init rfl rfl, trivial⟩ (gd_use h).1 (gd_use h).2
def B_X11_demandState : List (Nat × List (Nat × Instr × Nat)) := [(0, [(0, .iload_n 0, 1), (1, .ifCond .ne 11, 3), (4, .new 296, 3)]),
  (12, [(12, .return_, 1)])]
def T_X11_demandState (tb : Nat → Option (Nat × Nat)) : List (Nat × IV) := []
def M_X11_demandState (tb : Nat → Option (Nat × Nat)) : MT := (tb, FX11, StX11, CX11, NwX11, ivOf (T_X11_demandState tb), 1, 6, 0)
def r_X11_demandState (tb : Nat → Option (Nat × Nat)) (K : Option AV → AX → Prop) (KX : String → AX → Prop) : PT := lfp (wpm (M_X11_demandState tb) B_X11_demandState K (fun _ _ _ E X _ _ => KX E X))
def w_X11_demandState (tb : Nat → Option (Nat × Nat)) : WP := fun as X K KX => gd ((ini0 as).length ≤ 1) (r_X11_demandState tb K KX 0 (iniL as 1) [] X 0 0)
theorem k_X11_demandState : B_X11_demandState.all (blkB FX11 CX11 NwX11 RX11 false cX11_demandState) = true := by decide +kernel
theorem g_X11_demandState : gw (.code yX11_demandState cX11_demandState 1 none) = true ∧ gw (.initialized yX11_demandState.cls) = true := by decide +kernel
theorem c_X11_demandState {l : Launch} {G : GX} (hl : l.stackTraces = false) : ∀ as X K KX, w_X11_demandState (gT G) as X K KX → CT l G yX11_demandState (.code yX11_demandState cX11_demandState 1 none) 6 81 1 6 as X K KX := fun as X K KX h => CT_of (M := M_X11_demandState (gT G)) (own := RX11) (ini := false) (T := T_X11_demandState (gT G)) (B := B_X11_demandState) (by decide +kernel) hl rfl (fun h => absurd h (by decide)) rfl tab_X11 k_X11_demandState rfl (Or.inr (Or.inr ⟨by decide, by decide⟩)) rfl
  trivial (gd_use h).1 (gd_use h).2
theorem st_X11_demandState : gw (.static yX11_demandState) = true := by decide +kernel
theorem py_X11_demandState : plainY yX11_demandState 1 = true := by decide +kernel
theorem ml_X11_193 : gw (.methodLink RX11 193 yX11_demandState) = true := by decide +kernel
def B_X11_refuseWhileHired : List (Nat × List (Nat × Instr × Nat)) := [(0, [(0, .aload_n 0, 1), (1, .getfield 46, 3), (4, .getfield 258, 3), (7, .ifCond .ne 7, 3), (10, .iconst 1, 1), (11, .goto 4, 3)]),
  (14, [(14, .iconst 0, 1)]),
  (15, [(15, .invokestatic 193, 3), (18, .return_, 1)])]
def T_X11_refuseWhileHired (tb : Nat → Option (Nat × Nat)) : List (Nat × IV) := [(774, ivS 1 6 1 1 6 0 (w_X11_demandState tb))]
def M_X11_refuseWhileHired (tb : Nat → Option (Nat × Nat)) : MT := (tb, FX11, StX11, CX11, NwX11, ivOf (T_X11_refuseWhileHired tb), 1, 6, 0)
def r_X11_refuseWhileHired (tb : Nat → Option (Nat × Nat)) (K : Option AV → AX → Prop) (KX : String → AX → Prop) : PT := lfp (wpm (M_X11_refuseWhileHired tb) B_X11_refuseWhileHired K (fun _ _ _ E X _ _ => KX E X))
def w_X11_refuseWhileHired (tb : Nat → Option (Nat × Nat)) : WP := fun as X K KX => gd ((ini0 as).length ≤ 1) (r_X11_refuseWhileHired tb K KX 0 (iniL as 1) [] X 0 0)
theorem k_X11_refuseWhileHired : B_X11_refuseWhileHired.all (blkB FX11 CX11 NwX11 RX11 false cX11_refuseWhileHired) = true := by decide +kernel
theorem g_X11_refuseWhileHired : gw (.code yX11_refuseWhileHired cX11_refuseWhileHired 1 none) = true ∧ gw (.initialized yX11_refuseWhileHired.cls) = true := by decide +kernel
theorem c_X11_refuseWhileHired {l : Launch} {G : GX} (hl : l.stackTraces = false) : ∀ as X K KX, w_X11_refuseWhileHired (gT G) as X K KX → CT l G yX11_refuseWhileHired (.code yX11_refuseWhileHired cX11_refuseWhileHired 1 none) 7 101 1 6 as X K KX := fun as X K KX h => CT_of (M := M_X11_refuseWhileHired (gT G)) (own := RX11) (ini := false) (T := T_X11_refuseWhileHired (gT G)) (B := B_X11_refuseWhileHired) (by decide +kernel) hl rfl (fun h => absurd h (by decide)) rfl tab_X11 k_X11_refuseWhileHired rfl (Or.inr (Or.inr ⟨by decide, by decide⟩)) rfl
  ⟨ivS_ok (c_X11_demandState hl) g_X11_demandState.1 g_X11_demandState.2 ml_X11_193 st_X11_demandState py_X11_demandState rfl, trivial⟩ (gd_use h).1 (gd_use h).2
theorem tab_X11_X11_isFrom : tabB FX11 CX11 StX11 [] RX11 = true := tab_sub tab_X11 (fun _ h => by cases h)
def B_X11_isFrom : List (Nat × List (Nat × Instr × Nat)) := [(0, [(0, .iload_n 0, 1), (1, .iload_n 1, 1), (2, .if_icmp .lt 12, 3), (5, .iload_n 0, 1), (6, .iload_n 2, 1), (7, .if_icmp .gt 7, 3), (10, .iconst 1, 1), (11, .goto 4, 3)]),
  (14, [(14, .iconst 0, 1)]),
  (15, [(15, .ireturn, 1)])]
def T_X11_isFrom (tb : Nat → Option (Nat × Nat)) : List (Nat × IV) := []
def M_X11_isFrom (tb : Nat → Option (Nat × Nat)) : MT := (tb, FX11, StX11, CX11, [], ivOf (T_X11_isFrom tb), 0, 0, 2)
def r_X11_isFrom (tb : Nat → Option (Nat × Nat)) (K : Option AV → AX → Prop) (KX : String → AX → Prop) : PT := lfp (wpm (M_X11_isFrom tb) B_X11_isFrom K (fun _ _ _ E X _ _ => KX E X))
def w_X11_isFrom (tb : Nat → Option (Nat × Nat)) : WP := fun as X K KX => gd ((ini0 as).length ≤ 3) (r_X11_isFrom tb K KX 0 (iniL as 3) [] X 0 0)
theorem k_X11_isFrom : B_X11_isFrom.all (blkB FX11 CX11 [] RX11 false cX11_isFrom) = true := by decide +kernel
theorem g_X11_isFrom : gw (.code yX11_isFrom cX11_isFrom 3 (some .boolean)) = true ∧ gw (.initialized yX11_isFrom.cls) = true := by decide +kernel
theorem c_X11_isFrom {l : Launch} {G : GX} (hl : l.stackTraces = false) : ∀ as X K KX, w_X11_isFrom (gT G) as X K KX → CT l G yX11_isFrom (.code yX11_isFrom cX11_isFrom 3 (some .boolean)) 0 0 0 0 as X K KX := fun as X K KX h => CT_of (M := M_X11_isFrom (gT G)) (own := RX11) (ini := false) (T := T_X11_isFrom (gT G)) (B := B_X11_isFrom) (by decide +kernel) hl rfl (fun h => absurd h (by decide)) rfl tab_X11_X11_isFrom k_X11_isFrom rfl (Or.inl rfl) rfl
  trivial (gd_use h).1 (gd_use h).2
def B_X11_demand : List (Nat × List (Nat × Instr × Nat)) := [(0, [(0, .iload_n 0, 1), (1, .ifCond .ne 11, 3), (4, .new 293, 3)]),
  (12, [(12, .return_, 1)])]
def T_X11_demand (tb : Nat → Option (Nat × Nat)) : List (Nat × IV) := []
def M_X11_demand (tb : Nat → Option (Nat × Nat)) : MT := (tb, FX11, StX11, CX11, NwX11, ivOf (T_X11_demand tb), 1, 6, 0)
def r_X11_demand (tb : Nat → Option (Nat × Nat)) (K : Option AV → AX → Prop) (KX : String → AX → Prop) : PT := lfp (wpm (M_X11_demand tb) B_X11_demand K (fun _ _ _ E X _ _ => KX E X))
def w_X11_demand (tb : Nat → Option (Nat × Nat)) : WP := fun as X K KX => gd ((ini0 as).length ≤ 1) (r_X11_demand tb K KX 0 (iniL as 1) [] X 0 0)
theorem k_X11_demand : B_X11_demand.all (blkB FX11 CX11 NwX11 RX11 false cX11_demand) = true := by decide +kernel
theorem g_X11_demand : gw (.code yX11_demand cX11_demand 1 none) = true ∧ gw (.initialized yX11_demand.cls) = true := by decide +kernel
theorem c_X11_demand {l : Launch} {G : GX} (hl : l.stackTraces = false) : ∀ as X K KX, w_X11_demand (gT G) as X K KX → CT l G yX11_demand (.code yX11_demand cX11_demand 1 none) 6 81 1 6 as X K KX := fun as X K KX h => CT_of (M := M_X11_demand (gT G)) (own := RX11) (ini := false) (T := T_X11_demand (gT G)) (B := B_X11_demand) (by decide +kernel) hl rfl (fun h => absurd h (by decide)) rfl tab_X11 k_X11_demand rfl (Or.inr (Or.inr ⟨by decide, by decide⟩)) rfl
  trivial (gd_use h).1 (gd_use h).2
theorem py_X11_refuseWhileHired : plainY yX11_refuseWhileHired 0 = true := by decide +kernel
theorem in_X11_refuseWhileHired : gw (.instanceMethod yX11_refuseWhileHired) = true := by decide +kernel
theorem se_X11_refuseWhileHired : gw (.selects RX11 yX11_refuseWhileHired yX11_refuseWhileHired) = true := by decide +kernel
theorem ml_X11_76 : gw (.methodLink RX11 76 yX11_refuseWhileHired) = true := by decide +kernel
theorem st_X11_isFrom : gw (.static yX11_isFrom) = true := by decide +kernel
theorem py_X11_isFrom : plainY yX11_isFrom 3 = true := by decide +kernel
theorem ml_X11_82 : gw (.methodLink RX11 82 yX11_isFrom) = true := by decide +kernel
theorem st_X11_demand : gw (.static yX11_demand) = true := by decide +kernel
theorem py_X11_demand : plainY yX11_demand 1 = true := by decide +kernel
theorem ml_X11_86 : gw (.methodLink RX11 86 yX11_demand) = true := by decide +kernel
def B_X11_wheel : List (Nat × List (Nat × Instr × Nat)) := [(0, [(0, .aload_n 0, 1), (1, .invokevirtual 76, 3), (4, .iload_n 1, 1), (5, .ldc 81, 2), (7, .if_icmp .eq 28, 3), (10, .iload_n 2, 1), (11, .iconst 0, 1), (12, .bipush 20, 2), (14, .invokestatic 82, 3), (17, .ifCond .eq 18, 3), (20, .iload_n 3, 1), (21, .iconst 1, 1), (22, .sipush 200, 3), (25, .invokestatic 82, 3), (28, .ifCond .eq 7, 3), (31, .iconst 1, 1), (32, .goto 4, 3)]),
  (35, [(35, .iconst 0, 1)]),
  (36, [(36, .invokestatic 86, 3), (39, .iload_n 1, 1), (40, .i2f, 1), (41, .iconst 1, 1), (42, .iload_n 2, 1), (43, .ishl, 1), (44, .i2f, 1), (45, .fdiv, 1), (46, .fstore 4, 2), (48, .fload 4, 2), (50, .ldc 90, 2), (52, .fmul, 1), (53, .f2i, 1), (54, .istore 5, 2), (56, .iload 5, 2), (58, .bipush 100, 2), (60, .sipush 10000, 3), (63, .invokestatic 82, 3), (66, .invokestatic 86, 3), (69, .aload_n 0, 1), (70, .iload 5, 2), (72, .putfield 7, 3), (75, .aload_n 0, 1), (76, .iload_n 3, 1), (77, .putfield 13, 3), (80, .iload 5, 2), (82, .ireturn, 1)])]
def T_X11_wheel (tb : Nat → Option (Nat × Nat)) : List (Nat × IV) := [(304, ivV tb 11 3 18 0 1 6 0 (w_X11_refuseWhileHired tb)), (330, ivS 3 18 3 0 0 1 (w_X11_isFrom tb)), (346, ivS 3 18 1 1 6 0 (w_X11_demand tb))]
def M_X11_wheel (tb : Nat → Option (Nat × Nat)) : MT := (tb, FX11, StX11, CX11, NwX11, ivOf (T_X11_wheel tb), 3, 18, 1)
def r_X11_wheel (tb : Nat → Option (Nat × Nat)) (K : Option AV → AX → Prop) (KX : String → AX → Prop) : PT := lfp (wpm (M_X11_wheel tb) B_X11_wheel K (fun _ _ _ E X _ _ => KX E X))
def w_X11_wheel (tb : Nat → Option (Nat × Nat)) : WP := fun as X K KX => gd ((ini0 as).length ≤ 6) (r_X11_wheel tb K KX 0 (iniL as 6) [] X 0 0)
theorem k_X11_wheel : B_X11_wheel.all (blkB FX11 CX11 NwX11 RX11 false cX11_wheel) = true := by decide +kernel
theorem g_X11_wheel : gw (.code yX11_wheel cX11_wheel 6 (some .int)) = true ∧ gw (.initialized yX11_wheel.cls) = true := by decide +kernel
theorem c_X11_wheel {l : Launch} {G : GX} (hl : l.stackTraces = false) : ∀ as X K KX, w_X11_wheel (gT G) as X K KX → CT l G yX11_wheel (.code yX11_wheel cX11_wheel 6 (some .int)) 8 121 3 18 as X K KX := fun as X K KX h => CT_of (M := M_X11_wheel (gT G)) (own := RX11) (ini := false) (T := T_X11_wheel (gT G)) (B := B_X11_wheel) (by decide +kernel) hl rfl (fun h => absurd h (by decide)) rfl tab_X11 k_X11_wheel rfl (Or.inr (Or.inr ⟨by decide, by decide⟩)) rfl
  ⟨ivV_ok (ci := 11) (c_X11_refuseWhileHired hl) g_X11_refuseWhileHired.1 g_X11_refuseWhileHired.2 ml_X11_76 in_X11_refuseWhileHired py_X11_refuseWhileHired rfl se_X11_refuseWhileHired, ivS_ok (c_X11_isFrom hl) g_X11_isFrom.1 g_X11_isFrom.2 ml_X11_82 st_X11_isFrom py_X11_isFrom rfl, ivS_ok (c_X11_demand hl) g_X11_demand.1 g_X11_demand.2 ml_X11_86 st_X11_demand py_X11_demand rfl, trivial⟩ (gd_use h).1 (gd_use h).2
def B_X11_demandPlace : List (Nat × List (Nat × Instr × Nat)) := [(0, [(0, .iload_n 0, 1), (1, .ifCond .lt 8, 3), (4, .iload_n 0, 1), (5, .iload_n 1, 1), (6, .if_icmp .lt 11, 3)]),
  (9, [(9, .new 302, 3)]),
  (17, [(17, .return_, 1)])]
def T_X11_demandPlace (tb : Nat → Option (Nat × Nat)) : List (Nat × IV) := []
def M_X11_demandPlace (tb : Nat → Option (Nat × Nat)) : MT := (tb, FX11, StX11, CX11, NwX11, ivOf (T_X11_demandPlace tb), 1, 6, 0)
def r_X11_demandPlace (tb : Nat → Option (Nat × Nat)) (K : Option AV → AX → Prop) (KX : String → AX → Prop) : PT := lfp (wpm (M_X11_demandPlace tb) B_X11_demandPlace K (fun _ _ _ E X _ _ => KX E X))
def w_X11_demandPlace (tb : Nat → Option (Nat × Nat)) : WP := fun as X K KX => gd ((ini0 as).length ≤ 2) (r_X11_demandPlace tb K KX 0 (iniL as 2) [] X 0 0)
theorem k_X11_demandPlace : B_X11_demandPlace.all (blkB FX11 CX11 NwX11 RX11 false cX11_demandPlace) = true := by decide +kernel
theorem g_X11_demandPlace : gw (.code yX11_demandPlace cX11_demandPlace 2 none) = true ∧ gw (.initialized yX11_demandPlace.cls) = true := by decide +kernel
theorem c_X11_demandPlace {l : Launch} {G : GX} (hl : l.stackTraces = false) : ∀ as X K KX, w_X11_demandPlace (gT G) as X K KX → CT l G yX11_demandPlace (.code yX11_demandPlace cX11_demandPlace 2 none) 6 81 1 6 as X K KX := fun as X K KX h => CT_of (M := M_X11_demandPlace (gT G)) (own := RX11) (ini := false) (T := T_X11_demandPlace (gT G)) (B := B_X11_demandPlace) (by decide +kernel) hl rfl (fun h => absurd h (by decide)) rfl tab_X11 k_X11_demandPlace rfl (Or.inr (Or.inr ⟨by decide, by decide⟩)) rfl
  trivial (gd_use h).1 (gd_use h).2
def B_X8_isMissing : List (Nat × List (Nat × Instr × Nat)) := [(0, [(0, .aload_n 0, 1), (1, .getfield 15, 3), (4, .iload_n 1, 1), (5, .iaload, 1), (6, .iconst (-1), 1), (7, .if_icmp .ne 7, 3), (10, .iconst 1, 1), (11, .goto 4, 3)]),
  (14, [(14, .iconst 0, 1)]),
  (15, [(15, .ireturn, 1)])]
def T_X8_isMissing (tb : Nat → Option (Nat × Nat)) : List (Nat × IV) := []
def M_X8_isMissing (tb : Nat → Option (Nat × Nat)) : MT := (tb, FX8, StX8, CX8, NwX8, ivOf (T_X8_isMissing tb), 0, 0, 2)
def r_X8_isMissing (tb : Nat → Option (Nat × Nat)) (K : Option AV → AX → Prop) (KX : String → AX → Prop) : PT := lfp (wpm (M_X8_isMissing tb) B_X8_isMissing K (fun _ _ _ E X _ _ => KX E X))
def w_X8_isMissing (tb : Nat → Option (Nat × Nat)) : WP := fun as X K KX => gd ((ini0 as).length ≤ 2) (r_X8_isMissing tb K KX 0 (iniL as 2) [] X 0 0)
theorem k_X8_isMissing : B_X8_isMissing.all (blkB FX8 CX8 NwX8 RX8 false cX8_isMissing) = true := by decide +kernel
theorem g_X8_isMissing : gw (.code yX8_isMissing cX8_isMissing 2 (some .boolean)) = true ∧ gw (.initialized yX8_isMissing.cls) = true := by decide +kernel
theorem c_X8_isMissing {l : Launch} {G : GX} (hl : l.stackTraces = false) : ∀ as X K KX, w_X8_isMissing (gT G) as X K KX → CT l G yX8_isMissing (.code yX8_isMissing cX8_isMissing 2 (some .boolean)) 0 0 0 0 as X K KX := fun as X K KX h => CT_of (M := M_X8_isMissing (gT G)) (own := RX8) (ini := false) (T := T_X8_isMissing (gT G)) (B := B_X8_isMissing) (by decide +kernel) hl rfl (fun h => absurd h (by decide)) rfl tab_X8 k_X8_isMissing rfl (Or.inl rfl) rfl
  trivial (gd_use h).1 (gd_use h).2
def B_J7_rangeCheck_23922 : List (Nat × List (Nat × Instr × Nat)) := [(0, [(0, .iload_n 1, 1), (1, .iload_n 2, 1), (2, .if_icmp .le 44, 3)]),
  (46, [(46, .iload_n 1, 1), (47, .ifCond .ge 12, 3)]),
  (59, [(59, .iload_n 2, 1), (60, .iload_n 0, 1), (61, .if_icmp .le 12, 3)]),
  (73, [(73, .return_, 1)])]
def T_J7_rangeCheck_23922 (tb : Nat → Option (Nat × Nat)) : List (Nat × IV) := []
def M_J7_rangeCheck_23922 (tb : Nat → Option (Nat × Nat)) : MT := (tb, FJ7, StJ7, CJ7, NwJ7, ivOf (T_J7_rangeCheck_23922 tb), 0, 0, 0)
def r_J7_rangeCheck_23922 (tb : Nat → Option (Nat × Nat)) (K : Option AV → AX → Prop) (KX : String → AX → Prop) : PT := lfp (wpm (M_J7_rangeCheck_23922 tb) B_J7_rangeCheck_23922 K (fun _ _ _ E X _ _ => KX E X))
def w_J7_rangeCheck_23922 (tb : Nat → Option (Nat × Nat)) : WP := fun as X K KX => gd ((ini0 as).length ≤ 3) (r_J7_rangeCheck_23922 tb K KX 0 (iniL as 3) [] X 0 0)
theorem k_J7_rangeCheck_23922 : B_J7_rangeCheck_23922.all (blkB FJ7 CJ7 NwJ7 RJ7 false cJ7_rangeCheck_23922) = true := by decide +kernel
theorem g_J7_rangeCheck_23922 : gw (.code yJ7_rangeCheck_23922 cJ7_rangeCheck_23922 3 none) = true ∧ gw (.initialized yJ7_rangeCheck_23922.cls) = true := by decide +kernel
theorem c_J7_rangeCheck_23922 {l : Launch} {G : GX} (hl : l.stackTraces = false) : ∀ as X K KX, w_J7_rangeCheck_23922 (gT G) as X K KX → CT l G yJ7_rangeCheck_23922 (.code yJ7_rangeCheck_23922 cJ7_rangeCheck_23922 3 none) 0 0 0 0 as X K KX := fun as X K KX h => CT_of (M := M_J7_rangeCheck_23922 (gT G)) (own := RJ7) (ini := false) (T := T_J7_rangeCheck_23922 (gT G)) (B := B_J7_rangeCheck_23922) (by decide +kernel) hl rfl (fun h => absurd h (by decide)) rfl tab_J7 k_J7_rangeCheck_23922 rfl (Or.inl rfl) rfl
  trivial (gd_use h).1 (gd_use h).2
theorem st_J7_rangeCheck_23922 : gw (.static yJ7_rangeCheck_23922) = true := by decide +kernel
theorem py_J7_rangeCheck_23922 : plainY yJ7_rangeCheck_23922 3 = true := by decide +kernel
theorem ml_J7_13 : gw (.methodLink RJ7 13 yJ7_rangeCheck_23922) = true := by decide +kernel
def B_J7_fill_d734e : List (Nat × List (Nat × Instr × Nat)) := [(0, [(0, .aload_n 0, 1), (1, .arraylength, 1), (2, .iload_n 1, 1), (3, .iload_n 2, 1), (4, .invokestatic 13, 3), (7, .iload_n 1, 1), (8, .istore 4, 2)]),
  (10, [(10, .iload 4, 2), (12, .iload_n 2, 1), (13, .if_icmp .ge 14, 3), (16, .aload_n 0, 1), (17, .iload 4, 2), (19, .iload_n 3, 1), (20, .sastore, 1), (21, .iinc 4 1, 3), (24, .goto (-14), 3)]),
  (27, [(27, .return_, 1)])]
def T_J7_fill_d734e (tb : Nat → Option (Nat × Nat)) : List (Nat × IV) := [(54, ivS 0 0 3 0 0 0 (w_J7_rangeCheck_23922 tb))]
def M_J7_fill_d734e (tb : Nat → Option (Nat × Nat)) : MT := (tb, FJ7, StJ7, CJ7, NwJ7, ivOf (T_J7_fill_d734e tb), 0, 0, 0)
def r_J7_fill_d734e (tb : Nat → Option (Nat × Nat)) (K : Option AV → AX → Prop) (KX : String → AX → Prop) : PT := lfp (wpm (M_J7_fill_d734e tb) B_J7_fill_d734e K (fun _ _ _ E X _ _ => KX E X))
def w_J7_fill_d734e (tb : Nat → Option (Nat × Nat)) : WP := fun as X K KX => gd ((ini0 as).length ≤ 5) (r_J7_fill_d734e tb K KX 0 (iniL as 5) [] X 0 0)
theorem k_J7_fill_d734e : B_J7_fill_d734e.all (blkB FJ7 CJ7 NwJ7 RJ7 false cJ7_fill_d734e) = true := by decide +kernel
theorem g_J7_fill_d734e : gw (.code yJ7_fill_d734e cJ7_fill_d734e 5 none) = true ∧ gw (.initialized yJ7_fill_d734e.cls) = true := by decide +kernel
theorem c_J7_fill_d734e {l : Launch} {G : GX} (hl : l.stackTraces = false) : ∀ as X K KX, w_J7_fill_d734e (gT G) as X K KX → CT l G yJ7_fill_d734e (.code yJ7_fill_d734e cJ7_fill_d734e 5 none) 1 22 0 0 as X K KX := fun as X K KX h => CT_of (M := M_J7_fill_d734e (gT G)) (own := RJ7) (ini := false) (T := T_J7_fill_d734e (gT G)) (B := B_J7_fill_d734e) (by decide +kernel) hl rfl (fun h => absurd h (by decide)) rfl tab_J7 k_J7_fill_d734e rfl (Or.inl rfl) rfl
  ⟨ivS_ok (c_J7_rangeCheck_23922 hl) g_J7_rangeCheck_23922.1 g_J7_rangeCheck_23922.2 ml_J7_13 st_J7_rangeCheck_23922 py_J7_rangeCheck_23922 rfl, trivial⟩ (gd_use h).1 (gd_use h).2
theorem st_J7_fill_d734e : gw (.static yJ7_fill_d734e) = true := by decide +kernel
theorem py_J7_fill_d734e : plainY yJ7_fill_d734e 4 = true := by decide +kernel
theorem ml_X8_25 : gw (.methodLink RX8 25 yJ7_fill_d734e) = true := by decide +kernel
def B_X8_lay : List (Nat × List (Nat × Instr × Nat)) := [(0, [(0, .aload_n 0, 1), (1, .getfield 9, 3), (4, .iload_n 1, 1), (5, .bipush 60, 2), (7, .imul, 1), (8, .iload_n 1, 1), (9, .iconst 1, 1), (10, .iadd, 1), (11, .bipush 60, 2), (13, .imul, 1), (14, .iconst 0, 1), (15, .invokestatic 25, 3), (18, .aload_n 0, 1), (19, .getfield 15, 3), (22, .iload_n 1, 1), (23, .iload_n 2, 1), (24, .iastore, 1), (25, .return_, 1)])]
def T_X8_lay (tb : Nat → Option (Nat × Nat)) : List (Nat × IV) := [(102, ivS 0 0 4 0 0 0 (w_J7_fill_d734e tb))]
def M_X8_lay (tb : Nat → Option (Nat × Nat)) : MT := (tb, FX8, StX8, CX8, NwX8, ivOf (T_X8_lay tb), 0, 0, 0)
def r_X8_lay (tb : Nat → Option (Nat × Nat)) (K : Option AV → AX → Prop) (KX : String → AX → Prop) : PT := lfp (wpm (M_X8_lay tb) B_X8_lay K (fun _ _ _ E X _ _ => KX E X))
def w_X8_lay (tb : Nat → Option (Nat × Nat)) : WP := fun as X K KX => gd ((ini0 as).length ≤ 3) (r_X8_lay tb K KX 0 (iniL as 3) [] X 0 0)
theorem k_X8_lay : B_X8_lay.all (blkB FX8 CX8 NwX8 RX8 false cX8_lay) = true := by decide +kernel
theorem g_X8_lay : gw (.code yX8_lay cX8_lay 3 none) = true ∧ gw (.initialized yX8_lay.cls) = true := by decide +kernel
theorem c_X8_lay {l : Launch} {G : GX} (hl : l.stackTraces = false) : ∀ as X K KX, w_X8_lay (gT G) as X K KX → CT l G yX8_lay (.code yX8_lay cX8_lay 3 none) 2 46 0 0 as X K KX := fun as X K KX h => CT_of (M := M_X8_lay (gT G)) (own := RX8) (ini := false) (T := T_X8_lay (gT G)) (B := B_X8_lay) (by decide +kernel) hl rfl (fun h => absurd h (by decide)) rfl tab_X8 k_X8_lay rfl (Or.inl rfl) rfl
  ⟨ivS_ok (c_J7_fill_d734e hl) g_J7_fill_d734e.1 g_J7_fill_d734e.2 ml_X8_25 st_J7_fill_d734e py_J7_fill_d734e rfl, trivial⟩ (gd_use h).1 (gd_use h).2
theorem st_X11_demandPlace : gw (.static yX11_demandPlace) = true := by decide +kernel
theorem py_X11_demandPlace : plainY yX11_demandPlace 2 = true := by decide +kernel
theorem ml_X11_91 : gw (.methodLink RX11 91 yX11_demandPlace) = true := by decide +kernel
theorem py_X8_isMissing : plainY yX8_isMissing 1 = true := by decide +kernel
theorem in_X8_isMissing : gw (.instanceMethod yX8_isMissing) = true := by decide +kernel
theorem se_X8_isMissing : gw (.selects RX8 yX8_isMissing yX8_isMissing) = true := by decide +kernel
theorem ml_X11_95 : gw (.methodLink RX11 95 yX8_isMissing) = true := by decide +kernel
theorem py_X8_lay : plainY yX8_lay 2 = true := by decide +kernel
theorem in_X8_lay : gw (.instanceMethod yX8_lay) = true := by decide +kernel
theorem se_X8_lay : gw (.selects RX8 yX8_lay yX8_lay) = true := by decide +kernel
theorem ml_X11_99 : gw (.methodLink RX11 99 yX8_lay) = true := by decide +kernel
def B_X11_row : List (Nat × List (Nat × Instr × Nat)) := [(0, [(0, .iload_n 1, 1), (1, .bipush 64, 2), (3, .invokestatic 91, 3), (6, .iload_n 2, 1), (7, .iconst 0, 1), (8, .bipush 60, 2), (10, .invokestatic 82, 3), (13, .invokestatic 86, 3), (16, .aload_n 0, 1), (17, .getfield 19, 3), (20, .iload_n 1, 1), (21, .invokevirtual 95, 3), (24, .istore_n 3, 1), (25, .aload_n 0, 1), (26, .getfield 19, 3), (29, .iload_n 1, 1), (30, .iload_n 2, 1), (31, .invokevirtual 99, 3), (34, .iload_n 3, 1), (35, .ireturn, 1)])]
def T_X11_row (tb : Nat → Option (Nat × Nat)) : List (Nat × IV) := [(366, ivS 2 12 2 1 6 0 (w_X11_demandPlace tb)), (330, ivS 2 12 3 0 0 1 (w_X11_isFrom tb)), (346, ivS 2 12 1 1 6 0 (w_X11_demand tb)), (380, ivV tb 8 2 12 1 0 0 1 (w_X8_isMissing tb)), (396, ivV tb 8 2 12 2 0 0 0 (w_X8_lay tb))]
def M_X11_row (tb : Nat → Option (Nat × Nat)) : MT := (tb, FX11, StX11, CX11, NwX11, ivOf (T_X11_row tb), 2, 12, 2)
def r_X11_row (tb : Nat → Option (Nat × Nat)) (K : Option AV → AX → Prop) (KX : String → AX → Prop) : PT := lfp (wpm (M_X11_row tb) B_X11_row K (fun _ _ _ E X _ _ => KX E X))
def w_X11_row (tb : Nat → Option (Nat × Nat)) : WP := fun as X K KX => gd ((ini0 as).length ≤ 4) (r_X11_row tb K KX 0 (iniL as 4) [] X 0 0)
theorem k_X11_row : B_X11_row.all (blkB FX11 CX11 NwX11 RX11 false cX11_row) = true := by decide +kernel
theorem g_X11_row : gw (.code yX11_row cX11_row 4 (some .boolean)) = true ∧ gw (.initialized yX11_row.cls) = true := by decide +kernel
theorem c_X11_row {l : Launch} {G : GX} (hl : l.stackTraces = false) : ∀ as X K KX, w_X11_row (gT G) as X K KX → CT l G yX11_row (.code yX11_row cX11_row 4 (some .boolean)) 7 102 2 12 as X K KX := fun as X K KX h => CT_of (M := M_X11_row (gT G)) (own := RX11) (ini := false) (T := T_X11_row (gT G)) (B := B_X11_row) (by decide +kernel) hl rfl (fun h => absurd h (by decide)) rfl tab_X11 k_X11_row rfl (Or.inr (Or.inr ⟨by decide, by decide⟩)) rfl
  ⟨ivS_ok (c_X11_demandPlace hl) g_X11_demandPlace.1 g_X11_demandPlace.2 ml_X11_91 st_X11_demandPlace py_X11_demandPlace rfl, ivS_ok (c_X11_isFrom hl) g_X11_isFrom.1 g_X11_isFrom.2 ml_X11_82 st_X11_isFrom py_X11_isFrom rfl, ivS_ok (c_X11_demand hl) g_X11_demand.1 g_X11_demand.2 ml_X11_86 st_X11_demand py_X11_demand rfl, ivV_ok (ci := 8) (c_X8_isMissing hl) g_X8_isMissing.1 g_X8_isMissing.2 ml_X11_95 in_X8_isMissing py_X8_isMissing rfl se_X8_isMissing, ivV_ok (ci := 8) (c_X8_lay hl) g_X8_lay.1 g_X8_lay.2 ml_X11_99 in_X8_lay py_X8_lay rfl se_X8_lay, trivial⟩ (gd_use h).1 (gd_use h).2
def B_X11_demandSuch : List (Nat × List (Nat × Instr × Nat)) := [(0, [(0, .iload_n 0, 1), (1, .ifCond .ne 11, 3), (4, .new 299, 3)]),
  (12, [(12, .return_, 1)])]
def T_X11_demandSuch (tb : Nat → Option (Nat × Nat)) : List (Nat × IV) := []
def M_X11_demandSuch (tb : Nat → Option (Nat × Nat)) : MT := (tb, FX11, StX11, CX11, NwX11, ivOf (T_X11_demandSuch tb), 1, 6, 0)
def r_X11_demandSuch (tb : Nat → Option (Nat × Nat)) (K : Option AV → AX → Prop) (KX : String → AX → Prop) : PT := lfp (wpm (M_X11_demandSuch tb) B_X11_demandSuch K (fun _ _ _ E X _ _ => KX E X))
def w_X11_demandSuch (tb : Nat → Option (Nat × Nat)) : WP := fun as X K KX => gd ((ini0 as).length ≤ 1) (r_X11_demandSuch tb K KX 0 (iniL as 1) [] X 0 0)
theorem k_X11_demandSuch : B_X11_demandSuch.all (blkB FX11 CX11 NwX11 RX11 false cX11_demandSuch) = true := by decide +kernel
theorem g_X11_demandSuch : gw (.code yX11_demandSuch cX11_demandSuch 1 none) = true ∧ gw (.initialized yX11_demandSuch.cls) = true := by decide +kernel
theorem c_X11_demandSuch {l : Launch} {G : GX} (hl : l.stackTraces = false) : ∀ as X K KX, w_X11_demandSuch (gT G) as X K KX → CT l G yX11_demandSuch (.code yX11_demandSuch cX11_demandSuch 1 none) 6 81 1 6 as X K KX := fun as X K KX h => CT_of (M := M_X11_demandSuch (gT G)) (own := RX11) (ini := false) (T := T_X11_demandSuch (gT G)) (B := B_X11_demandSuch) (by decide +kernel) hl rfl (fun h => absurd h (by decide)) rfl tab_X11 k_X11_demandSuch rfl (Or.inr (Or.inr ⟨by decide, by decide⟩)) rfl
  trivial (gd_use h).1 (gd_use h).2
def B_X8_at : List (Nat × List (Nat × Instr × Nat)) := [(0, [(0, .iload_n 2, 1), (1, .ifCond .lt 27, 3), (4, .iload_n 2, 1), (5, .aload_n 0, 1), (6, .getfield 15, 3), (9, .iload_n 1, 1), (10, .iaload, 1), (11, .if_icmp .ge 17, 3), (14, .aload_n 0, 1), (15, .getfield 9, 3), (18, .iload_n 1, 1), (19, .bipush 60, 2), (21, .imul, 1), (22, .iload_n 2, 1), (23, .iadd, 1), (24, .saload, 1), (25, .goto 4, 3)]),
  (28, [(28, .iconst (-1), 1)]),
  (29, [(29, .ireturn, 1)])]
def T_X8_at (tb : Nat → Option (Nat × Nat)) : List (Nat × IV) := []
def M_X8_at (tb : Nat → Option (Nat × Nat)) : MT := (tb, FX8, StX8, CX8, NwX8, ivOf (T_X8_at tb), 0, 0, 1)
def r_X8_at (tb : Nat → Option (Nat × Nat)) (K : Option AV → AX → Prop) (KX : String → AX → Prop) : PT := lfp (wpm (M_X8_at tb) B_X8_at K (fun _ _ _ E X _ _ => KX E X))
def w_X8_at (tb : Nat → Option (Nat × Nat)) : WP := fun as X K KX => gd ((ini0 as).length ≤ 3) (r_X8_at tb K KX 0 (iniL as 3) [] X 0 0)
theorem k_X8_at : B_X8_at.all (blkB FX8 CX8 NwX8 RX8 false cX8_at) = true := by decide +kernel
theorem g_X8_at : gw (.code yX8_at cX8_at 3 (some .int)) = true ∧ gw (.initialized yX8_at.cls) = true := by decide +kernel
theorem c_X8_at {l : Launch} {G : GX} (hl : l.stackTraces = false) : ∀ as X K KX, w_X8_at (gT G) as X K KX → CT l G yX8_at (.code yX8_at cX8_at 3 (some .int)) 0 0 0 0 as X K KX := fun as X K KX h => CT_of (M := M_X8_at (gT G)) (own := RX8) (ini := false) (T := T_X8_at (gT G)) (B := B_X8_at) (by decide +kernel) hl rfl (fun h => absurd h (by decide)) rfl tab_X8 k_X8_at rfl (Or.inl rfl) rfl
  trivial (gd_use h).1 (gd_use h).2
def B_X8_put : List (Nat × List (Nat × Instr × Nat)) := [(0, [(0, .aload_n 0, 1), (1, .getfield 9, 3), (4, .iload_n 1, 1), (5, .bipush 60, 2), (7, .imul, 1), (8, .iload_n 2, 1), (9, .iadd, 1), (10, .iload_n 3, 1), (11, .i2s, 1), (12, .sastore, 1), (13, .return_, 1)])]
def T_X8_put (tb : Nat → Option (Nat × Nat)) : List (Nat × IV) := []
def M_X8_put (tb : Nat → Option (Nat × Nat)) : MT := (tb, FX8, StX8, CX8, NwX8, ivOf (T_X8_put tb), 0, 0, 0)
def r_X8_put (tb : Nat → Option (Nat × Nat)) (K : Option AV → AX → Prop) (KX : String → AX → Prop) : PT := lfp (wpm (M_X8_put tb) B_X8_put K (fun _ _ _ E X _ _ => KX E X))
def w_X8_put (tb : Nat → Option (Nat × Nat)) : WP := fun as X K KX => gd ((ini0 as).length ≤ 4) (r_X8_put tb K KX 0 (iniL as 4) [] X 0 0)
theorem k_X8_put : B_X8_put.all (blkB FX8 CX8 NwX8 RX8 false cX8_put) = true := by decide +kernel
theorem g_X8_put : gw (.code yX8_put cX8_put 4 none) = true ∧ gw (.initialized yX8_put.cls) = true := by decide +kernel
theorem c_X8_put {l : Launch} {G : GX} (hl : l.stackTraces = false) : ∀ as X K KX, w_X8_put (gT G) as X K KX → CT l G yX8_put (.code yX8_put cX8_put 4 none) 0 0 0 0 as X K KX := fun as X K KX h => CT_of (M := M_X8_put (gT G)) (own := RX8) (ini := false) (T := T_X8_put (gT G)) (B := B_X8_put) (by decide +kernel) hl rfl (fun h => absurd h (by decide)) rfl tab_X8 k_X8_put rfl (Or.inl rfl) rfl
  trivial (gd_use h).1 (gd_use h).2
