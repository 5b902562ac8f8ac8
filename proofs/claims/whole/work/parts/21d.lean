def B_X11_demandHired : List (Nat × List (Nat × Instr × Nat)) := [(0, [(0, .aload_n 0, 1), (1, .getfield 46, 3), (4, .getfield 258, 3), (7, .invokestatic 193, 3), (10, .return_, 1)])]
def T_X11_demandHired (tb : Nat → Option (Nat × Nat)) : List (Nat × IV) := [(774, ivS 1 6 1 1 6 0 (w_X11_demandState tb))]
def M_X11_demandHired (tb : Nat → Option (Nat × Nat)) : MT := (tb, FX11, StX11, CX11, NwX11, ivOf (T_X11_demandHired tb), 1, 6, 0)
def r_X11_demandHired (tb : Nat → Option (Nat × Nat)) (K : Option AV → AX → Prop) (KX : String → AX → Prop) : PT := lfp (wpm (M_X11_demandHired tb) B_X11_demandHired K (fun _ _ _ E X _ _ => KX E X))
def w_X11_demandHired (tb : Nat → Option (Nat × Nat)) : WP := fun as X K KX => gd ((ini0 as).length ≤ 1) (r_X11_demandHired tb K KX 0 (iniL as 1) [] X 0 0)
theorem k_X11_demandHired : B_X11_demandHired.all (blkB FX11 CX11 NwX11 RX11 false cX11_demandHired) = true := by decide +kernel
theorem g_X11_demandHired : gw (.code yX11_demandHired cX11_demandHired 1 none) = true ∧ gw (.initialized yX11_demandHired.cls) = true := by decide +kernel
theorem c_X11_demandHired {l : Launch} {G : GX} (hl : l.stackTraces = false) : ∀ as X K KX, w_X11_demandHired (gT G) as X K KX → CT l G yX11_demandHired (.code yX11_demandHired cX11_demandHired 1 none) 7 101 1 6 as X K KX := fun as X K KX h => CT_of (M := M_X11_demandHired (gT G)) (own := RX11) (ini := false) (T := T_X11_demandHired (gT G)) (B := B_X11_demandHired) (by decide +kernel) hl rfl (fun h => absurd h (by decide)) rfl tab_X11 k_X11_demandHired rfl (Or.inr (Or.inr ⟨by decide, by decide⟩)) rfl
  ⟨ivS_ok (c_X11_demandState hl) g_X11_demandState.1 g_X11_demandState.2 ml_X11_193 st_X11_demandState py_X11_demandState rfl, trivial⟩ (gd_use h).1 (gd_use h).2
theorem ml_X8_28 : gw (.methodLink RX8 28 yX8_at) = true := by decide +kernel
def B_X8_ofSecond : List (Nat × List (Nat × Instr × Nat)) := [(0, [(0, .aload_n 0, 1), (1, .iload_n 1, 1), (2, .bipush 60, 2), (4, .idiv, 1), (5, .iload_n 1, 1), (6, .bipush 60, 2), (8, .irem, 1), (9, .invokevirtual 28, 3), (12, .ireturn, 1)])]
def T_X8_ofSecond (tb : Nat → Option (Nat × Nat)) : List (Nat × IV) := [(112, ivV tb 8 0 0 2 0 0 1 (w_X8_at tb))]
def M_X8_ofSecond (tb : Nat → Option (Nat × Nat)) : MT := (tb, FX8, StX8, CX8, NwX8, ivOf (T_X8_ofSecond tb), 0, 0, 1)
def r_X8_ofSecond (tb : Nat → Option (Nat × Nat)) (K : Option AV → AX → Prop) (KX : String → AX → Prop) : PT := lfp (wpm (M_X8_ofSecond tb) B_X8_ofSecond K (fun _ _ _ E X _ _ => KX E X))
def w_X8_ofSecond (tb : Nat → Option (Nat × Nat)) : WP := fun as X K KX => gd ((ini0 as).length ≤ 2) (r_X8_ofSecond tb K KX 0 (iniL as 2) [] X 0 0)
theorem k_X8_ofSecond : B_X8_ofSecond.all (blkB FX8 CX8 NwX8 RX8 false cX8_ofSecond) = true := by decide +kernel
theorem g_X8_ofSecond : gw (.code yX8_ofSecond cX8_ofSecond 2 (some .int)) = true ∧ gw (.initialized yX8_ofSecond.cls) = true := by decide +kernel
theorem c_X8_ofSecond {l : Launch} {G : GX} (hl : l.stackTraces = false) : ∀ as X K KX, w_X8_ofSecond (gT G) as X K KX → CT l G yX8_ofSecond (.code yX8_ofSecond cX8_ofSecond 2 (some .int)) 1 22 0 0 as X K KX := fun as X K KX h => CT_of (M := M_X8_ofSecond (gT G)) (own := RX8) (ini := false) (T := T_X8_ofSecond (gT G)) (B := B_X8_ofSecond) (by decide +kernel) hl rfl (fun h => absurd h (by decide)) rfl tab_X8 k_X8_ofSecond rfl (Or.inl rfl) rfl
  ⟨ivV_ok (ci := 8) (c_X8_at hl) g_X8_at.1 g_X8_at.2 ml_X8_28 in_X8_at py_X8_at rfl se_X8_at, trivial⟩ (gd_use h).1 (gd_use h).2
def B_X5_minuteOfDay : List (Nat × List (Nat × Instr × Nat)) := [(0, [(0, .aload_n 0, 1), (1, .getfield 21, 3), (4, .aload_n 0, 1), (5, .getfield 28, 3), (8, .iadd, 1), (9, .bipush 60, 2), (11, .idiv, 1), (12, .sipush 1440, 3), (15, .irem, 1), (16, .ireturn, 1)])]
def T_X5_minuteOfDay (tb : Nat → Option (Nat × Nat)) : List (Nat × IV) := []
def M_X5_minuteOfDay (tb : Nat → Option (Nat × Nat)) : MT := (tb, FX5, StX5, CX5, NwX5, ivOf (T_X5_minuteOfDay tb), 0, 0, 1)
def r_X5_minuteOfDay (tb : Nat → Option (Nat × Nat)) (K : Option AV → AX → Prop) (KX : String → AX → Prop) : PT := lfp (wpm (M_X5_minuteOfDay tb) B_X5_minuteOfDay K (fun _ _ _ E X _ _ => KX E X))
def w_X5_minuteOfDay (tb : Nat → Option (Nat × Nat)) : WP := fun as X K KX => gd ((ini0 as).length ≤ 1) (r_X5_minuteOfDay tb K KX 0 (iniL as 1) [] X 0 0)
theorem k_X5_minuteOfDay : B_X5_minuteOfDay.all (blkB FX5 CX5 NwX5 RX5 false cX5_minuteOfDay) = true := by decide +kernel
theorem g_X5_minuteOfDay : gw (.code yX5_minuteOfDay cX5_minuteOfDay 1 (some .int)) = true ∧ gw (.initialized yX5_minuteOfDay.cls) = true := by decide +kernel
theorem c_X5_minuteOfDay {l : Launch} {G : GX} (hl : l.stackTraces = false) : ∀ as X K KX, w_X5_minuteOfDay (gT G) as X K KX → CT l G yX5_minuteOfDay (.code yX5_minuteOfDay cX5_minuteOfDay 1 (some .int)) 0 0 0 0 as X K KX := fun as X K KX h => CT_of (M := M_X5_minuteOfDay (gT G)) (own := RX5) (ini := false) (T := T_X5_minuteOfDay (gT G)) (B := B_X5_minuteOfDay) (by decide +kernel) hl rfl (fun h => absurd h (by decide)) rfl tab_X5 k_X5_minuteOfDay rfl (Or.inr (Or.inl nw_X5)) rfl
  trivial (gd_use h).1 (gd_use h).2
def B_X1_priceAt : List (Nat × List (Nat × Instr × Nat)) := [(0, [(0, .aload_n 0, 1), (1, .getfield 18, 3), (4, .iconst 2, 1), (5, .iaload, 1), (6, .ireturn, 1)])]
def T_X1_priceAt (tb : Nat → Option (Nat × Nat)) : List (Nat × IV) := []
def M_X1_priceAt (tb : Nat → Option (Nat × Nat)) : MT := (tb, FX1, StX1, CX1, NwX1, ivOf (T_X1_priceAt tb), 0, 0, 1)
def r_X1_priceAt (tb : Nat → Option (Nat × Nat)) (K : Option AV → AX → Prop) (KX : String → AX → Prop) : PT := lfp (wpm (M_X1_priceAt tb) B_X1_priceAt K (fun _ _ _ E X _ _ => KX E X))
def w_X1_priceAt (tb : Nat → Option (Nat × Nat)) : WP := fun as X K KX => gd ((ini0 as).length ≤ 2) (r_X1_priceAt tb K KX 0 (iniL as 2) [] X 0 0)
theorem k_X1_priceAt : B_X1_priceAt.all (blkB FX1 CX1 NwX1 RX1 false cX1_priceAt) = true := by decide +kernel
theorem g_X1_priceAt : gw (.code yX1_priceAt cX1_priceAt 2 (some .int)) = true ∧ gw (.initialized yX1_priceAt.cls) = true := by decide +kernel
theorem c_X1_priceAt {l : Launch} {G : GX} (hl : l.stackTraces = false) : ∀ as X K KX, w_X1_priceAt (gT G) as X K KX → CT l G yX1_priceAt (.code yX1_priceAt cX1_priceAt 2 (some .int)) 0 0 0 0 as X K KX := fun as X K KX h => CT_of (M := M_X1_priceAt (gT G)) (own := RX1) (ini := false) (T := T_X1_priceAt (gT G)) (B := B_X1_priceAt) (by decide +kernel) hl rfl (fun h => absurd h (by decide)) rfl tab_X1 k_X1_priceAt rfl (Or.inl rfl) rfl
  trivial (gd_use h).1 (gd_use h).2
def B_X6_isNightAt : List (Nat × List (Nat × Instr × Nat)) := [(0, [(0, .aload_n 0, 1), (1, .getfield 22, 3), (4, .bipush 6, 2), (6, .iaload, 1), (7, .istore_n 2, 1), (8, .aload_n 0, 1), (9, .getfield 22, 3), (12, .bipush 7, 2), (14, .iaload, 1), (15, .istore_n 3, 1), (16, .iload_n 3, 1), (17, .iload_n 2, 1), (18, .if_icmp .ge 21, 3), (21, .iload_n 1, 1), (22, .iload_n 2, 1), (23, .if_icmp .ge 8, 3), (26, .iload_n 1, 1), (27, .iload_n 3, 1), (28, .if_icmp .ge 7, 3)]),
  (31, [(31, .iconst 1, 1), (32, .goto 22, 3)]),
  (35, [(35, .iconst 0, 1), (36, .goto 18, 3)]),
  (39, [(39, .iload_n 1, 1), (40, .iload_n 2, 1), (41, .if_icmp .lt 12, 3), (44, .iload_n 1, 1), (45, .iload_n 3, 1), (46, .if_icmp .ge 7, 3), (49, .iconst 1, 1), (50, .goto 4, 3)]),
  (53, [(53, .iconst 0, 1)]),
  (54, [(54, .ireturn, 1)])]
def T_X6_isNightAt (tb : Nat → Option (Nat × Nat)) : List (Nat × IV) := []
def M_X6_isNightAt (tb : Nat → Option (Nat × Nat)) : MT := (tb, FX6, StX6, CX6, NwX6, ivOf (T_X6_isNightAt tb), 0, 0, 2)
def r_X6_isNightAt (tb : Nat → Option (Nat × Nat)) (K : Option AV → AX → Prop) (KX : String → AX → Prop) : PT := lfp (wpm (M_X6_isNightAt tb) B_X6_isNightAt K (fun _ _ _ E X _ _ => KX E X))
def w_X6_isNightAt (tb : Nat → Option (Nat × Nat)) : WP := fun as X K KX => gd ((ini0 as).length ≤ 4) (r_X6_isNightAt tb K KX 0 (iniL as 4) [] X 0 0)
theorem k_X6_isNightAt : B_X6_isNightAt.all (blkB FX6 CX6 NwX6 RX6 false cX6_isNightAt) = true := by decide +kernel
theorem g_X6_isNightAt : gw (.code yX6_isNightAt cX6_isNightAt 4 (some .boolean)) = true ∧ gw (.initialized yX6_isNightAt.cls) = true := by decide +kernel
theorem c_X6_isNightAt {l : Launch} {G : GX} (hl : l.stackTraces = false) : ∀ as X K KX, w_X6_isNightAt (gT G) as X K KX → CT l G yX6_isNightAt (.code yX6_isNightAt cX6_isNightAt 4 (some .boolean)) 0 0 0 0 as X K KX := fun as X K KX h => CT_of (M := M_X6_isNightAt (gT G)) (own := RX6) (ini := false) (T := T_X6_isNightAt (gT G)) (B := B_X6_isNightAt) (by decide +kernel) hl rfl (fun h => absurd h (by decide)) rfl tab_X6 k_X6_isNightAt rfl (Or.inl rfl) rfl
  trivial (gd_use h).1 (gd_use h).2
theorem py_X6_isNightAt : plainY yX6_isNightAt 1 = true := by decide +kernel
theorem in_X6_isNightAt : gw (.instanceMethod yX6_isNightAt) = true := by decide +kernel
theorem se_X6_isNightAt : gw (.selects RX6 yX6_isNightAt yX6_isNightAt) = true := by decide +kernel
theorem ml_X6_17 : gw (.methodLink RX6 17 yX6_isNightAt) = true := by decide +kernel
def B_X6_priceAt : List (Nat × List (Nat × Instr × Nat)) := [(0, [(0, .aload_n 0, 1), (1, .iload_n 1, 1), (2, .invokevirtual 17, 3), (5, .ifCond .eq 13, 3), (8, .aload_n 0, 1), (9, .getfield 22, 3), (12, .bipush 8, 2), (14, .iaload, 1), (15, .goto 9, 3)]),
  (18, [(18, .aload_n 0, 1), (19, .getfield 22, 3), (22, .iconst 2, 1), (23, .iaload, 1)]),
  (24, [(24, .ireturn, 1)])]
def T_X6_priceAt (tb : Nat → Option (Nat × Nat)) : List (Nat × IV) := [(68, ivV tb 6 0 0 1 0 0 1 (w_X6_isNightAt tb))]
def M_X6_priceAt (tb : Nat → Option (Nat × Nat)) : MT := (tb, FX6, StX6, CX6, NwX6, ivOf (T_X6_priceAt tb), 0, 0, 1)
def r_X6_priceAt (tb : Nat → Option (Nat × Nat)) (K : Option AV → AX → Prop) (KX : String → AX → Prop) : PT := lfp (wpm (M_X6_priceAt tb) B_X6_priceAt K (fun _ _ _ E X _ _ => KX E X))
def w_X6_priceAt (tb : Nat → Option (Nat × Nat)) : WP := fun as X K KX => gd ((ini0 as).length ≤ 2) (r_X6_priceAt tb K KX 0 (iniL as 2) [] X 0 0)
theorem k_X6_priceAt : B_X6_priceAt.all (blkB FX6 CX6 NwX6 RX6 false cX6_priceAt) = true := by decide +kernel
theorem g_X6_priceAt : gw (.code yX6_priceAt cX6_priceAt 2 (some .int)) = true ∧ gw (.initialized yX6_priceAt.cls) = true := by decide +kernel
theorem c_X6_priceAt {l : Launch} {G : GX} (hl : l.stackTraces = false) : ∀ as X K KX, w_X6_priceAt (gT G) as X K KX → CT l G yX6_priceAt (.code yX6_priceAt cX6_priceAt 2 (some .int)) 1 23 0 0 as X K KX := fun as X K KX h => CT_of (M := M_X6_priceAt (gT G)) (own := RX6) (ini := false) (T := T_X6_priceAt (gT G)) (B := B_X6_priceAt) (by decide +kernel) hl rfl (fun h => absurd h (by decide)) rfl tab_X6 k_X6_priceAt rfl (Or.inl rfl) rfl
  ⟨ivV_ok (ci := 6) (c_X6_isNightAt hl) g_X6_isNightAt.1 g_X6_isNightAt.2 ml_X6_17 in_X6_isNightAt py_X6_isNightAt rfl se_X6_isNightAt, trivial⟩ (gd_use h).1 (gd_use h).2
def B_X1_lengthBehind : List (Nat × List (Nat × Instr × Nat)) := [(0, [(0, .aload_n 0, 1), (1, .getfield 18, 3), (4, .iconst 3, 1), (5, .iaload, 1), (6, .ireturn, 1)])]
def T_X1_lengthBehind (tb : Nat → Option (Nat × Nat)) : List (Nat × IV) := []
def M_X1_lengthBehind (tb : Nat → Option (Nat × Nat)) : MT := (tb, FX1, StX1, CX1, NwX1, ivOf (T_X1_lengthBehind tb), 0, 0, 1)
def r_X1_lengthBehind (tb : Nat → Option (Nat × Nat)) (K : Option AV → AX → Prop) (KX : String → AX → Prop) : PT := lfp (wpm (M_X1_lengthBehind tb) B_X1_lengthBehind K (fun _ _ _ E X _ _ => KX E X))
def w_X1_lengthBehind (tb : Nat → Option (Nat × Nat)) : WP := fun as X K KX => gd ((ini0 as).length ≤ 4) (r_X1_lengthBehind tb K KX 0 (iniL as 4) [] X 0 0)
theorem k_X1_lengthBehind : B_X1_lengthBehind.all (blkB FX1 CX1 NwX1 RX1 false cX1_lengthBehind) = true := by decide +kernel
theorem g_X1_lengthBehind : gw (.code yX1_lengthBehind cX1_lengthBehind 4 (some .int)) = true ∧ gw (.initialized yX1_lengthBehind.cls) = true := by decide +kernel
theorem c_X1_lengthBehind {l : Launch} {G : GX} (hl : l.stackTraces = false) : ∀ as X K KX, w_X1_lengthBehind (gT G) as X K KX → CT l G yX1_lengthBehind (.code yX1_lengthBehind cX1_lengthBehind 4 (some .int)) 0 0 0 0 as X K KX := fun as X K KX h => CT_of (M := M_X1_lengthBehind (gT G)) (own := RX1) (ini := false) (T := T_X1_lengthBehind (gT G)) (B := B_X1_lengthBehind) (by decide +kernel) hl rfl (fun h => absurd h (by decide)) rfl tab_X1 k_X1_lengthBehind rfl (Or.inl rfl) rfl
  trivial (gd_use h).1 (gd_use h).2
def B_X2_lengthBehind : List (Nat × List (Nat × Instr × Nat)) := [(0, [(0, .lload_n 1, 1), (1, .aload_n 0, 1), (2, .getfield 17, 3), (5, .bipush 9, 2), (7, .iaload, 1), (8, .i2l, 1), (9, .iload_n 3, 1), (10, .i2l, 1), (11, .lmul, 1), (12, .lcmp, 1), (13, .ifCond .le 13, 3), (16, .aload_n 0, 1), (17, .getfield 17, 3), (20, .bipush 10, 2), (22, .iaload, 1), (23, .goto 9, 3)]),
  (26, [(26, .aload_n 0, 1), (27, .getfield 17, 3), (30, .iconst 3, 1), (31, .iaload, 1)]),
  (32, [(32, .ireturn, 1)])]
def T_X2_lengthBehind (tb : Nat → Option (Nat × Nat)) : List (Nat × IV) := []
def M_X2_lengthBehind (tb : Nat → Option (Nat × Nat)) : MT := (tb, FX2, StX2, CX2, NwX2, ivOf (T_X2_lengthBehind tb), 0, 0, 1)
def r_X2_lengthBehind (tb : Nat → Option (Nat × Nat)) (K : Option AV → AX → Prop) (KX : String → AX → Prop) : PT := lfp (wpm (M_X2_lengthBehind tb) B_X2_lengthBehind K (fun _ _ _ E X _ _ => KX E X))
def w_X2_lengthBehind (tb : Nat → Option (Nat × Nat)) : WP := fun as X K KX => gd ((ini0 as).length ≤ 4) (r_X2_lengthBehind tb K KX 0 (iniL as 4) [] X 0 0)
theorem k_X2_lengthBehind : B_X2_lengthBehind.all (blkB FX2 CX2 NwX2 RX2 false cX2_lengthBehind) = true := by decide +kernel
theorem g_X2_lengthBehind : gw (.code yX2_lengthBehind cX2_lengthBehind 4 (some .int)) = true ∧ gw (.initialized yX2_lengthBehind.cls) = true := by decide +kernel
theorem c_X2_lengthBehind {l : Launch} {G : GX} (hl : l.stackTraces = false) : ∀ as X K KX, w_X2_lengthBehind (gT G) as X K KX → CT l G yX2_lengthBehind (.code yX2_lengthBehind cX2_lengthBehind 4 (some .int)) 0 0 0 0 as X K KX := fun as X K KX h => CT_of (M := M_X2_lengthBehind (gT G)) (own := RX2) (ini := false) (T := T_X2_lengthBehind (gT G)) (B := B_X2_lengthBehind) (by decide +kernel) hl rfl (fun h => absurd h (by decide)) rfl tab_X2 k_X2_lengthBehind rfl (Or.inl rfl) rfl
  trivial (gd_use h).1 (gd_use h).2
theorem ml_X7_81 : gw (.methodLink RX7 81 Lib.Math.min.name) = true := by decide +kernel
def B_X7_divide : List (Nat × List (Nat × Instr × Nat)) := [(0, [(0, .iload_n 2, 1), (1, .iconst 1, 1), (2, .if_icmp .ge 5, 3), (5, .iconst 0, 1), (6, .ireturn, 1)]),
  (7, [(7, .lconst 0, 1), (8, .lstore 4, 2), (10, .iload_n 1, 1), (11, .aload_n 0, 1), (12, .arraylength, 1), (13, .aload_n 3, 1), (14, .arraylength, 1), (15, .invokestatic 81, 3), (18, .invokestatic 81, 3), (21, .iconst 1, 1), (22, .isub, 1), (23, .istore 6, 2)]),
  (25, [(25, .iload 6, 2), (27, .ifCond .lt 39, 3), (30, .lload 4, 2), (32, .bipush 30, 2), (34, .lshl, 1), (35, .aload_n 0, 1), (36, .iload 6, 2), (38, .iaload, 1), (39, .i2l, 1), (40, .lor, 1), (41, .lstore 4, 2), (43, .aload_n 3, 1), (44, .iload 6, 2), (46, .lload 4, 2), (48, .iload_n 2, 1), (49, .i2l, 1), (50, .ldiv, 1), (51, .l2i, 1), (52, .iastore, 1), (53, .lload 4, 2), (55, .iload_n 2, 1), (56, .i2l, 1), (57, .lrem, 1), (58, .lstore 4, 2), (60, .iinc 6 (-1), 3), (63, .goto (-38), 3)]),
  (66, [(66, .lload 4, 2), (68, .l2i, 1), (69, .ireturn, 1)])]
def T_X7_divide (tb : Nat → Option (Nat × Nat)) : List (Nat × IV) := [(326, ivM2 (fun x y => if y < x then y else x))]
def M_X7_divide (tb : Nat → Option (Nat × Nat)) : MT := (tb, FX7, StX7, CX7, NwX7, ivOf (T_X7_divide tb), 0, 0, 1)
def r_X7_divide (tb : Nat → Option (Nat × Nat)) (K : Option AV → AX → Prop) (KX : String → AX → Prop) : PT := lfp (wpm (M_X7_divide tb) B_X7_divide K (fun _ _ _ E X _ _ => KX E X))
def w_X7_divide (tb : Nat → Option (Nat × Nat)) : WP := fun as X K KX => gd ((ini0 as).length ≤ 7) (r_X7_divide tb K KX 0 (iniL as 7) [] X 0 0)
theorem k_X7_divide : B_X7_divide.all (blkB FX7 CX7 NwX7 RX7 false cX7_divide) = true := by decide +kernel
theorem g_X7_divide : gw (.code yX7_divide cX7_divide 7 (some .int)) = true ∧ gw (.initialized yX7_divide.cls) = true := by decide +kernel
theorem c_X7_divide {l : Launch} {G : GX} (hl : l.stackTraces = false) : ∀ as X K KX, w_X7_divide (gT G) as X K KX → CT l G yX7_divide (.code yX7_divide cX7_divide 7 (some .int)) 1 23 0 0 as X K KX := fun as X K KX h => CT_of (M := M_X7_divide (gT G)) (own := RX7) (ini := false) (T := T_X7_divide (gT G)) (B := B_X7_divide) (by decide +kernel) hl rfl (fun h => absurd h (by decide)) rfl tab_X7 k_X7_divide rfl (Or.inl rfl) rfl
  ⟨ivMin_ok ml_X7_81 rfl, trivial⟩ (gd_use h).1 (gd_use h).2
def B_X7_commonDivisor : List (Nat × List (Nat × Instr × Nat)) := [(0, [(0, .iload_n 0, 1), (1, .istore_n 2, 1), (2, .iload_n 1, 1), (3, .istore_n 3, 1), (4, .iconst 0, 1), (5, .istore 4, 2)]),
  (7, [(7, .iload 4, 2), (9, .bipush 64, 2), (11, .if_icmp .ge 23, 3), (14, .iload_n 3, 1), (15, .ifCond .eq 19, 3), (18, .iload_n 2, 1), (19, .iload_n 3, 1), (20, .irem, 1), (21, .istore 5, 2), (23, .iload_n 3, 1), (24, .istore_n 2, 1), (25, .iload 5, 2), (27, .istore_n 3, 1), (28, .iinc 4 1, 3), (31, .goto (-24), 3)]),
  (34, [(34, .iload_n 2, 1), (35, .ireturn, 1)])]
def T_X7_commonDivisor (tb : Nat → Option (Nat × Nat)) : List (Nat × IV) := []
def M_X7_commonDivisor (tb : Nat → Option (Nat × Nat)) : MT := (tb, FX7, StX7, CX7, NwX7, ivOf (T_X7_commonDivisor tb), 0, 0, 1)
def r_X7_commonDivisor (tb : Nat → Option (Nat × Nat)) (K : Option AV → AX → Prop) (KX : String → AX → Prop) : PT := lfp (wpm (M_X7_commonDivisor tb) B_X7_commonDivisor K (fun _ _ _ E X _ _ => KX E X))
def w_X7_commonDivisor (tb : Nat → Option (Nat × Nat)) : WP := fun as X K KX => gd ((ini0 as).length ≤ 6) (r_X7_commonDivisor tb K KX 0 (iniL as 6) [] X 0 0)
theorem k_X7_commonDivisor : B_X7_commonDivisor.all (blkB FX7 CX7 NwX7 RX7 false cX7_commonDivisor) = true := by decide +kernel
theorem g_X7_commonDivisor : gw (.code yX7_commonDivisor cX7_commonDivisor 6 (some .int)) = true ∧ gw (.initialized yX7_commonDivisor.cls) = true := by decide +kernel
theorem c_X7_commonDivisor {l : Launch} {G : GX} (hl : l.stackTraces = false) : ∀ as X K KX, w_X7_commonDivisor (gT G) as X K KX → CT l G yX7_commonDivisor (.code yX7_commonDivisor cX7_commonDivisor 6 (some .int)) 0 0 0 0 as X K KX := fun as X K KX h => CT_of (M := M_X7_commonDivisor (gT G)) (own := RX7) (ini := false) (T := T_X7_commonDivisor (gT G)) (B := B_X7_commonDivisor) (by decide +kernel) hl rfl (fun h => absurd h (by decide)) rfl tab_X7 k_X7_commonDivisor rfl (Or.inl rfl) rfl
  trivial (gd_use h).1 (gd_use h).2
def B_X7_multiply : List (Nat × List (Nat × Instr × Nat)) := [(0, [(0, .lconst 0, 1), (1, .lstore_n 3, 1), (2, .iconst 0, 1), (3, .istore 5, 2)]),
  (5, [(5, .iload 5, 2), (7, .iload_n 1, 1), (8, .if_icmp .ge 42, 3), (11, .iload 5, 2), (13, .aload_n 0, 1), (14, .arraylength, 1), (15, .if_icmp .ge 35, 3), (18, .lload_n 3, 1), (19, .aload_n 0, 1), (20, .iload 5, 2), (22, .iaload, 1), (23, .i2l, 1), (24, .iload_n 2, 1), (25, .i2l, 1), (26, .lmul, 1), (27, .ladd, 1), (28, .lstore_n 3, 1), (29, .aload_n 0, 1), (30, .iload 5, 2), (32, .lload_n 3, 1), (33, .ldc2_w 79, 3), (36, .land, 1), (37, .l2i, 1), (38, .iastore, 1), (39, .lload_n 3, 1), (40, .bipush 30, 2), (42, .lshr, 1), (43, .lstore_n 3, 1), (44, .iinc 5 1, 3), (47, .goto (-42), 3)]),
  (50, [(50, .return_, 1)])]
def T_X7_multiply (tb : Nat → Option (Nat × Nat)) : List (Nat × IV) := []
def M_X7_multiply (tb : Nat → Option (Nat × Nat)) : MT := (tb, FX7, StX7, CX7, NwX7, ivOf (T_X7_multiply tb), 0, 0, 0)
def r_X7_multiply (tb : Nat → Option (Nat × Nat)) (K : Option AV → AX → Prop) (KX : String → AX → Prop) : PT := lfp (wpm (M_X7_multiply tb) B_X7_multiply K (fun _ _ _ E X _ _ => KX E X))
def w_X7_multiply (tb : Nat → Option (Nat × Nat)) : WP := fun as X K KX => gd ((ini0 as).length ≤ 6) (r_X7_multiply tb K KX 0 (iniL as 6) [] X 0 0)
theorem k_X7_multiply : B_X7_multiply.all (blkB FX7 CX7 NwX7 RX7 false cX7_multiply) = true := by decide +kernel
theorem g_X7_multiply : gw (.code yX7_multiply cX7_multiply 6 none) = true ∧ gw (.initialized yX7_multiply.cls) = true := by decide +kernel
theorem c_X7_multiply {l : Launch} {G : GX} (hl : l.stackTraces = false) : ∀ as X K KX, w_X7_multiply (gT G) as X K KX → CT l G yX7_multiply (.code yX7_multiply cX7_multiply 6 none) 0 0 0 0 as X K KX := fun as X K KX h => CT_of (M := M_X7_multiply (gT G)) (own := RX7) (ini := false) (T := T_X7_multiply (gT G)) (B := B_X7_multiply) (by decide +kernel) hl rfl (fun h => absurd h (by decide)) rfl tab_X7 k_X7_multiply rfl (Or.inl rfl) rfl
  trivial (gd_use h).1 (gd_use h).2
theorem st_X7_multiply : gw (.static yX7_multiply) = true := by decide +kernel
theorem py_X7_multiply : plainY yX7_multiply 3 = true := by decide +kernel
theorem ml_X7_51 : gw (.methodLink RX7 51 yX7_multiply) = true := by decide +kernel
def B_X7_widen : List (Nat × List (Nat × Instr × Nat)) := [(0, [(0, .aload_n 0, 1), (1, .getfield 9, 3), (4, .aload_n 0, 1), (5, .getfield 19, 3), (8, .iload_n 1, 1), (9, .invokestatic 51, 3), (12, .aload_n 0, 1), (13, .getfield 13, 3), (16, .aload_n 0, 1), (17, .getfield 19, 3), (20, .iload_n 1, 1), (21, .invokestatic 51, 3), (24, .aload_n 0, 1), (25, .getfield 13, 3), (28, .aload_n 0, 1), (29, .getfield 19, 3), (32, .iconst 1, 1), (33, .isub, 1), (34, .iaload, 1), (35, .ifCond .eq 22, 3), (38, .aload_n 0, 1), (39, .getfield 19, 3), (42, .bipush 24, 2), (44, .if_icmp .ge 13, 3), (47, .aload_n 0, 1), (48, .dup, 1), (49, .getfield 19, 3), (52, .iconst 1, 1), (53, .iadd, 1), (54, .putfield 19, 3)]),
  (57, [(57, .return_, 1)])]
def T_X7_widen (tb : Nat → Option (Nat × Nat)) : List (Nat × IV) := [(206, ivS 0 0 3 0 0 0 (w_X7_multiply tb))]
def M_X7_widen (tb : Nat → Option (Nat × Nat)) : MT := (tb, FX7, StX7, CX7, NwX7, ivOf (T_X7_widen tb), 0, 0, 0)
def r_X7_widen (tb : Nat → Option (Nat × Nat)) (K : Option AV → AX → Prop) (KX : String → AX → Prop) : PT := lfp (wpm (M_X7_widen tb) B_X7_widen K (fun _ _ _ E X _ _ => KX E X))
def w_X7_widen (tb : Nat → Option (Nat × Nat)) : WP := fun as X K KX => gd ((ini0 as).length ≤ 2) (r_X7_widen tb K KX 0 (iniL as 2) [] X 0 0)
theorem k_X7_widen : B_X7_widen.all (blkB FX7 CX7 NwX7 RX7 false cX7_widen) = true := by decide +kernel
theorem g_X7_widen : gw (.code yX7_widen cX7_widen 2 none) = true ∧ gw (.initialized yX7_widen.cls) = true := by decide +kernel
theorem c_X7_widen {l : Launch} {G : GX} (hl : l.stackTraces = false) : ∀ as X K KX, w_X7_widen (gT G) as X K KX → CT l G yX7_widen (.code yX7_widen cX7_widen 2 none) 1 25 0 0 as X K KX := fun as X K KX h => CT_of (M := M_X7_widen (gT G)) (own := RX7) (ini := false) (T := T_X7_widen (gT G)) (B := B_X7_widen) (by decide +kernel) hl rfl (fun h => absurd h (by decide)) rfl tab_X7 k_X7_widen rfl (Or.inl rfl) rfl
  ⟨ivS_ok (c_X7_multiply hl) g_X7_multiply.1 g_X7_multiply.2 ml_X7_51 st_X7_multiply py_X7_multiply rfl, trivial⟩ (gd_use h).1 (gd_use h).2
theorem st_X7_divide : gw (.static yX7_divide) = true := by decide +kernel
theorem py_X7_divide : plainY yX7_divide 4 = true := by decide +kernel
theorem ml_X7_68 : gw (.methodLink RX7 68 yX7_divide) = true := by decide +kernel
theorem st_X7_commonDivisor : gw (.static yX7_commonDivisor) = true := by decide +kernel
theorem py_X7_commonDivisor : plainY yX7_commonDivisor 2 = true := by decide +kernel
theorem ml_X7_72 : gw (.methodLink RX7 72 yX7_commonDivisor) = true := by decide +kernel
theorem py_X7_widen : plainY yX7_widen 1 = true := by decide +kernel
theorem in_X7_widen : gw (.instanceMethod yX7_widen) = true := by decide +kernel
theorem se_X7_widen : gw (.selects RX7 yX7_widen yX7_widen) = true := by decide +kernel
theorem ml_X7_76 : gw (.methodLink RX7 76 yX7_widen) = true := by decide +kernel
def B_X7_findShare : List (Nat × List (Nat × Instr × Nat)) := [(0, [(0, .aload_n 0, 1), (1, .getfield 13, 3), (4, .aload_n 0, 1), (5, .getfield 19, 3), (8, .iload_n 1, 1), (9, .aload_n 0, 1), (10, .getfield 16, 3), (13, .invokestatic 68, 3), (16, .istore_n 2, 1), (17, .iload_n 2, 1), (18, .ifCond .ne 4, 3), (21, .return_, 1)]),
  (22, [(22, .iload_n 1, 1), (23, .iload_n 2, 1), (24, .invokestatic 72, 3), (27, .istore_n 3, 1), (28, .aload_n 0, 1), (29, .iload_n 3, 1), (30, .iconst 1, 1), (31, .if_icmp .ge 7, 3), (34, .iload_n 1, 1), (35, .goto 6, 3)]),
  (38, [(38, .iload_n 1, 1), (39, .iload_n 3, 1), (40, .idiv, 1)]),
  (41, [(41, .invokevirtual 76, 3), (44, .aload_n 0, 1), (45, .getfield 13, 3), (48, .aload_n 0, 1), (49, .getfield 19, 3), (52, .iload_n 1, 1), (53, .aload_n 0, 1), (54, .getfield 16, 3), (57, .invokestatic 68, 3), (60, .pop, 1), (61, .return_, 1)])]
def T_X7_findShare (tb : Nat → Option (Nat × Nat)) : List (Nat × IV) := [(274, ivS 0 0 4 0 0 1 (w_X7_divide tb)), (290, ivS 0 0 2 0 0 1 (w_X7_commonDivisor tb)), (304, ivV tb 7 0 0 1 0 0 0 (w_X7_widen tb))]
def M_X7_findShare (tb : Nat → Option (Nat × Nat)) : MT := (tb, FX7, StX7, CX7, NwX7, ivOf (T_X7_findShare tb), 0, 0, 0)
def r_X7_findShare (tb : Nat → Option (Nat × Nat)) (K : Option AV → AX → Prop) (KX : String → AX → Prop) : PT := lfp (wpm (M_X7_findShare tb) B_X7_findShare K (fun _ _ _ E X _ _ => KX E X))
def w_X7_findShare (tb : Nat → Option (Nat × Nat)) : WP := fun as X K KX => gd ((ini0 as).length ≤ 4) (r_X7_findShare tb K KX 0 (iniL as 4) [] X 0 0)
theorem k_X7_findShare : B_X7_findShare.all (blkB FX7 CX7 NwX7 RX7 false cX7_findShare) = true := by decide +kernel
theorem g_X7_findShare : gw (.code yX7_findShare cX7_findShare 4 none) = true ∧ gw (.initialized yX7_findShare.cls) = true := by decide +kernel
theorem c_X7_findShare {l : Launch} {G : GX} (hl : l.stackTraces = false) : ∀ as X K KX, w_X7_findShare (gT G) as X K KX → CT l G yX7_findShare (.code yX7_findShare cX7_findShare 4 none) 2 49 0 0 as X K KX := fun as X K KX h => CT_of (M := M_X7_findShare (gT G)) (own := RX7) (ini := false) (T := T_X7_findShare (gT G)) (B := B_X7_findShare) (by decide +kernel) hl rfl (fun h => absurd h (by decide)) rfl tab_X7 k_X7_findShare rfl (Or.inl rfl) rfl
  ⟨ivS_ok (c_X7_divide hl) g_X7_divide.1 g_X7_divide.2 ml_X7_68 st_X7_divide py_X7_divide rfl, ivS_ok (c_X7_commonDivisor hl) g_X7_commonDivisor.1 g_X7_commonDivisor.2 ml_X7_72 st_X7_commonDivisor py_X7_commonDivisor rfl, ivV_ok (ci := 7) (c_X7_widen hl) g_X7_widen.1 g_X7_widen.2 ml_X7_76 in_X7_widen py_X7_widen rfl se_X7_widen, trivial⟩ (gd_use h).1 (gd_use h).2
def B_X7_addTimes : List (Nat × List (Nat × Instr × Nat)) := [(0, [(0, .lconst 0, 1), (1, .lstore 4, 2), (3, .iconst 0, 1), (4, .istore 6, 2)]),
  (6, [(6, .iload 6, 2), (8, .iload_n 2, 1), (9, .if_icmp .ge 60, 3), (12, .iload 6, 2), (14, .aload_n 0, 1), (15, .arraylength, 1), (16, .if_icmp .ge 53, 3), (19, .iload 6, 2), (21, .aload_n 1, 1), (22, .arraylength, 1), (23, .if_icmp .ge 46, 3), (26, .lload 4, 2), (28, .aload_n 0, 1), (29, .iload 6, 2), (31, .iaload, 1), (32, .i2l, 1), (33, .aload_n 1, 1), (34, .iload 6, 2), (36, .iaload, 1), (37, .i2l, 1), (38, .iload_n 3, 1), (39, .i2l, 1), (40, .lmul, 1), (41, .ladd, 1), (42, .ladd, 1), (43, .lstore 4, 2), (45, .aload_n 0, 1), (46, .iload 6, 2), (48, .lload 4, 2), (50, .ldc2_w 79, 3), (53, .land, 1), (54, .l2i, 1), (55, .iastore, 1), (56, .lload 4, 2), (58, .bipush 30, 2), (60, .lshr, 1), (61, .lstore 4, 2), (63, .iinc 6 1, 3), (66, .goto (-60), 3)]),
  (69, [(69, .return_, 1)])]
def T_X7_addTimes (tb : Nat → Option (Nat × Nat)) : List (Nat × IV) := []
def M_X7_addTimes (tb : Nat → Option (Nat × Nat)) : MT := (tb, FX7, StX7, CX7, NwX7, ivOf (T_X7_addTimes tb), 0, 0, 0)
def r_X7_addTimes (tb : Nat → Option (Nat × Nat)) (K : Option AV → AX → Prop) (KX : String → AX → Prop) : PT := lfp (wpm (M_X7_addTimes tb) B_X7_addTimes K (fun _ _ _ E X _ _ => KX E X))
def w_X7_addTimes (tb : Nat → Option (Nat × Nat)) : WP := fun as X K KX => gd ((ini0 as).length ≤ 7) (r_X7_addTimes tb K KX 0 (iniL as 7) [] X 0 0)
theorem k_X7_addTimes : B_X7_addTimes.all (blkB FX7 CX7 NwX7 RX7 false cX7_addTimes) = true := by decide +kernel
theorem g_X7_addTimes : gw (.code yX7_addTimes cX7_addTimes 7 none) = true ∧ gw (.initialized yX7_addTimes.cls) = true := by decide +kernel
theorem c_X7_addTimes {l : Launch} {G : GX} (hl : l.stackTraces = false) : ∀ as X K KX, w_X7_addTimes (gT G) as X K KX → CT l G yX7_addTimes (.code yX7_addTimes cX7_addTimes 7 none) 0 0 0 0 as X K KX := fun as X K KX h => CT_of (M := M_X7_addTimes (gT G)) (own := RX7) (ini := false) (T := T_X7_addTimes (gT G)) (B := B_X7_addTimes) (by decide +kernel) hl rfl (fun h => absurd h (by decide)) rfl tab_X7 k_X7_addTimes rfl (Or.inl rfl) rfl
  trivial (gd_use h).1 (gd_use h).2
def B_X7_compare : List (Nat × List (Nat × Instr × Nat)) := [(0, [(0, .iload_n 2, 1), (1, .aload_n 0, 1), (2, .arraylength, 1), (3, .aload_n 1, 1), (4, .arraylength, 1), (5, .invokestatic 81, 3), (8, .invokestatic 81, 3), (11, .iconst 1, 1), (12, .isub, 1), (13, .istore_n 3, 1)]),
  (14, [(14, .iload_n 3, 1), (15, .ifCond .lt 33, 3), (18, .aload_n 0, 1), (19, .iload_n 3, 1), (20, .iaload, 1), (21, .aload_n 1, 1), (22, .iload_n 3, 1), (23, .iaload, 1), (24, .if_icmp .eq 18, 3), (27, .aload_n 0, 1), (28, .iload_n 3, 1), (29, .iaload, 1), (30, .aload_n 1, 1), (31, .iload_n 3, 1), (32, .iaload, 1), (33, .if_icmp .ge 7, 3), (36, .iconst (-1), 1), (37, .goto 4, 3)]),
  (40, [(40, .iconst 1, 1)]),
  (41, [(41, .ireturn, 1)]),
  (42, [(42, .iinc 3 (-1), 3), (45, .goto (-31), 3)]),
  (48, [(48, .iconst 0, 1), (49, .ireturn, 1)])]
def T_X7_compare (tb : Nat → Option (Nat × Nat)) : List (Nat × IV) := [(326, ivM2 (fun x y => if y < x then y else x))]
def M_X7_compare (tb : Nat → Option (Nat × Nat)) : MT := (tb, FX7, StX7, CX7, NwX7, ivOf (T_X7_compare tb), 0, 0, 1)
def r_X7_compare (tb : Nat → Option (Nat × Nat)) (K : Option AV → AX → Prop) (KX : String → AX → Prop) : PT := lfp (wpm (M_X7_compare tb) B_X7_compare K (fun _ _ _ E X _ _ => KX E X))
def w_X7_compare (tb : Nat → Option (Nat × Nat)) : WP := fun as X K KX => gd ((ini0 as).length ≤ 4) (r_X7_compare tb K KX 0 (iniL as 4) [] X 0 0)
theorem k_X7_compare : B_X7_compare.all (blkB FX7 CX7 NwX7 RX7 false cX7_compare) = true := by decide +kernel
theorem g_X7_compare : gw (.code yX7_compare cX7_compare 4 (some .int)) = true ∧ gw (.initialized yX7_compare.cls) = true := by decide +kernel
theorem c_X7_compare {l : Launch} {G : GX} (hl : l.stackTraces = false) : ∀ as X K KX, w_X7_compare (gT G) as X K KX → CT l G yX7_compare (.code yX7_compare cX7_compare 4 (some .int)) 1 23 0 0 as X K KX := fun as X K KX h => CT_of (M := M_X7_compare (gT G)) (own := RX7) (ini := false) (T := T_X7_compare (gT G)) (B := B_X7_compare) (by decide +kernel) hl rfl (fun h => absurd h (by decide)) rfl tab_X7 k_X7_compare rfl (Or.inl rfl) rfl
  ⟨ivMin_ok ml_X7_81 rfl, trivial⟩ (gd_use h).1 (gd_use h).2
theorem st_X7_addTimes : gw (.static yX7_addTimes) = true := by decide +kernel
theorem py_X7_addTimes : plainY yX7_addTimes 4 = true := by decide +kernel
theorem ml_X7_39 : gw (.methodLink RX7 39 yX7_addTimes) = true := by decide +kernel
def B_X7_subtract : List (Nat × List (Nat × Instr × Nat)) := [(0, [(0, .aload_n 0, 1), (1, .aload_n 1, 1), (2, .iload_n 2, 1), (3, .iconst (-1), 1), (4, .invokestatic 39, 3), (7, .return_, 1)])]
def T_X7_subtract (tb : Nat → Option (Nat × Nat)) : List (Nat × IV) := [(158, ivS 0 0 4 0 0 0 (w_X7_addTimes tb))]
def M_X7_subtract (tb : Nat → Option (Nat × Nat)) : MT := (tb, FX7, StX7, CX7, NwX7, ivOf (T_X7_subtract tb), 0, 0, 0)
def r_X7_subtract (tb : Nat → Option (Nat × Nat)) (K : Option AV → AX → Prop) (KX : String → AX → Prop) : PT := lfp (wpm (M_X7_subtract tb) B_X7_subtract K (fun _ _ _ E X _ _ => KX E X))
def w_X7_subtract (tb : Nat → Option (Nat × Nat)) : WP := fun as X K KX => gd ((ini0 as).length ≤ 3) (r_X7_subtract tb K KX 0 (iniL as 3) [] X 0 0)
theorem k_X7_subtract : B_X7_subtract.all (blkB FX7 CX7 NwX7 RX7 false cX7_subtract) = true := by decide +kernel
theorem g_X7_subtract : gw (.code yX7_subtract cX7_subtract 3 none) = true ∧ gw (.initialized yX7_subtract.cls) = true := by decide +kernel
theorem c_X7_subtract {l : Launch} {G : GX} (hl : l.stackTraces = false) : ∀ as X K KX, w_X7_subtract (gT G) as X K KX → CT l G yX7_subtract (.code yX7_subtract cX7_subtract 3 none) 1 26 0 0 as X K KX := fun as X K KX h => CT_of (M := M_X7_subtract (gT G)) (own := RX7) (ini := false) (T := T_X7_subtract (gT G)) (B := B_X7_subtract) (by decide +kernel) hl rfl (fun h => absurd h (by decide)) rfl tab_X7 k_X7_subtract rfl (Or.inl rfl) rfl
  ⟨ivS_ok (c_X7_addTimes hl) g_X7_addTimes.1 g_X7_addTimes.2 ml_X7_39 st_X7_addTimes py_X7_addTimes rfl, trivial⟩ (gd_use h).1 (gd_use h).2
theorem py_X7_findShare : plainY yX7_findShare 1 = true := by decide +kernel
theorem in_X7_findShare : gw (.instanceMethod yX7_findShare) = true := by decide +kernel
theorem se_X7_findShare : gw (.selects RX7 yX7_findShare yX7_findShare) = true := by decide +kernel
theorem ml_X7_35 : gw (.methodLink RX7 35 yX7_findShare) = true := by decide +kernel
theorem st_X7_compare : gw (.static yX7_compare) = true := by decide +kernel
theorem py_X7_compare : plainY yX7_compare 3 = true := by decide +kernel
theorem ml_X7_43 : gw (.methodLink RX7 43 yX7_compare) = true := by decide +kernel
theorem st_X7_subtract : gw (.static yX7_subtract) = true := by decide +kernel
theorem py_X7_subtract : plainY yX7_subtract 3 = true := by decide +kernel
theorem ml_X7_47 : gw (.methodLink RX7 47 yX7_subtract) = true := by decide +kernel
def B_X7_add : List (Nat × List (Nat × Instr × Nat)) := [(0, [(0, .iload_n 2, 1), (1, .iconst 1, 1), (2, .if_icmp .ge 5, 3), (5, .iconst 0, 1), (6, .ireturn, 1)]),
  (7, [(7, .iload_n 1, 1), (8, .iload_n 2, 1), (9, .idiv, 1), (10, .istore_n 3, 1), (11, .iload_n 1, 1), (12, .iload_n 2, 1), (13, .irem, 1), (14, .istore 4, 2), (16, .iload 4, 2), (18, .ifCond .ne 5, 3), (21, .iload_n 3, 1), (22, .ireturn, 1)]),
  (23, [(23, .aload_n 0, 1), (24, .iload_n 2, 1), (25, .invokevirtual 35, 3), (28, .aload_n 0, 1), (29, .getfield 9, 3), (32, .aload_n 0, 1), (33, .getfield 16, 3), (36, .aload_n 0, 1), (37, .getfield 19, 3), (40, .iload 4, 2), (42, .invokestatic 39, 3), (45, .aload_n 0, 1), (46, .getfield 9, 3), (49, .aload_n 0, 1), (50, .getfield 13, 3), (53, .aload_n 0, 1), (54, .getfield 19, 3), (57, .invokestatic 43, 3), (60, .ifCond .ge 5, 3), (63, .iload_n 3, 1), (64, .ireturn, 1)]),
  (65, [(65, .aload_n 0, 1), (66, .getfield 9, 3), (69, .aload_n 0, 1), (70, .getfield 13, 3), (73, .aload_n 0, 1), (74, .getfield 19, 3), (77, .invokestatic 47, 3), (80, .iload_n 3, 1), (81, .iconst 1, 1), (82, .iadd, 1), (83, .ireturn, 1)])]
def T_X7_add (tb : Nat → Option (Nat × Nat)) : List (Nat × IV) := [(140, ivV tb 7 0 0 1 0 0 0 (w_X7_findShare tb)), (158, ivS 0 0 4 0 0 0 (w_X7_addTimes tb)), (174, ivS 0 0 3 0 0 1 (w_X7_compare tb)), (190, ivS 0 0 3 0 0 0 (w_X7_subtract tb))]
def M_X7_add (tb : Nat → Option (Nat × Nat)) : MT := (tb, FX7, StX7, CX7, NwX7, ivOf (T_X7_add tb), 0, 0, 1)
def r_X7_add (tb : Nat → Option (Nat × Nat)) (K : Option AV → AX → Prop) (KX : String → AX → Prop) : PT := lfp (wpm (M_X7_add tb) B_X7_add K (fun _ _ _ E X _ _ => KX E X))
def w_X7_add (tb : Nat → Option (Nat × Nat)) : WP := fun as X K KX => gd ((ini0 as).length ≤ 5) (r_X7_add tb K KX 0 (iniL as 5) [] X 0 0)
theorem k_X7_add : B_X7_add.all (blkB FX7 CX7 NwX7 RX7 false cX7_add) = true := by decide +kernel
theorem g_X7_add : gw (.code yX7_add cX7_add 5 (some .int)) = true ∧ gw (.initialized yX7_add.cls) = true := by decide +kernel
theorem c_X7_add {l : Launch} {G : GX} (hl : l.stackTraces = false) : ∀ as X K KX, w_X7_add (gT G) as X K KX → CT l G yX7_add (.code yX7_add cX7_add 5 (some .int)) 3 72 0 0 as X K KX := fun as X K KX h => CT_of (M := M_X7_add (gT G)) (own := RX7) (ini := false) (T := T_X7_add (gT G)) (B := B_X7_add) (by decide +kernel) hl rfl (fun h => absurd h (by decide)) rfl tab_X7 k_X7_add rfl (Or.inl rfl) rfl
  ⟨ivV_ok (ci := 7) (c_X7_findShare hl) g_X7_findShare.1 g_X7_findShare.2 ml_X7_35 in_X7_findShare py_X7_findShare rfl se_X7_findShare, ivS_ok (c_X7_addTimes hl) g_X7_addTimes.1 g_X7_addTimes.2 ml_X7_39 st_X7_addTimes py_X7_addTimes rfl, ivS_ok (c_X7_compare hl) g_X7_compare.1 g_X7_compare.2 ml_X7_43 st_X7_compare py_X7_compare rfl, ivS_ok (c_X7_subtract hl) g_X7_subtract.1 g_X7_subtract.2 ml_X7_47 st_X7_subtract py_X7_subtract rfl, trivial⟩ (gd_use h).1 (gd_use h).2
theorem py_X5_minuteOfDay : plainY yX5_minuteOfDay 0 = true := by decide +kernel
theorem in_X5_minuteOfDay : gw (.instanceMethod yX5_minuteOfDay) = true := by decide +kernel
theorem se_X5_minuteOfDay : gw (.selects RX5 yX5_minuteOfDay yX5_minuteOfDay) = true := by decide +kernel
theorem ml_X5_88 : gw (.methodLink RX5 88 yX5_minuteOfDay) = true := by decide +kernel
theorem se_X0_yX1_priceAt_X1_priceAt : gw (.selects RX0 yX1_priceAt yX1_priceAt) = true := by decide +kernel
theorem in_X1_priceAt : gw (.instanceMethod yX1_priceAt) = true := by decide +kernel
theorem se_X1_yX1_priceAt_X1_priceAt : gw (.selects RX1 yX1_priceAt yX1_priceAt) = true := by decide +kernel
theorem se_X2_yX1_priceAt_X1_priceAt : gw (.selects RX2 yX1_priceAt yX1_priceAt) = true := by decide +kernel
theorem se_X3_yX1_priceAt_X1_priceAt : gw (.selects RX3 yX1_priceAt yX1_priceAt) = true := by decide +kernel
theorem se_X6_yX1_priceAt_X6_priceAt : gw (.selects RX6 yX1_priceAt yX6_priceAt) = true := by decide +kernel
theorem in_X6_priceAt : gw (.instanceMethod yX6_priceAt) = true := by decide +kernel
theorem sm_yX1_priceAt : gw (.sameMethod RX1 RX1 "priceAt" "(I)I") = true := by decide +kernel
theorem ml_X5_91 : gw (.methodLink RX5 91 yX1_priceAt) = true := by decide +kernel
theorem py_X1_priceAt : plainY yX1_priceAt 1 = true := by decide +kernel
theorem se_X0_yX1_lengthBehind_X1_lengthBehind : gw (.selects RX0 yX1_lengthBehind yX1_lengthBehind) = true := by decide +kernel
theorem in_X1_lengthBehind : gw (.instanceMethod yX1_lengthBehind) = true := by decide +kernel
theorem se_X1_yX1_lengthBehind_X1_lengthBehind : gw (.selects RX1 yX1_lengthBehind yX1_lengthBehind) = true := by decide +kernel
theorem se_X2_yX1_lengthBehind_X2_lengthBehind : gw (.selects RX2 yX1_lengthBehind yX2_lengthBehind) = true := by decide +kernel
theorem in_X2_lengthBehind : gw (.instanceMethod yX2_lengthBehind) = true := by decide +kernel
theorem se_X3_yX1_lengthBehind_X2_lengthBehind : gw (.selects RX3 yX1_lengthBehind yX2_lengthBehind) = true := by decide +kernel
theorem se_X6_yX1_lengthBehind_X1_lengthBehind : gw (.selects RX6 yX1_lengthBehind yX1_lengthBehind) = true := by decide +kernel
theorem sm_yX1_lengthBehind : gw (.sameMethod RX1 RX1 "lengthBehind" "(JI)I") = true := by decide +kernel
theorem ml_X5_95 : gw (.methodLink RX5 95 yX1_lengthBehind) = true := by decide +kernel
theorem py_X1_lengthBehind : plainY yX1_lengthBehind 2 = true := by decide +kernel
theorem py_X7_add : plainY yX7_add 2 = true := by decide +kernel
theorem in_X7_add : gw (.instanceMethod yX7_add) = true := by decide +kernel
theorem se_X7_add : gw (.selects RX7 yX7_add yX7_add) = true := by decide +kernel
theorem ml_X5_99 : gw (.methodLink RX5 99 yX7_add) = true := by decide +kernel
theorem ml_X5_103 : gw (.methodLink RX5 103 Lib.Math.min.name) = true := by decide +kernel
def B_X5_tick : List (Nat × List (Nat × Instr × Nat)) := [(0, [(0, .aload_n 0, 1), (1, .getfield 73, 3), (4, .aload_n 0, 1), (5, .invokevirtual 88, 3), (8, .invokevirtual 91, 3), (11, .istore_n 2, 1), (12, .iload_n 1, 1), (13, .aload_n 0, 1), (14, .getfield 73, 3), (17, .getfield 35, 3), (20, .iconst 5, 1), (21, .iaload, 1), (22, .aload_n 0, 1), (23, .getfield 25, 3), (26, .imul, 1), (27, .if_icmp .le 35, 3), (30, .aload_n 0, 1), (31, .getfield 12, 3), (34, .iload_n 1, 1), (35, .aload_n 0, 1), (36, .getfield 73, 3), (39, .aload_n 0, 1), (40, .getfield 31, 3), (43, .aload_n 0, 1), (44, .getfield 25, 3), (47, .invokevirtual 95, 3), (50, .aload_n 0, 1), (51, .getfield 25, 3), (54, .imul, 1), (55, .invokevirtual 99, 3), (58, .istore_n 3, 1), (59, .goto 21, 3)]),
  (62, [(62, .aload_n 0, 1), (63, .getfield 12, 3), (66, .iconst 1, 1), (67, .aload_n 0, 1), (68, .getfield 73, 3), (71, .getfield 35, 3), (74, .iconst 4, 1), (75, .iaload, 1), (76, .invokevirtual 99, 3), (79, .istore_n 3, 1)]),
  (80, [(80, .aload_n 0, 1), (81, .dup, 1), (82, .getfield 31, 3), (85, .iload_n 1, 1), (86, .i2l, 1), (87, .ladd, 1), (88, .putfield 31, 3), (91, .aload_n 0, 1), (92, .dup, 1), (93, .getfield 28, 3), (96, .iconst 1, 1), (97, .iadd, 1), (98, .putfield 28, 3), (101, .aload_n 0, 1), (102, .dup, 1), (103, .getfield 44, 3), (106, .iload_n 3, 1), (107, .iadd, 1), (108, .putfield 44, 3), (111, .iload_n 3, 1), (112, .aload_n 0, 1), (113, .getfield 47, 3), (116, .invokestatic 103, 3), (119, .istore 4, 2), (121, .aload_n 0, 1), (122, .dup, 1), (123, .getfield 47, 3), (126, .iload 4, 2), (128, .isub, 1), (129, .putfield 47, 3), (132, .aload_n 0, 1), (133, .dup, 1), (134, .getfield 41, 3), (137, .iload_n 3, 1), (138, .iload 4, 2), (140, .isub, 1), (141, .i2l, 1), (142, .iload_n 2, 1), (143, .i2l, 1), (144, .lmul, 1), (145, .ladd, 1), (146, .putfield 41, 3), (149, .iload_n 3, 1), (150, .ireturn, 1)])]
def T_X5_tick (tb : Nat → Option (Nat × Nat)) : List (Nat × IV) := [(352, ivV tb 5 0 0 0 0 0 1 (w_X5_minuteOfDay tb)), (364, ivD tb 1 1 [(0, w_X1_priceAt tb), (1, w_X1_priceAt tb), (2, w_X1_priceAt tb), (3, w_X1_priceAt tb), (6, w_X6_priceAt tb)]), (380, ivD tb 2 1 [(0, w_X1_lengthBehind tb), (1, w_X1_lengthBehind tb), (2, w_X2_lengthBehind tb), (3, w_X2_lengthBehind tb), (6, w_X1_lengthBehind tb)]), (396, ivV tb 7 0 0 2 0 0 1 (w_X7_add tb)), (414, ivM2 (fun x y => if y < x then y else x))]
def M_X5_tick (tb : Nat → Option (Nat × Nat)) : MT := (tb, FX5, StX5, CX5, NwX5, ivOf (T_X5_tick tb), 0, 0, 1)
def r_X5_tick (tb : Nat → Option (Nat × Nat)) (K : Option AV → AX → Prop) (KX : String → AX → Prop) : PT := lfp (wpm (M_X5_tick tb) B_X5_tick K (fun _ _ _ E X _ _ => KX E X))
def w_X5_tick (tb : Nat → Option (Nat × Nat)) : WP := fun as X K KX => gd ((ini0 as).length ≤ 5) (r_X5_tick tb K KX 0 (iniL as 5) [] X 0 0)
theorem k_X5_tick : B_X5_tick.all (blkB FX5 CX5 NwX5 RX5 false cX5_tick) = true := by decide +kernel
theorem g_X5_tick : gw (.code yX5_tick cX5_tick 5 (some .int)) = true ∧ gw (.initialized yX5_tick.cls) = true := by decide +kernel
theorem c_X5_tick {l : Launch} {G : GX} (hl : l.stackTraces = false) : ∀ as X K KX, w_X5_tick (gT G) as X K KX → CT l G yX5_tick (.code yX5_tick cX5_tick 5 (some .int)) 4 96 0 0 as X K KX := fun as X K KX h => CT_of (M := M_X5_tick (gT G)) (own := RX5) (ini := false) (T := T_X5_tick (gT G)) (B := B_X5_tick) (by decide +kernel) hl rfl (fun h => absurd h (by decide)) rfl tab_X5 k_X5_tick rfl (Or.inr (Or.inl nw_X5)) rfl
  ⟨ivV_ok (ci := 5) (c_X5_minuteOfDay hl) g_X5_minuteOfDay.1 g_X5_minuteOfDay.2 ml_X5_88 in_X5_minuteOfDay py_X5_minuteOfDay rfl se_X5_minuteOfDay, ivD_ok g_X1_priceAt.1 ml_X5_91 in_X1_priceAt py_X1_priceAt sm_yX1_priceAt ⟨⟨yX1_priceAt, cX1_priceAt, 2, (some .int), 0, 0, c_X1_priceAt hl, g_X1_priceAt.1, g_X1_priceAt.2, in_X1_priceAt, rfl, se_X0_yX1_priceAt_X1_priceAt⟩, ⟨yX1_priceAt, cX1_priceAt, 2, (some .int), 0, 0, c_X1_priceAt hl, g_X1_priceAt.1, g_X1_priceAt.2, in_X1_priceAt, rfl, se_X1_yX1_priceAt_X1_priceAt⟩, ⟨yX1_priceAt, cX1_priceAt, 2, (some .int), 0, 0, c_X1_priceAt hl, g_X1_priceAt.1, g_X1_priceAt.2, in_X1_priceAt, rfl, se_X2_yX1_priceAt_X1_priceAt⟩, ⟨yX1_priceAt, cX1_priceAt, 2, (some .int), 0, 0, c_X1_priceAt hl, g_X1_priceAt.1, g_X1_priceAt.2, in_X1_priceAt, rfl, se_X3_yX1_priceAt_X1_priceAt⟩, ⟨yX6_priceAt, cX6_priceAt, 2, (some .int), 1, 23, c_X6_priceAt hl, g_X6_priceAt.1, g_X6_priceAt.2, in_X6_priceAt, rfl, se_X6_yX1_priceAt_X6_priceAt⟩, trivial⟩, ivD_ok g_X1_lengthBehind.1 ml_X5_95 in_X1_lengthBehind py_X1_lengthBehind sm_yX1_lengthBehind ⟨⟨yX1_lengthBehind, cX1_lengthBehind, 4, (some .int), 0, 0, c_X1_lengthBehind hl, g_X1_lengthBehind.1, g_X1_lengthBehind.2, in_X1_lengthBehind, rfl, se_X0_yX1_lengthBehind_X1_lengthBehind⟩, ⟨yX1_lengthBehind, cX1_lengthBehind, 4, (some .int), 0, 0, c_X1_lengthBehind hl, g_X1_lengthBehind.1, g_X1_lengthBehind.2, in_X1_lengthBehind, rfl, se_X1_yX1_lengthBehind_X1_lengthBehind⟩, ⟨yX2_lengthBehind, cX2_lengthBehind, 4, (some .int), 0, 0, c_X2_lengthBehind hl, g_X2_lengthBehind.1, g_X2_lengthBehind.2, in_X2_lengthBehind, rfl, se_X2_yX1_lengthBehind_X2_lengthBehind⟩, ⟨yX2_lengthBehind, cX2_lengthBehind, 4, (some .int), 0, 0, c_X2_lengthBehind hl, g_X2_lengthBehind.1, g_X2_lengthBehind.2, in_X2_lengthBehind, rfl, se_X3_yX1_lengthBehind_X2_lengthBehind⟩, ⟨yX1_lengthBehind, cX1_lengthBehind, 4, (some .int), 0, 0, c_X1_lengthBehind hl, g_X1_lengthBehind.1, g_X1_lengthBehind.2, in_X1_lengthBehind, rfl, se_X6_yX1_lengthBehind_X1_lengthBehind⟩, trivial⟩, ivV_ok (ci := 7) (c_X7_add hl) g_X7_add.1 g_X7_add.2 ml_X5_99 in_X7_add py_X7_add rfl se_X7_add, ivMin_ok ml_X5_103 rfl, trivial⟩ (gd_use h).1 (gd_use h).2
theorem py_X8_ofSecond : plainY yX8_ofSecond 1 = true := by decide +kernel
theorem in_X8_ofSecond : gw (.instanceMethod yX8_ofSecond) = true := by decide +kernel
theorem se_X8_ofSecond : gw (.selects RX8 yX8_ofSecond yX8_ofSecond) = true := by decide +kernel
theorem ml_X4_74 : gw (.methodLink RX4 74 yX8_ofSecond) = true := by decide +kernel
theorem ml_X4_86 : gw (.methodLink RX4 86 Lib.Math.max.name) = true := by decide +kernel
theorem py_X5_tick : plainY yX5_tick 1 = true := by decide +kernel
theorem in_X5_tick : gw (.instanceMethod yX5_tick) = true := by decide +kernel
theorem se_X5_tick : gw (.selects RX5 yX5_tick yX5_tick) = true := by decide +kernel
theorem ml_X4_92 : gw (.methodLink RX4 92 yX5_tick) = true := by decide +kernel
def B_X4_pass : List (Nat × List (Nat × Instr × Nat)) := [(0, [(0, .aload_n 1, 1), (1, .aload_n 0, 1), (2, .getfield 12, 3), (5, .getfield 71, 3), (8, .invokevirtual 74, 3), (11, .istore_n 3, 1), (12, .iload_n 3, 1), (13, .iconst (-1), 1), (14, .if_icmp .ne 36, 3), (17, .aload_n 0, 1), (18, .getfield 18, 3), (21, .aload_n 0, 1), (22, .getfield 12, 3), (25, .getfield 80, 3), (28, .aload_n 0, 1), (29, .getfield 12, 3), (32, .getfield 71, 3), (35, .i2s, 1), (36, .sastore, 1), (37, .aload_n 0, 1), (38, .getfield 12, 3), (41, .dup, 1), (42, .getfield 80, 3), (45, .iconst 1, 1), (46, .iadd, 1), (47, .putfield 80, 3)]),
  (50, [(50, .aload_n 0, 1), (51, .getfield 12, 3), (54, .iload_n 3, 1), (55, .ifCond .ne 7, 3), (58, .iconst 1, 1), (59, .goto 4, 3)]),
  (62, [(62, .iconst 0, 1)]),
  (63, [(63, .putfield 83, 3), (66, .aload_n 0, 1), (67, .getfield 12, 3), (70, .iload_n 3, 1), (71, .iconst 0, 1), (72, .invokestatic 86, 3), (75, .iload_n 2, 1), (76, .imul, 1), (77, .invokevirtual 92, 3), (80, .ireturn, 1)])]
def T_X4_pass (tb : Nat → Option (Nat × Nat)) : List (Nat × IV) := [(296, ivV tb 8 0 0 1 0 0 1 (w_X8_ofSecond tb)), (346, ivM2 (fun x y => if x < y then y else x)), (368, ivV tb 5 0 0 1 0 0 1 (w_X5_tick tb))]
def M_X4_pass (tb : Nat → Option (Nat × Nat)) : MT := (tb, FX4, StX4, CX4, NwX4, ivOf (T_X4_pass tb), 0, 0, 1)
def r_X4_pass (tb : Nat → Option (Nat × Nat)) (K : Option AV → AX → Prop) (KX : String → AX → Prop) : PT := lfp (wpm (M_X4_pass tb) B_X4_pass K (fun _ _ _ E X _ _ => KX E X))
def w_X4_pass (tb : Nat → Option (Nat × Nat)) : WP := fun as X K KX => gd ((ini0 as).length ≤ 4) (r_X4_pass tb K KX 0 (iniL as 4) [] X 0 0)
theorem k_X4_pass : B_X4_pass.all (blkB FX4 CX4 NwX4 RX4 false cX4_pass) = true := by decide +kernel
theorem g_X4_pass : gw (.code yX4_pass cX4_pass 4 (some .int)) = true ∧ gw (.initialized yX4_pass.cls) = true := by decide +kernel
theorem c_X4_pass {l : Launch} {G : GX} (hl : l.stackTraces = false) : ∀ as X K KX, w_X4_pass (gT G) as X K KX → CT l G yX4_pass (.code yX4_pass cX4_pass 4 (some .int)) 5 120 0 0 as X K KX := fun as X K KX h => CT_of (M := M_X4_pass (gT G)) (own := RX4) (ini := false) (T := T_X4_pass (gT G)) (B := B_X4_pass) (by decide +kernel) hl rfl (fun h => absurd h (by decide)) rfl tab_X4 k_X4_pass rfl (Or.inr (Or.inl nw_X4)) rfl
  ⟨ivV_ok (ci := 8) (c_X8_ofSecond hl) g_X8_ofSecond.1 g_X8_ofSecond.2 ml_X4_74 in_X8_ofSecond py_X8_ofSecond rfl se_X8_ofSecond, ivMax_ok ml_X4_86 rfl, ivV_ok (ci := 5) (c_X5_tick hl) g_X5_tick.1 g_X5_tick.2 ml_X4_92 in_X5_tick py_X5_tick rfl se_X5_tick, trivial⟩ (gd_use h).1 (gd_use h).2
theorem py_X11_demandHired : plainY yX11_demandHired 0 = true := by decide +kernel
theorem in_X11_demandHired : gw (.instanceMethod yX11_demandHired) = true := by decide +kernel
theorem se_X11_demandHired : gw (.selects RX11 yX11_demandHired yX11_demandHired) = true := by decide +kernel
theorem ml_X11_187 : gw (.methodLink RX11 187 yX11_demandHired) = true := by decide +kernel
theorem py_X4_pass : plainY yX4_pass 2 = true := by decide +kernel
theorem in_X4_pass : gw (.instanceMethod yX4_pass) = true := by decide +kernel
theorem se_X4_pass : gw (.selects RX4 yX4_pass yX4_pass) = true := by decide +kernel
theorem ml_X11_196 : gw (.methodLink RX11 196 yX4_pass) = true := by decide +kernel
def B_X11_second : List (Nat × List (Nat × Instr × Nat)) := [(0, [(0, .aload_n 0, 1), (1, .invokevirtual 187, 3), (4, .aload_n 0, 1), (5, .getfield 46, 3), (8, .getfield 177, 3), (11, .getfield 190, 3), (14, .sipush 3840, 3), (17, .if_icmp .ge 7, 3), (20, .iconst 1, 1), (21, .goto 4, 3)]),
  (24, [(24, .iconst 0, 1)]),
  (25, [(25, .invokestatic 193, 3), (28, .aload_n 0, 1), (29, .getfield 46, 3), (32, .aload_n 0, 1), (33, .getfield 19, 3), (36, .aload_n 0, 1), (37, .getfield 7, 3), (40, .invokevirtual 196, 3), (43, .ireturn, 1)])]
def T_X11_second (tb : Nat → Option (Nat × Nat)) : List (Nat × IV) := [(748, ivV tb 11 2 12 0 1 6 0 (w_X11_demandHired tb)), (774, ivS 2 12 1 1 6 0 (w_X11_demandState tb)), (784, ivV tb 4 2 12 2 0 0 1 (w_X4_pass tb))]
def M_X11_second (tb : Nat → Option (Nat × Nat)) : MT := (tb, FX11, StX11, CX11, NwX11, ivOf (T_X11_second tb), 2, 12, 1)
def r_X11_second (tb : Nat → Option (Nat × Nat)) (K : Option AV → AX → Prop) (KX : String → AX → Prop) : PT := lfp (wpm (M_X11_second tb) B_X11_second K (fun _ _ _ E X _ _ => KX E X))
def w_X11_second (tb : Nat → Option (Nat × Nat)) : WP := fun as X K KX => gd ((ini0 as).length ≤ 1) (r_X11_second tb K KX 0 (iniL as 1) [] X 0 0)
theorem k_X11_second : B_X11_second.all (blkB FX11 CX11 NwX11 RX11 false cX11_second) = true := by decide +kernel
theorem g_X11_second : gw (.code yX11_second cX11_second 1 (some .int)) = true ∧ gw (.initialized yX11_second.cls) = true := by decide +kernel
theorem c_X11_second {l : Launch} {G : GX} (hl : l.stackTraces = false) : ∀ as X K KX, w_X11_second (gT G) as X K KX → CT l G yX11_second (.code yX11_second cX11_second 1 (some .int)) 8 143 2 12 as X K KX := fun as X K KX h => CT_of (M := M_X11_second (gT G)) (own := RX11) (ini := false) (T := T_X11_second (gT G)) (B := B_X11_second) (by decide +kernel) hl rfl (fun h => absurd h (by decide)) rfl tab_X11 k_X11_second rfl (Or.inr (Or.inr ⟨by decide, by decide⟩)) rfl
  ⟨ivV_ok (ci := 11) (c_X11_demandHired hl) g_X11_demandHired.1 g_X11_demandHired.2 ml_X11_187 in_X11_demandHired py_X11_demandHired rfl se_X11_demandHired, ivS_ok (c_X11_demandState hl) g_X11_demandState.1 g_X11_demandState.2 ml_X11_193 st_X11_demandState py_X11_demandState rfl, ivV_ok (ci := 4) (c_X4_pass hl) g_X4_pass.1 g_X4_pass.2 ml_X11_196 in_X4_pass py_X4_pass rfl se_X4_pass, trivial⟩ (gd_use h).1 (gd_use h).2
def B_X11_run : List (Nat × List (Nat × Instr × Nat)) := [(0, [(0, .aload_n 0, 1), (1, .invokevirtual 187, 3), (4, .iload_n 1, 1), (5, .iconst 0, 1), (6, .sipush 3840, 3), (9, .invokestatic 82, 3), (12, .invokestatic 86, 3), (15, .iload_n 1, 1), (16, .sipush 3840, 3), (19, .aload_n 0, 1), (20, .getfield 46, 3), (23, .getfield 177, 3), (26, .getfield 190, 3), (29, .isub, 1), (30, .invokestatic 116, 3), (33, .istore_n 2, 1), (34, .iconst 0, 1), (35, .istore_n 3, 1)]),
  (36, [(36, .iload_n 3, 1), (37, .iload_n 2, 1), (38, .if_icmp .ge 25, 3), (41, .aload_n 0, 1), (42, .getfield 46, 3), (45, .aload_n 0, 1), (46, .getfield 19, 3), (49, .aload_n 0, 1), (50, .getfield 7, 3), (53, .invokevirtual 196, 3), (56, .pop, 1), (57, .iinc 3 1, 3), (60, .goto (-24), 3)]),
  (63, [(63, .iload_n 2, 1), (64, .ireturn, 1)])]
def T_X11_run (tb : Nat → Option (Nat × Nat)) : List (Nat × IV) := [(748, ivV tb 11 2 12 0 1 6 0 (w_X11_demandHired tb)), (330, ivS 2 12 3 0 0 1 (w_X11_isFrom tb)), (346, ivS 2 12 1 1 6 0 (w_X11_demand tb)), (466, ivM2 (fun x y => if y < x then y else x)), (784, ivV tb 4 2 12 2 0 0 1 (w_X4_pass tb))]
def M_X11_run (tb : Nat → Option (Nat × Nat)) : MT := (tb, FX11, StX11, CX11, NwX11, ivOf (T_X11_run tb), 2, 12, 1)
def r_X11_run (tb : Nat → Option (Nat × Nat)) (K : Option AV → AX → Prop) (KX : String → AX → Prop) : PT := lfp (wpm (M_X11_run tb) B_X11_run K (fun _ _ _ E X _ _ => KX E X))
def w_X11_run (tb : Nat → Option (Nat × Nat)) : WP := fun as X K KX => gd ((ini0 as).length ≤ 4) (r_X11_run tb K KX 0 (iniL as 4) [] X 0 0)
theorem k_X11_run : B_X11_run.all (blkB FX11 CX11 NwX11 RX11 false cX11_run) = true := by decide +kernel
theorem g_X11_run : gw (.code yX11_run cX11_run 4 (some .int)) = true ∧ gw (.initialized yX11_run.cls) = true := by decide +kernel
theorem c_X11_run {l : Launch} {G : GX} (hl : l.stackTraces = false) : ∀ as X K KX, w_X11_run (gT G) as X K KX → CT l G yX11_run (.code yX11_run cX11_run 4 (some .int)) 8 143 2 12 as X K KX := fun as X K KX h => CT_of (M := M_X11_run (gT G)) (own := RX11) (ini := false) (T := T_X11_run (gT G)) (B := B_X11_run) (by decide +kernel) hl rfl (fun h => absurd h (by decide)) rfl tab_X11 k_X11_run rfl (Or.inr (Or.inr ⟨by decide, by decide⟩)) rfl
  ⟨ivV_ok (ci := 11) (c_X11_demandHired hl) g_X11_demandHired.1 g_X11_demandHired.2 ml_X11_187 in_X11_demandHired py_X11_demandHired rfl se_X11_demandHired, ivS_ok (c_X11_isFrom hl) g_X11_isFrom.1 g_X11_isFrom.2 ml_X11_82 st_X11_isFrom py_X11_isFrom rfl, ivS_ok (c_X11_demand hl) g_X11_demand.1 g_X11_demand.2 ml_X11_86 st_X11_demand py_X11_demand rfl, ivMin_ok ml_X11_116 rfl, ivV_ok (ci := 4) (c_X4_pass hl) g_X4_pass.1 g_X4_pass.2 ml_X11_196 in_X4_pass py_X4_pass rfl se_X4_pass, trivial⟩ (gd_use h).1 (gd_use h).2
def B_X5_takeByHand : List (Nat × List (Nat × Instr × Nat)) := [(0, [(0, .aload_n 0, 1), (1, .dup, 1), (2, .getfield 59, 3), (5, .iconst 1, 1), (6, .iadd, 1), (7, .putfield 59, 3), (10, .aload_n 0, 1), (11, .aload_n 1, 1), (12, .invokevirtual 69, 3), (15, .return_, 1)])]
def T_X5_takeByHand (tb : Nat → Option (Nat × Nat)) : List (Nat × IV) := [(276, ivV tb 5 0 0 1 0 0 0 (w_X5_take tb))]
def M_X5_takeByHand (tb : Nat → Option (Nat × Nat)) : MT := (tb, FX5, StX5, CX5, NwX5, ivOf (T_X5_takeByHand tb), 0, 0, 0)
def r_X5_takeByHand (tb : Nat → Option (Nat × Nat)) (K : Option AV → AX → Prop) (KX : String → AX → Prop) : PT := lfp (wpm (M_X5_takeByHand tb) B_X5_takeByHand K (fun _ _ _ E X _ _ => KX E X))
def w_X5_takeByHand (tb : Nat → Option (Nat × Nat)) : WP := fun as X K KX => gd ((ini0 as).length ≤ 2) (r_X5_takeByHand tb K KX 0 (iniL as 2) [] X 0 0)
theorem k_X5_takeByHand : B_X5_takeByHand.all (blkB FX5 CX5 NwX5 RX5 false cX5_takeByHand) = true := by decide +kernel
theorem g_X5_takeByHand : gw (.code yX5_takeByHand cX5_takeByHand 2 none) = true ∧ gw (.initialized yX5_takeByHand.cls) = true := by decide +kernel
theorem c_X5_takeByHand {l : Launch} {G : GX} (hl : l.stackTraces = false) : ∀ as X K KX, w_X5_takeByHand (gT G) as X K KX → CT l G yX5_takeByHand (.code yX5_takeByHand cX5_takeByHand 2 none) 2 43 0 0 as X K KX := fun as X K KX h => CT_of (M := M_X5_takeByHand (gT G)) (own := RX5) (ini := false) (T := T_X5_takeByHand (gT G)) (B := B_X5_takeByHand) (by decide +kernel) hl rfl (fun h => absurd h (by decide)) rfl tab_X5 k_X5_takeByHand rfl (Or.inr (Or.inl nw_X5)) rfl
  ⟨ivV_ok (ci := 5) (c_X5_take hl) g_X5_take.1 g_X5_take.2 ml_X5_69 in_X5_take py_X5_take rfl se_X5_take, trivial⟩ (gd_use h).1 (gd_use h).2
