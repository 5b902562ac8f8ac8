theorem py_X10_add : plainY yX10_add 2 = true := by decide +kernel
theorem in_X10_add : gw (.instanceMethod yX10_add) = true := by decide +kernel
theorem se_X10_add : gw (.selects RX10 yX10_add yX10_add) = true := by decide +kernel
theorem ml_X11_270 : gw (.methodLink RX11 270 yX10_add) = true := by decide +kernel
def B_X11_leg : List (Nat × List (Nat × Instr × Nat)) := [(0, [(0, .iload_n 1, 1), (1, .iconst 0, 1), (2, .ldc_w 265, 3), (5, .invokestatic 82, 3), (8, .ifCond .eq 18, 3), (11, .iload_n 2, 1), (12, .iconst 1, 1), (13, .sipush 3840, 3), (16, .invokestatic 82, 3), (19, .ifCond .eq 7, 3), (22, .iconst 1, 1), (23, .goto 4, 3)]),
  (26, [(26, .iconst 0, 1)]),
  (27, [(27, .invokestatic 86, 3), (30, .aload_n 0, 1), (31, .getfield 69, 3), (34, .getfield 266, 3), (37, .bipush 20, 2), (39, .if_icmp .ge 18, 3), (42, .aload_n 0, 1), (43, .getfield 69, 3), (46, .getfield 267, 3), (49, .iload_n 2, 1), (50, .iadd, 1), (51, .sipush 3840, 3), (54, .if_icmp .le 5, 3)]),
  (57, [(57, .iconst (-1), 1), (58, .ireturn, 1)]),
  (59, [(59, .aload_n 0, 1), (60, .getfield 69, 3), (63, .iload_n 1, 1), (64, .iload_n 2, 1), (65, .invokevirtual 270, 3), (68, .aload_n 0, 1), (69, .getfield 69, 3), (72, .getfield 267, 3), (75, .ireturn, 1)])]
def T_X11_leg (tb : Nat → Option (Nat × Nat)) : List (Nat × IV) := [(330, ivS 1 6 3 0 0 1 (w_X11_isFrom tb)), (346, ivS 1 6 1 1 6 0 (w_X11_demand tb)), (1080, ivV tb 10 1 6 2 0 0 0 (w_X10_add tb))]
def M_X11_leg (tb : Nat → Option (Nat × Nat)) : MT := (tb, FX11, StX11, CX11, NwX11, ivOf (T_X11_leg tb), 1, 6, 1)
def r_X11_leg (tb : Nat → Option (Nat × Nat)) (K : Option AV → AX → Prop) (KX : String → AX → Prop) : PT := lfp (wpm (M_X11_leg tb) B_X11_leg K (fun _ _ _ E X _ _ => KX E X))
def w_X11_leg (tb : Nat → Option (Nat × Nat)) : WP := fun as X K KX => gd ((ini0 as).length ≤ 3) (r_X11_leg tb K KX 0 (iniL as 3) [] X 0 0)
theorem k_X11_leg : B_X11_leg.all (blkB FX11 CX11 NwX11 RX11 false cX11_leg) = true := by decide +kernel
theorem g_X11_leg : gw (.code yX11_leg cX11_leg 3 (some .int)) = true ∧ gw (.initialized yX11_leg.cls) = true := by decide +kernel
theorem c_X11_leg {l : Launch} {G : GX} (hl : l.stackTraces = false) : ∀ as X K KX, w_X11_leg (gT G) as X K KX → CT l G yX11_leg (.code yX11_leg cX11_leg 3 (some .int)) 7 101 1 6 as X K KX := fun as X K KX h => CT_of (M := M_X11_leg (gT G)) (own := RX11) (ini := false) (T := T_X11_leg (gT G)) (B := B_X11_leg) (by decide +kernel) hl rfl (fun h => absurd h (by decide)) rfl tab_X11 k_X11_leg rfl (Or.inr (Or.inr ⟨by decide, by decide⟩)) rfl
  ⟨ivS_ok (c_X11_isFrom hl) g_X11_isFrom.1 g_X11_isFrom.2 ml_X11_82 st_X11_isFrom py_X11_isFrom rfl, ivS_ok (c_X11_demand hl) g_X11_demand.1 g_X11_demand.2 ml_X11_86 st_X11_demand py_X11_demand rfl, ivV_ok (ci := 10) (c_X10_add hl) g_X10_add.1 g_X10_add.2 ml_X11_270 in_X10_add py_X10_add rfl se_X10_add, trivial⟩ (gd_use h).1 (gd_use h).2
theorem tab_X11_X11_clear : tabB FX11 CX11 StX11 [] RX11 = true := tab_sub tab_X11 (fun _ h => by cases h)
def B_X11_clear : List (Nat × List (Nat × Instr × Nat)) := [(0, [(0, .aload_n 0, 1), (1, .getfield 69, 3), (4, .getfield 266, 3), (7, .istore_n 1, 1), (8, .aload_n 0, 1), (9, .getfield 69, 3), (12, .iconst 0, 1), (13, .putfield 266, 3), (16, .aload_n 0, 1), (17, .getfield 69, 3), (20, .iconst 0, 1), (21, .putfield 267, 3), (24, .iload_n 1, 1), (25, .ireturn, 1)])]
def T_X11_clear (tb : Nat → Option (Nat × Nat)) : List (Nat × IV) := []
def M_X11_clear (tb : Nat → Option (Nat × Nat)) : MT := (tb, FX11, StX11, CX11, [], ivOf (T_X11_clear tb), 0, 0, 1)
def r_X11_clear (tb : Nat → Option (Nat × Nat)) (K : Option AV → AX → Prop) (KX : String → AX → Prop) : PT := lfp (wpm (M_X11_clear tb) B_X11_clear K (fun _ _ _ E X _ _ => KX E X))
def w_X11_clear (tb : Nat → Option (Nat × Nat)) : WP := fun as X K KX => gd ((ini0 as).length ≤ 2) (r_X11_clear tb K KX 0 (iniL as 2) [] X 0 0)
theorem k_X11_clear : B_X11_clear.all (blkB FX11 CX11 [] RX11 false cX11_clear) = true := by decide +kernel
theorem g_X11_clear : gw (.code yX11_clear cX11_clear 2 (some .int)) = true ∧ gw (.initialized yX11_clear.cls) = true := by decide +kernel
theorem c_X11_clear {l : Launch} {G : GX} (hl : l.stackTraces = false) : ∀ as X K KX, w_X11_clear (gT G) as X K KX → CT l G yX11_clear (.code yX11_clear cX11_clear 2 (some .int)) 0 0 0 0 as X K KX := fun as X K KX h => CT_of (M := M_X11_clear (gT G)) (own := RX11) (ini := false) (T := T_X11_clear (gT G)) (B := B_X11_clear) (by decide +kernel) hl rfl (fun h => absurd h (by decide)) rfl tab_X11_X11_clear k_X11_clear rfl (Or.inl rfl) rfl
  trivial (gd_use h).1 (gd_use h).2
theorem ml_X10_25 : gw (.methodLink RX10 25 yX5_tick) = true := by decide +kernel
def B_X10_drive : List (Nat × List (Nat × Instr × Nat)) := [(0, [(0, .iconst 0, 1), (1, .istore_n 2, 1)]),
  (2, [(2, .iload_n 2, 1), (3, .aload_n 0, 1), (4, .getfield 18, 3), (7, .if_icmp .ge 38, 3), (10, .iconst 0, 1), (11, .istore_n 3, 1)]),
  (12, [(12, .iload_n 3, 1), (13, .aload_n 0, 1), (14, .getfield 15, 3), (17, .iload_n 2, 1), (18, .iaload, 1), (19, .if_icmp .ge 20, 3), (22, .aload_n 1, 1), (23, .aload_n 0, 1), (24, .getfield 9, 3), (27, .iload_n 2, 1), (28, .iaload, 1), (29, .invokevirtual 25, 3), (32, .pop, 1), (33, .iinc 3 1, 3), (36, .goto (-24), 3)]),
  (39, [(39, .iinc 2 1, 3), (42, .goto (-40), 3)]),
  (45, [(45, .return_, 1)])]
def T_X10_drive (tb : Nat → Option (Nat × Nat)) : List (Nat × IV) := [(100, ivV tb 5 0 0 1 0 0 1 (w_X5_tick tb))]
def M_X10_drive (tb : Nat → Option (Nat × Nat)) : MT := (tb, FX10, StX10, CX10, NwX10, ivOf (T_X10_drive tb), 0, 0, 0)
def r_X10_drive (tb : Nat → Option (Nat × Nat)) (K : Option AV → AX → Prop) (KX : String → AX → Prop) : PT := lfp (wpm (M_X10_drive tb) B_X10_drive K (fun _ _ _ E X _ _ => KX E X))
def w_X10_drive (tb : Nat → Option (Nat × Nat)) : WP := fun as X K KX => gd ((ini0 as).length ≤ 4) (r_X10_drive tb K KX 0 (iniL as 4) [] X 0 0)
theorem k_X10_drive : B_X10_drive.all (blkB FX10 CX10 NwX10 RX10 false cX10_drive) = true := by decide +kernel
theorem g_X10_drive : gw (.code yX10_drive cX10_drive 4 none) = true ∧ gw (.initialized yX10_drive.cls) = true := by decide +kernel
theorem c_X10_drive {l : Launch} {G : GX} (hl : l.stackTraces = false) : ∀ as X K KX, w_X10_drive (gT G) as X K KX → CT l G yX10_drive (.code yX10_drive cX10_drive 4 none) 5 120 0 0 as X K KX := fun as X K KX h => CT_of (M := M_X10_drive (gT G)) (own := RX10) (ini := false) (T := T_X10_drive (gT G)) (B := B_X10_drive) (by decide +kernel) hl rfl (fun h => absurd h (by decide)) rfl tab_X10 k_X10_drive rfl (Or.inl rfl) rfl
  ⟨ivV_ok (ci := 5) (c_X5_tick hl) g_X5_tick.1 g_X5_tick.2 ml_X10_25 in_X5_tick py_X5_tick rfl se_X5_tick, trivial⟩ (gd_use h).1 (gd_use h).2
theorem py_X10_drive : plainY yX10_drive 1 = true := by decide +kernel
theorem in_X10_drive : gw (.instanceMethod yX10_drive) = true := by decide +kernel
theorem se_X10_drive : gw (.selects RX10 yX10_drive yX10_drive) = true := by decide +kernel
theorem ml_X11_272 : gw (.methodLink RX11 272 yX10_drive) = true := by decide +kernel
theorem ml_X11_276 : gw (.methodLink RX11 276 yX5_finish) = true := by decide +kernel
def B_X11_should : List (Nat × List (Nat × Instr × Nat)) := [(0, [(0, .iload_n 1, 1), (1, .bipush 12, 2), (3, .invokestatic 91, 3), (6, .iload_n 2, 1), (7, .iload 4, 2), (9, .iload 5, 2), (11, .invokestatic 166, 3), (14, .iload_n 3, 1), (15, .iconst 0, 1), (16, .bipush 99, 2), (18, .invokestatic 82, 3), (21, .invokestatic 86, 3), (24, .aload_n 0, 1), (25, .iload_n 1, 1), (26, .invokevirtual 169, 3), (29, .astore 6, 2), (31, .aload_n 0, 1), (32, .getfield 73, 3), (35, .aload 6, 2), (37, .iload 4, 2), (39, .bipush 60, 2), (41, .imul, 1), (42, .iload 5, 2), (44, .iadd, 1), (45, .iconst 1, 1), (46, .invokevirtual 180, 3), (49, .aload_n 0, 1), (50, .getfield 69, 3), (53, .aload_n 0, 1), (54, .getfield 73, 3), (57, .invokevirtual 272, 3), (60, .aload_n 0, 1), (61, .getfield 73, 3), (64, .iload_n 2, 1), (65, .iload_n 3, 1), (66, .invokevirtual 276, 3), (69, .pop, 1), (70, .aload_n 0, 1), (71, .iconst 1, 1), (72, .putfield 280, 3), (75, .aload_n 0, 1), (76, .getfield 73, 3), (79, .getfield 231, 3), (82, .lreturn, 1)])]
def T_X11_should (tb : Nat → Option (Nat × Nat)) : List (Nat × IV) := [(366, ivS 5 30 2 1 6 0 (w_X11_demandPlace tb)), (666, ivS 5 30 3 1 6 0 (w_X11_demandBeginning tb)), (330, ivS 5 30 3 0 0 1 (w_X11_isFrom tb)), (346, ivS 5 30 1 1 6 0 (w_X11_demand tb)), (676, ivV tb 11 5 30 1 2 12 4 (w_X11_tariffHeld tb)), (720, ivV tb 5 5 30 3 0 0 0 (w_X5_start tb)), (1088, ivV tb 10 5 30 1 0 0 0 (w_X10_drive tb)), (1104, ivV tb 5 5 30 2 0 0 1 (w_X5_finish tb))]
def M_X11_should (tb : Nat → Option (Nat × Nat)) : MT := (tb, FX11, StX11, CX11, NwX11, ivOf (T_X11_should tb), 5, 30, 3)
def r_X11_should (tb : Nat → Option (Nat × Nat)) (K : Option AV → AX → Prop) (KX : String → AX → Prop) : PT := lfp (wpm (M_X11_should tb) B_X11_should K (fun _ _ _ E X _ _ => KX E X))
def w_X11_should (tb : Nat → Option (Nat × Nat)) : WP := fun as X K KX => gd ((ini0 as).length ≤ 7) (r_X11_should tb K KX 0 (iniL as 7) [] X 0 0)
theorem k_X11_should : B_X11_should.all (blkB FX11 CX11 NwX11 RX11 false cX11_should) = true := by decide +kernel
theorem g_X11_should : gw (.code yX11_should cX11_should 7 (some .long)) = true ∧ gw (.initialized yX11_should.cls) = true := by decide +kernel
theorem c_X11_should {l : Launch} {G : GX} (hl : l.stackTraces = false) : ∀ as X K KX, w_X11_should (gT G) as X K KX → CT l G yX11_should (.code yX11_should cX11_should 7 (some .long)) 8 143 5 30 as X K KX := fun as X K KX h => CT_of (M := M_X11_should (gT G)) (own := RX11) (ini := false) (T := T_X11_should (gT G)) (B := B_X11_should) (by decide +kernel) hl rfl (fun h => absurd h (by decide)) rfl tab_X11 k_X11_should rfl (Or.inr (Or.inr ⟨by decide, by decide⟩)) rfl
  ⟨ivS_ok (c_X11_demandPlace hl) g_X11_demandPlace.1 g_X11_demandPlace.2 ml_X11_91 st_X11_demandPlace py_X11_demandPlace rfl, ivS_ok (c_X11_demandBeginning hl) g_X11_demandBeginning.1 g_X11_demandBeginning.2 ml_X11_166 st_X11_demandBeginning py_X11_demandBeginning rfl, ivS_ok (c_X11_isFrom hl) g_X11_isFrom.1 g_X11_isFrom.2 ml_X11_82 st_X11_isFrom py_X11_isFrom rfl, ivS_ok (c_X11_demand hl) g_X11_demand.1 g_X11_demand.2 ml_X11_86 st_X11_demand py_X11_demand rfl, ivV_ok (ci := 11) (c_X11_tariffHeld hl) g_X11_tariffHeld.1 g_X11_tariffHeld.2 ml_X11_169 in_X11_tariffHeld py_X11_tariffHeld rfl se_X11_tariffHeld, ivV_ok (ci := 5) (c_X5_start hl) g_X5_start.1 g_X5_start.2 ml_X11_180 in_X5_start py_X5_start rfl se_X5_start, ivV_ok (ci := 10) (c_X10_drive hl) g_X10_drive.1 g_X10_drive.2 ml_X11_272 in_X10_drive py_X10_drive rfl se_X10_drive, ivV_ok (ci := 5) (c_X5_finish hl) g_X5_finish.1 g_X5_finish.2 ml_X11_276 in_X5_finish py_X5_finish rfl se_X5_finish, trivial⟩ (gd_use h).1 (gd_use h).2
def B_X11_error : List (Nat × List (Nat × Instr × Nat)) := [(0, [(0, .aload_n 0, 1), (1, .getfield 147, 3), (4, .ifCond .le 14, 3), (7, .aload_n 0, 1), (8, .getfield 280, 3), (11, .ifCond .eq 7, 3), (14, .iconst 1, 1), (15, .goto 4, 3)]),
  (18, [(18, .iconst 0, 1)]),
  (19, [(19, .invokestatic 193, 3), (22, .aload_n 0, 1), (23, .getfield 46, 3), (26, .getfield 177, 3), (29, .getfield 283, 3), (32, .aload_n 0, 1), (33, .getfield 73, 3), (36, .getfield 283, 3), (39, .isub, 1), (40, .ireturn, 1)])]
def T_X11_error (tb : Nat → Option (Nat × Nat)) : List (Nat × IV) := [(774, ivS 1 6 1 1 6 0 (w_X11_demandState tb))]
def M_X11_error (tb : Nat → Option (Nat × Nat)) : MT := (tb, FX11, StX11, CX11, NwX11, ivOf (T_X11_error tb), 1, 6, 1)
def r_X11_error (tb : Nat → Option (Nat × Nat)) (K : Option AV → AX → Prop) (KX : String → AX → Prop) : PT := lfp (wpm (M_X11_error tb) B_X11_error K (fun _ _ _ E X _ _ => KX E X))
def w_X11_error (tb : Nat → Option (Nat × Nat)) : WP := fun as X K KX => gd ((ini0 as).length ≤ 1) (r_X11_error tb K KX 0 (iniL as 1) [] X 0 0)
theorem k_X11_error : B_X11_error.all (blkB FX11 CX11 NwX11 RX11 false cX11_error) = true := by decide +kernel
theorem g_X11_error : gw (.code yX11_error cX11_error 1 (some .int)) = true ∧ gw (.initialized yX11_error.cls) = true := by decide +kernel
theorem c_X11_error {l : Launch} {G : GX} (hl : l.stackTraces = false) : ∀ as X K KX, w_X11_error (gT G) as X K KX → CT l G yX11_error (.code yX11_error cX11_error 1 (some .int)) 7 101 1 6 as X K KX := fun as X K KX h => CT_of (M := M_X11_error (gT G)) (own := RX11) (ini := false) (T := T_X11_error (gT G)) (B := B_X11_error) (by decide +kernel) hl rfl (fun h => absurd h (by decide)) rfl tab_X11 k_X11_error rfl (Or.inr (Or.inr ⟨by decide, by decide⟩)) rfl
  ⟨ivS_ok (c_X11_demandState hl) g_X11_demandState.1 g_X11_demandState.2 ml_X11_193 st_X11_demandState py_X11_demandState rfl, trivial⟩ (gd_use h).1 (gd_use h).2
theorem ml_X7_63 : gw (.methodLink RX7 63 ⟨"[I", "clone", "()Ljava/lang/Object;"⟩) = true := by decide +kernel
def B_X7_totalTop : List (Nat × List (Nat × Instr × Nat)) := [(0, [(0, .aload_n 0, 1), (1, .getfield 9, 3), (4, .invokevirtual 63, 3), (7, .checkcast 64, 3), (10, .astore_n 2, 1), (11, .aload_n 2, 1), (12, .aload_n 0, 1), (13, .getfield 13, 3), (16, .bipush 24, 2), (18, .iload_n 1, 1), (19, .invokestatic 39, 3), (22, .aload_n 2, 1), (23, .areturn, 1)])]
def T_X7_totalTop (tb : Nat → Option (Nat × Nat)) : List (Nat × IV) := [(252, ivK tb 1 24), (158, ivS 1 24 4 0 0 0 (w_X7_addTimes tb))]
def M_X7_totalTop (tb : Nat → Option (Nat × Nat)) : MT := (tb, FX7, StX7, CX7, NwX7, ivOf (T_X7_totalTop tb), 1, 24, 4)
def r_X7_totalTop (tb : Nat → Option (Nat × Nat)) (K : Option AV → AX → Prop) (KX : String → AX → Prop) : PT := lfp (wpm (M_X7_totalTop tb) B_X7_totalTop K (fun _ _ _ E X _ _ => KX E X))
def w_X7_totalTop (tb : Nat → Option (Nat × Nat)) : WP := fun as X K KX => gd ((ini0 as).length ≤ 3) (r_X7_totalTop tb K KX 0 (iniL as 3) [] X 0 0)
theorem k_X7_totalTop : B_X7_totalTop.all (blkB FX7 CX7 NwX7 RX7 false cX7_totalTop) = true := by decide +kernel
theorem g_X7_totalTop : gw (.code yX7_totalTop cX7_totalTop 3 (some (.array .int))) = true ∧ gw (.initialized yX7_totalTop.cls) = true := by decide +kernel
theorem c_X7_totalTop {l : Launch} {G : GX} (hl : l.stackTraces = false) : ∀ as X K KX, w_X7_totalTop (gT G) as X K KX → CT l G yX7_totalTop (.code yX7_totalTop cX7_totalTop 3 (some (.array .int))) 1 26 1 24 as X K KX := fun as X K KX h => CT_of (M := M_X7_totalTop (gT G)) (own := RX7) (ini := false) (T := T_X7_totalTop (gT G)) (B := B_X7_totalTop) (by decide +kernel) hl rfl (fun h => absurd h (by decide)) rfl tab_X7 k_X7_totalTop rfl (Or.inl rfl) rfl
  ⟨ivK_ok ml_X7_63 rfl, ivS_ok (c_X7_addTimes hl) g_X7_addTimes.1 g_X7_addTimes.2 ml_X7_39 st_X7_addTimes py_X7_addTimes rfl, trivial⟩ (gd_use h).1 (gd_use h).2
def B_X7_product : List (Nat × List (Nat × Instr × Nat)) := [(0, [(0, .bipush 48, 2), (2, .newarray .int, 2), (4, .astore_n 3, 1), (5, .iconst 0, 1), (6, .istore 4, 2)]),
  (8, [(8, .iload 4, 2), (10, .bipush 24, 2), (12, .if_icmp .ge 98, 3), (15, .iload 4, 2), (17, .aload_n 0, 1), (18, .arraylength, 1), (19, .if_icmp .ge 91, 3), (22, .lconst 0, 1), (23, .lstore 5, 2), (25, .iconst 0, 1), (26, .istore 7, 2)]),
  (28, [(28, .iload 7, 2), (30, .bipush 24, 2), (32, .if_icmp .ge 62, 3), (35, .iload 7, 2), (37, .aload_n 1, 1), (38, .arraylength, 1), (39, .if_icmp .ge 55, 3), (42, .lload 5, 2), (44, .aload_n 3, 1), (45, .iload 4, 2), (47, .iload 7, 2), (49, .iadd, 1), (50, .iaload, 1), (51, .i2l, 1), (52, .aload_n 0, 1), (53, .iload 4, 2), (55, .iaload, 1), (56, .i2l, 1), (57, .aload_n 1, 1), (58, .iload 7, 2), (60, .iaload, 1), (61, .i2l, 1), (62, .lmul, 1), (63, .ladd, 1), (64, .ladd, 1), (65, .lstore 5, 2), (67, .aload_n 3, 1), (68, .iload 4, 2), (70, .iload 7, 2), (72, .iadd, 1), (73, .lload 5, 2), (75, .ldc2_w 79, 3), (78, .land, 1), (79, .l2i, 1), (80, .iastore, 1), (81, .lload 5, 2), (83, .bipush 30, 2), (85, .lshr, 1), (86, .lstore 5, 2), (88, .iinc 7 1, 3), (91, .goto (-63), 3)]),
  (94, [(94, .aload_n 3, 1), (95, .iload 4, 2), (97, .bipush 24, 2), (99, .iadd, 1), (100, .lload 5, 2), (102, .l2i, 1), (103, .iastore, 1), (104, .iinc 4 1, 3), (107, .goto (-99), 3)]),
  (110, [(110, .aload_n 3, 1), (111, .bipush 48, 2), (113, .iload_n 2, 1), (114, .invokestatic 51, 3), (117, .aload_n 3, 1), (118, .areturn, 1)])]
def T_X7_product (tb : Nat → Option (Nat × Nat)) : List (Nat × IV) := [(206, ivS 1 48 3 0 0 0 (w_X7_multiply tb))]
def M_X7_product (tb : Nat → Option (Nat × Nat)) : MT := (tb, FX7, StX7, CX7, NwX7, ivOf (T_X7_product tb), 1, 48, 4)
def r_X7_product (tb : Nat → Option (Nat × Nat)) (K : Option AV → AX → Prop) (KX : String → AX → Prop) : PT := lfp (wpm (M_X7_product tb) B_X7_product K (fun _ _ _ E X _ _ => KX E X))
def w_X7_product (tb : Nat → Option (Nat × Nat)) : WP := fun as X K KX => gd ((ini0 as).length ≤ 8) (r_X7_product tb K KX 0 (iniL as 8) [] X 0 0)
theorem k_X7_product : B_X7_product.all (blkB FX7 CX7 NwX7 RX7 false cX7_product) = true := by decide +kernel
theorem g_X7_product : gw (.code yX7_product cX7_product 8 (some (.array .int))) = true ∧ gw (.initialized yX7_product.cls) = true := by decide +kernel
theorem c_X7_product {l : Launch} {G : GX} (hl : l.stackTraces = false) : ∀ as X K KX, w_X7_product (gT G) as X K KX → CT l G yX7_product (.code yX7_product cX7_product 8 (some (.array .int))) 1 25 1 48 as X K KX := fun as X K KX h => CT_of (M := M_X7_product (gT G)) (own := RX7) (ini := false) (T := T_X7_product (gT G)) (B := B_X7_product) (by decide +kernel) hl rfl (fun h => absurd h (by decide)) rfl tab_X7 k_X7_product rfl (Or.inl rfl) rfl
  ⟨ivS_ok (c_X7_multiply hl) g_X7_multiply.1 g_X7_multiply.2 ml_X7_51 st_X7_multiply py_X7_multiply rfl, trivial⟩ (gd_use h).1 (gd_use h).2
theorem py_X7_totalTop : plainY yX7_totalTop 1 = true := by decide +kernel
theorem in_X7_totalTop : gw (.instanceMethod yX7_totalTop) = true := by decide +kernel
theorem se_X7_totalTop : gw (.selects RX7 yX7_totalTop yX7_totalTop) = true := by decide +kernel
theorem ml_X7_55 : gw (.methodLink RX7 55 yX7_totalTop) = true := by decide +kernel
theorem st_X7_product : gw (.static yX7_product) = true := by decide +kernel
theorem py_X7_product : plainY yX7_product 3 = true := by decide +kernel
theorem ml_X7_59 : gw (.methodLink RX7 59 yX7_product) = true := by decide +kernel
def B_X7_isNear : List (Nat × List (Nat × Instr × Nat)) := [(0, [(0, .aload_n 0, 1), (1, .iload_n 1, 1), (2, .invokevirtual 55, 3), (5, .aload_n 2, 1), (6, .getfield 13, 3), (9, .iload 5, 2), (11, .invokestatic 59, 3), (14, .astore 6, 2), (16, .aload_n 2, 1), (17, .iload_n 3, 1), (18, .invokevirtual 55, 3), (21, .aload_n 0, 1), (22, .getfield 13, 3), (25, .iload 5, 2), (27, .invokestatic 59, 3), (30, .astore 7, 2), (32, .aload_n 0, 1), (33, .getfield 13, 3), (36, .aload_n 2, 1), (37, .getfield 13, 3), (40, .iload 4, 2), (42, .iload 5, 2), (44, .iadd, 1), (45, .invokestatic 59, 3), (48, .astore 8, 2), (50, .aload 6, 2), (52, .aload 7, 2), (54, .bipush 48, 2), (56, .invokestatic 43, 3), (59, .ifCond .lt 7, 3), (62, .iconst 1, 1), (63, .goto 4, 3)]),
  (66, [(66, .iconst 0, 1)]),
  (67, [(67, .istore 9, 2), (69, .iload 9, 2), (71, .ifCond .eq 8, 3), (74, .aload 6, 2), (76, .goto 5, 3)]),
  (79, [(79, .aload 7, 2)]),
  (81, [(81, .astore 10, 2), (83, .aload 10, 2), (85, .iload 9, 2), (87, .ifCond .eq 8, 3), (90, .aload 7, 2), (92, .goto 5, 3)]),
  (95, [(95, .aload 6, 2)]),
  (97, [(97, .bipush 48, 2), (99, .invokestatic 47, 3), (102, .aload 10, 2), (104, .aload 8, 2), (106, .bipush 48, 2), (108, .invokestatic 43, 3), (111, .ifCond .gt 7, 3), (114, .iconst 1, 1), (115, .goto 4, 3)]),
  (118, [(118, .iconst 0, 1)]),
  (119, [(119, .ireturn, 1)])]
def T_X7_isNear (tb : Nat → Option (Nat × Nat)) : List (Nat × IV) := [(220, ivV tb 7 5 192 1 1 24 4 (w_X7_totalTop tb)), (238, ivS 5 192 3 1 48 4 (w_X7_product tb)), (174, ivS 5 192 3 0 0 1 (w_X7_compare tb)), (190, ivS 5 192 3 0 0 0 (w_X7_subtract tb))]
def M_X7_isNear (tb : Nat → Option (Nat × Nat)) : MT := (tb, FX7, StX7, CX7, NwX7, ivOf (T_X7_isNear tb), 5, 192, 2)
def r_X7_isNear (tb : Nat → Option (Nat × Nat)) (K : Option AV → AX → Prop) (KX : String → AX → Prop) : PT := lfp (wpm (M_X7_isNear tb) B_X7_isNear K (fun _ _ _ E X _ _ => KX E X))
def w_X7_isNear (tb : Nat → Option (Nat × Nat)) : WP := fun as X K KX => gd ((ini0 as).length ≤ 11) (r_X7_isNear tb K KX 0 (iniL as 11) [] X 0 0)
theorem k_X7_isNear : B_X7_isNear.all (blkB FX7 CX7 NwX7 RX7 false cX7_isNear) = true := by decide +kernel
theorem g_X7_isNear : gw (.code yX7_isNear cX7_isNear 11 (some .boolean)) = true ∧ gw (.initialized yX7_isNear.cls) = true := by decide +kernel
theorem c_X7_isNear {l : Launch} {G : GX} (hl : l.stackTraces = false) : ∀ as X K KX, w_X7_isNear (gT G) as X K KX → CT l G yX7_isNear (.code yX7_isNear cX7_isNear 11 (some .boolean)) 2 52 5 192 as X K KX := fun as X K KX h => CT_of (M := M_X7_isNear (gT G)) (own := RX7) (ini := false) (T := T_X7_isNear (gT G)) (B := B_X7_isNear) (by decide +kernel) hl rfl (fun h => absurd h (by decide)) rfl tab_X7 k_X7_isNear rfl (Or.inl rfl) rfl
  ⟨ivV_ok (ci := 7) (c_X7_totalTop hl) g_X7_totalTop.1 g_X7_totalTop.2 ml_X7_55 in_X7_totalTop py_X7_totalTop rfl se_X7_totalTop, ivS_ok (c_X7_product hl) g_X7_product.1 g_X7_product.2 ml_X7_59 st_X7_product py_X7_product rfl, ivS_ok (c_X7_compare hl) g_X7_compare.1 g_X7_compare.2 ml_X7_43 st_X7_compare py_X7_compare rfl, ivS_ok (c_X7_subtract hl) g_X7_subtract.1 g_X7_subtract.2 ml_X7_47 st_X7_subtract py_X7_subtract rfl, trivial⟩ (gd_use h).1 (gd_use h).2
theorem py_X7_isNear : plainY yX7_isNear 5 = true := by decide +kernel
theorem in_X7_isNear : gw (.instanceMethod yX7_isNear) = true := by decide +kernel
theorem se_X7_isNear : gw (.selects RX7 yX7_isNear yX7_isNear) = true := by decide +kernel
theorem ml_X11_286 : gw (.methodLink RX11 286 yX7_isNear) = true := by decide +kernel
def B_X11_within : List (Nat × List (Nat × Instr × Nat)) := [(0, [(0, .aload_n 0, 1), (1, .getfield 147, 3), (4, .ifCond .le 14, 3), (7, .aload_n 0, 1), (8, .getfield 280, 3), (11, .ifCond .eq 7, 3), (14, .iconst 1, 1), (15, .goto 4, 3)]),
  (18, [(18, .iconst 0, 1)]),
  (19, [(19, .invokestatic 193, 3), (22, .iload_n 1, 1), (23, .iconst 0, 1), (24, .ldc 238, 2), (26, .invokestatic 82, 3), (29, .ifCond .eq 17, 3), (32, .iload_n 2, 1), (33, .iconst 1, 1), (34, .ldc 238, 2), (36, .invokestatic 82, 3), (39, .ifCond .eq 7, 3), (42, .iconst 1, 1), (43, .goto 4, 3)]),
  (46, [(46, .iconst 0, 1)]),
  (47, [(47, .invokestatic 86, 3), (50, .aload_n 0, 1), (51, .getfield 46, 3), (54, .getfield 177, 3), (57, .getfield 239, 3), (60, .aload_n 0, 1), (61, .getfield 46, 3), (64, .getfield 177, 3), (67, .getfield 283, 3), (70, .aload_n 0, 1), (71, .getfield 73, 3), (74, .getfield 239, 3), (77, .aload_n 0, 1), (78, .getfield 73, 3), (81, .getfield 283, 3), (84, .iload_n 1, 1), (85, .iload_n 2, 1), (86, .invokevirtual 286, 3), (89, .ireturn, 1)])]
def T_X11_within (tb : Nat → Option (Nat × Nat)) : List (Nat × IV) := [(774, ivS 7 204 1 1 6 0 (w_X11_demandState tb)), (330, ivS 7 204 3 0 0 1 (w_X11_isFrom tb)), (346, ivS 7 204 1 1 6 0 (w_X11_demand tb)), (1144, ivV tb 7 7 204 5 5 192 1 (w_X7_isNear tb))]
def M_X11_within (tb : Nat → Option (Nat × Nat)) : MT := (tb, FX11, StX11, CX11, NwX11, ivOf (T_X11_within tb), 7, 204, 2)
def r_X11_within (tb : Nat → Option (Nat × Nat)) (K : Option AV → AX → Prop) (KX : String → AX → Prop) : PT := lfp (wpm (M_X11_within tb) B_X11_within K (fun _ _ _ E X _ _ => KX E X))
def w_X11_within (tb : Nat → Option (Nat × Nat)) : WP := fun as X K KX => gd ((ini0 as).length ≤ 3) (r_X11_within tb K KX 0 (iniL as 3) [] X 0 0)
theorem k_X11_within : B_X11_within.all (blkB FX11 CX11 NwX11 RX11 false cX11_within) = true := by decide +kernel
theorem g_X11_within : gw (.code yX11_within cX11_within 3 (some .boolean)) = true ∧ gw (.initialized yX11_within.cls) = true := by decide +kernel
theorem c_X11_within {l : Launch} {G : GX} (hl : l.stackTraces = false) : ∀ as X K KX, w_X11_within (gT G) as X K KX → CT l G yX11_within (.code yX11_within cX11_within 3 (some .boolean)) 7 101 7 204 as X K KX := fun as X K KX h => CT_of (M := M_X11_within (gT G)) (own := RX11) (ini := false) (T := T_X11_within (gT G)) (B := B_X11_within) (by decide +kernel) hl rfl (fun h => absurd h (by decide)) rfl tab_X11 k_X11_within rfl (Or.inr (Or.inr ⟨by decide, by decide⟩)) rfl
  ⟨ivS_ok (c_X11_demandState hl) g_X11_demandState.1 g_X11_demandState.2 ml_X11_193 st_X11_demandState py_X11_demandState rfl, ivS_ok (c_X11_isFrom hl) g_X11_isFrom.1 g_X11_isFrom.2 ml_X11_82 st_X11_isFrom py_X11_isFrom rfl, ivS_ok (c_X11_demand hl) g_X11_demand.1 g_X11_demand.2 ml_X11_86 st_X11_demand py_X11_demand rfl, ivV_ok (ci := 7) (c_X7_isNear hl) g_X7_isNear.1 g_X7_isNear.2 ml_X11_286 in_X7_isNear py_X7_isNear rfl se_X7_isNear, trivial⟩ (gd_use h).1 (gd_use h).2
theorem ml_X7_29 : gw (.methodLink RX7 29 arraycopyName) = true := by decide +kernel
def B_X7_become : List (Nat × List (Nat × Instr × Nat)) := [(0, [(0, .aload_n 1, 1), (1, .getfield 9, 3), (4, .iconst 0, 1), (5, .aload_n 0, 1), (6, .getfield 9, 3), (9, .iconst 0, 1), (10, .bipush 24, 2), (12, .invokestatic 29, 3), (15, .aload_n 1, 1), (16, .getfield 13, 3), (19, .iconst 0, 1), (20, .aload_n 0, 1), (21, .getfield 13, 3), (24, .iconst 0, 1), (25, .bipush 24, 2), (27, .invokestatic 29, 3), (30, .aload_n 0, 1), (31, .aload_n 1, 1), (32, .getfield 19, 3), (35, .putfield 19, 3), (38, .return_, 1)])]
def T_X7_become (tb : Nat → Option (Nat × Nat)) : List (Nat × IV) := [(118, ivA tb)]
def M_X7_become (tb : Nat → Option (Nat × Nat)) : MT := (tb, FX7, StX7, CX7, NwX7, ivOf (T_X7_become tb), 0, 0, 0)
def r_X7_become (tb : Nat → Option (Nat × Nat)) (K : Option AV → AX → Prop) (KX : String → AX → Prop) : PT := lfp (wpm (M_X7_become tb) B_X7_become K (fun _ _ _ E X _ _ => KX E X))
def w_X7_become (tb : Nat → Option (Nat × Nat)) : WP := fun as X K KX => gd ((ini0 as).length ≤ 2) (r_X7_become tb K KX 0 (iniL as 2) [] X 0 0)
theorem k_X7_become : B_X7_become.all (blkB FX7 CX7 NwX7 RX7 false cX7_become) = true := by decide +kernel
theorem g_X7_become : gw (.code yX7_become cX7_become 2 none) = true ∧ gw (.initialized yX7_become.cls) = true := by decide +kernel
theorem c_X7_become {l : Launch} {G : GX} (hl : l.stackTraces = false) : ∀ as X K KX, w_X7_become (gT G) as X K KX → CT l G yX7_become (.code yX7_become cX7_become 2 none) 1 48 0 0 as X K KX := fun as X K KX h => CT_of (M := M_X7_become (gT G)) (own := RX7) (ini := false) (T := T_X7_become (gT G)) (B := B_X7_become) (by decide +kernel) hl rfl (fun h => absurd h (by decide)) rfl tab_X7 k_X7_become rfl (Or.inl rfl) rfl
  ⟨ivA_ok ml_X7_29 rfl, trivial⟩ (gd_use h).1 (gd_use h).2
theorem py_X7_become : plainY yX7_become 1 = true := by decide +kernel
theorem in_X7_become : gw (.instanceMethod yX7_become) = true := by decide +kernel
theorem se_X7_become : gw (.selects RX7 yX7_become yX7_become) = true := by decide +kernel
theorem ml_X5_119 : gw (.methodLink RX5 119 yX7_become) = true := by decide +kernel
def B_X5_become : List (Nat × List (Nat × Instr × Nat)) := [(0, [(0, .aload_n 0, 1), (1, .getfield 12, 3), (4, .aload_n 1, 1), (5, .getfield 12, 3), (8, .invokevirtual 119, 3), (11, .aload_n 0, 1), (12, .aload_n 1, 1), (13, .getfield 73, 3), (16, .putfield 73, 3), (19, .aload_n 0, 1), (20, .aload_n 1, 1), (21, .getfield 21, 3), (24, .putfield 21, 3), (27, .aload_n 0, 1), (28, .aload_n 1, 1), (29, .getfield 25, 3), (32, .putfield 25, 3), (35, .aload_n 0, 1), (36, .aload_n 1, 1), (37, .getfield 28, 3), (40, .putfield 28, 3), (43, .aload_n 0, 1), (44, .aload_n 1, 1), (45, .getfield 31, 3), (48, .putfield 31, 3), (51, .aload_n 0, 1), (52, .aload_n 1, 1), (53, .getfield 41, 3), (56, .putfield 41, 3), (59, .aload_n 0, 1), (60, .aload_n 1, 1), (61, .getfield 44, 3), (64, .putfield 44, 3), (67, .aload_n 0, 1), (68, .aload_n 1, 1), (69, .getfield 47, 3), (72, .putfield 47, 3), (75, .aload_n 0, 1), (76, .aload_n 1, 1), (77, .getfield 50, 3), (80, .putfield 50, 3), (83, .aload_n 0, 1), (84, .aload_n 1, 1), (85, .getfield 53, 3), (88, .putfield 53, 3), (91, .aload_n 0, 1), (92, .aload_n 1, 1), (93, .getfield 56, 3), (96, .putfield 56, 3), (99, .aload_n 0, 1), (100, .aload_n 1, 1), (101, .getfield 59, 3), (104, .putfield 59, 3), (107, .aload_n 0, 1), (108, .aload_n 1, 1), (109, .getfield 62, 3), (112, .putfield 62, 3), (115, .aload_n 0, 1), (116, .aload_n 1, 1), (117, .getfield 65, 3), (120, .putfield 65, 3), (123, .return_, 1)])]
def T_X5_become (tb : Nat → Option (Nat × Nat)) : List (Nat × IV) := [(476, ivV tb 7 0 0 1 0 0 0 (w_X7_become tb))]
def M_X5_become (tb : Nat → Option (Nat × Nat)) : MT := (tb, FX5, StX5, CX5, NwX5, ivOf (T_X5_become tb), 0, 0, 0)
def r_X5_become (tb : Nat → Option (Nat × Nat)) (K : Option AV → AX → Prop) (KX : String → AX → Prop) : PT := lfp (wpm (M_X5_become tb) B_X5_become K (fun _ _ _ E X _ _ => KX E X))
def w_X5_become (tb : Nat → Option (Nat × Nat)) : WP := fun as X K KX => gd ((ini0 as).length ≤ 2) (r_X5_become tb K KX 0 (iniL as 2) [] X 0 0)
theorem k_X5_become : B_X5_become.all (blkB FX5 CX5 NwX5 RX5 false cX5_become) = true := by decide +kernel
theorem g_X5_become : gw (.code yX5_become cX5_become 2 none) = true ∧ gw (.initialized yX5_become.cls) = true := by decide +kernel
theorem c_X5_become {l : Launch} {G : GX} (hl : l.stackTraces = false) : ∀ as X K KX, w_X5_become (gT G) as X K KX → CT l G yX5_become (.code yX5_become cX5_become 2 none) 2 69 0 0 as X K KX := fun as X K KX h => CT_of (M := M_X5_become (gT G)) (own := RX5) (ini := false) (T := T_X5_become (gT G)) (B := B_X5_become) (by decide +kernel) hl rfl (fun h => absurd h (by decide)) rfl tab_X5 k_X5_become rfl (Or.inr (Or.inl nw_X5)) rfl
  ⟨ivV_ok (ci := 7) (c_X7_become hl) g_X7_become.1 g_X7_become.2 ml_X5_119 in_X7_become py_X7_become rfl se_X7_become, trivial⟩ (gd_use h).1 (gd_use h).2
theorem py_X5_become : plainY yX5_become 1 = true := by decide +kernel
theorem in_X5_become : gw (.instanceMethod yX5_become) = true := by decide +kernel
theorem se_X5_become : gw (.selects RX5 yX5_become yX5_become) = true := by decide +kernel
theorem ml_X11_290 : gw (.methodLink RX11 290 yX5_become) = true := by decide +kernel
def B_X11_keep : List (Nat × List (Nat × Instr × Nat)) := [(0, [(0, .aload_n 0, 1), (1, .invokevirtual 187, 3), (4, .aload_n 0, 1), (5, .getfield 56, 3), (8, .aload_n 0, 1), (9, .getfield 46, 3), (12, .getfield 177, 3), (15, .invokevirtual 290, 3), (18, .aload_n 0, 1), (19, .aload_n 0, 1), (20, .getfield 46, 3), (23, .getfield 184, 3), (26, .putfield 60, 3), (29, .aload_n 0, 1), (30, .getfield 46, 3), (33, .getfield 184, 3), (36, .ireturn, 1)])]
def T_X11_keep (tb : Nat → Option (Nat × Nat)) : List (Nat × IV) := [(748, ivV tb 11 1 6 0 1 6 0 (w_X11_demandHired tb)), (1160, ivV tb 5 1 6 1 0 0 0 (w_X5_become tb))]
def M_X11_keep (tb : Nat → Option (Nat × Nat)) : MT := (tb, FX11, StX11, CX11, NwX11, ivOf (T_X11_keep tb), 1, 6, 1)
def r_X11_keep (tb : Nat → Option (Nat × Nat)) (K : Option AV → AX → Prop) (KX : String → AX → Prop) : PT := lfp (wpm (M_X11_keep tb) B_X11_keep K (fun _ _ _ E X _ _ => KX E X))
def w_X11_keep (tb : Nat → Option (Nat × Nat)) : WP := fun as X K KX => gd ((ini0 as).length ≤ 1) (r_X11_keep tb K KX 0 (iniL as 1) [] X 0 0)
theorem k_X11_keep : B_X11_keep.all (blkB FX11 CX11 NwX11 RX11 false cX11_keep) = true := by decide +kernel
theorem g_X11_keep : gw (.code yX11_keep cX11_keep 1 (some .int)) = true ∧ gw (.initialized yX11_keep.cls) = true := by decide +kernel
theorem c_X11_keep {l : Launch} {G : GX} (hl : l.stackTraces = false) : ∀ as X K KX, w_X11_keep (gT G) as X K KX → CT l G yX11_keep (.code yX11_keep cX11_keep 1 (some .int)) 8 121 1 6 as X K KX := fun as X K KX h => CT_of (M := M_X11_keep (gT G)) (own := RX11) (ini := false) (T := T_X11_keep (gT G)) (B := B_X11_keep) (by decide +kernel) hl rfl (fun h => absurd h (by decide)) rfl tab_X11 k_X11_keep rfl (Or.inr (Or.inr ⟨by decide, by decide⟩)) rfl
  ⟨ivV_ok (ci := 11) (c_X11_demandHired hl) g_X11_demandHired.1 g_X11_demandHired.2 ml_X11_187 in_X11_demandHired py_X11_demandHired rfl se_X11_demandHired, ivV_ok (ci := 5) (c_X5_become hl) g_X5_become.1 g_X5_become.2 ml_X11_290 in_X5_become py_X5_become rfl se_X5_become, trivial⟩ (gd_use h).1 (gd_use h).2
def B_X11_back : List (Nat × List (Nat × Instr × Nat)) := [(0, [(0, .aload_n 0, 1), (1, .invokevirtual 187, 3), (4, .aload_n 0, 1), (5, .getfield 60, 3), (8, .aload_n 0, 1), (9, .getfield 46, 3), (12, .getfield 184, 3), (15, .if_icmp .ne 7, 3), (18, .iconst 1, 1), (19, .goto 4, 3)]),
  (22, [(22, .iconst 0, 1)]),
  (23, [(23, .invokestatic 193, 3), (26, .aload_n 0, 1), (27, .getfield 46, 3), (30, .getfield 177, 3), (33, .aload_n 0, 1), (34, .getfield 56, 3), (37, .invokevirtual 290, 3), (40, .aload_n 0, 1), (41, .getfield 56, 3), (44, .getfield 190, 3), (47, .ireturn, 1)])]
def T_X11_back (tb : Nat → Option (Nat × Nat)) : List (Nat × IV) := [(748, ivV tb 11 2 12 0 1 6 0 (w_X11_demandHired tb)), (774, ivS 2 12 1 1 6 0 (w_X11_demandState tb)), (1160, ivV tb 5 2 12 1 0 0 0 (w_X5_become tb))]
def M_X11_back (tb : Nat → Option (Nat × Nat)) : MT := (tb, FX11, StX11, CX11, NwX11, ivOf (T_X11_back tb), 2, 12, 1)
def r_X11_back (tb : Nat → Option (Nat × Nat)) (K : Option AV → AX → Prop) (KX : String → AX → Prop) : PT := lfp (wpm (M_X11_back tb) B_X11_back K (fun _ _ _ E X _ _ => KX E X))
def w_X11_back (tb : Nat → Option (Nat × Nat)) : WP := fun as X K KX => gd ((ini0 as).length ≤ 1) (r_X11_back tb K KX 0 (iniL as 1) [] X 0 0)
theorem k_X11_back : B_X11_back.all (blkB FX11 CX11 NwX11 RX11 false cX11_back) = true := by decide +kernel
theorem g_X11_back : gw (.code yX11_back cX11_back 1 (some .int)) = true ∧ gw (.initialized yX11_back.cls) = true := by decide +kernel
theorem c_X11_back {l : Launch} {G : GX} (hl : l.stackTraces = false) : ∀ as X K KX, w_X11_back (gT G) as X K KX → CT l G yX11_back (.code yX11_back cX11_back 1 (some .int)) 8 121 2 12 as X K KX := fun as X K KX h => CT_of (M := M_X11_back (gT G)) (own := RX11) (ini := false) (T := T_X11_back (gT G)) (B := B_X11_back) (by decide +kernel) hl rfl (fun h => absurd h (by decide)) rfl tab_X11 k_X11_back rfl (Or.inr (Or.inr ⟨by decide, by decide⟩)) rfl
  ⟨ivV_ok (ci := 11) (c_X11_demandHired hl) g_X11_demandHired.1 g_X11_demandHired.2 ml_X11_187 in_X11_demandHired py_X11_demandHired rfl se_X11_demandHired, ivS_ok (c_X11_demandState hl) g_X11_demandState.1 g_X11_demandState.2 ml_X11_193 st_X11_demandState py_X11_demandState rfl, ivV_ok (ci := 5) (c_X5_become hl) g_X5_become.1 g_X5_become.2 ml_X11_290 in_X5_become py_X5_become rfl se_X5_become, trivial⟩ (gd_use h).1 (gd_use h).2
