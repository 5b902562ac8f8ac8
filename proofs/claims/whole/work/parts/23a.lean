theorem py_X11_wheel : plainY yX11_wheel 3 = true := by decide +kernel
theorem in_X11_wheel : gw (.instanceMethod yX11_wheel) = true := by decide +kernel
theorem se_X11_wheel : gw (.selects RX11 yX11_wheel yX11_wheel) = true := by decide +kernel
theorem ml_L_7 : gw (.methodLink RL 7 yX11_wheel) = true := by decide +kernel
def B_L_wheel : List (Nat × List (Nat × Instr × Nat)) := [(0, [(0, .aload 4, 2), (2, .iconst 0, 1), (3, .aload_n 0, 1), (4, .iload_n 1, 1), (5, .iload_n 2, 1), (6, .iload_n 3, 1), (7, .invokevirtual 7, 3), (10, .i2l, 1), (11, .lastore, 1), (12, .goto 11, 3)]), (17, [(17, .iconst 1, 1), (18, .ireturn, 1)]), (21, [(21, .iconst 2, 1), (22, .ireturn, 1)]), (23, [(23, .iconst 0, 1), (24, .ireturn, 1)])]
def H_L_wheel : List HR := [(0, 12, 15, 2, 5, 13, "java/lang/IllegalStateException"), (0, 12, 19, 2, 5, 15, "java/lang/IllegalArgumentException")]
def T_L_wheel (tb : Nat → Option (Nat × Nat)) : List (Nat × IV) := [(28, ivV tb 11 3 18 3 3 18 1 (w_X11_wheel tb))]
def M_L_wheel (tb : Nat → Option (Nat × Nat)) : MT := (tb, [], [], [], [], ivOf (T_L_wheel tb), 3, 18, 1)
def r_L_wheel (tb : Nat → Option (Nat × Nat)) (K : Option AV → AX → Prop) : PT := lfp (wpm (M_L_wheel tb) B_L_wheel K (fun P pc L E X k z => hxF P pc L E X k z H_L_wheel))
def w_L_wheel (tb : Nat → Option (Nat × Nat)) : WP := fun as X K _ => gd ((ini0 as).length ≤ 6) (r_L_wheel tb K 0 (iniL as 6) [] X 0 0)
theorem k_L_wheel : B_L_wheel.all (blkB [] [] [] RL false cL_wheel) = true := by decide +kernel
theorem h_L_wheel : H_L_wheel.all (hrB RL cL_wheel) = true := by decide +kernel
theorem g_L_wheel : gw (.codeWith yL_wheel cL_wheel 6 (some .int) (H_L_wheel.map hh1)) = true ∧ gw (.initialized yL_wheel.cls) = true := by decide +kernel
theorem c_L_wheel {l : Launch} {G : GX} (hl : l.stackTraces = false) : ∀ as X K KX, w_L_wheel (gT G) as X K KX → CT l G yL_wheel (.codeWith yL_wheel cL_wheel 6 (some .int) (H_L_wheel.map hh1)) 9 146 3 18 as X K KX := fun as X K KX h => CTW_of (M := M_L_wheel (gT G)) (own := RL) (T := T_L_wheel (gT G)) (B := B_L_wheel) (by decide +kernel) hl rfl rfl tab_e k_L_wheel h_L_wheel rfl rfl rfl
  ⟨ivV_ok (ci := 11) (c_X11_wheel hl) g_X11_wheel.1 g_X11_wheel.2 ml_L_7 in_X11_wheel py_X11_wheel rfl se_X11_wheel, trivial⟩ (gd_use h).1 (gd_use h).2
theorem py_X11_row : plainY yX11_row 2 = true := by decide +kernel
theorem in_X11_row : gw (.instanceMethod yX11_row) = true := by decide +kernel
theorem se_X11_row : gw (.selects RX11 yX11_row yX11_row) = true := by decide +kernel
theorem ml_L_17 : gw (.methodLink RL 17 yX11_row) = true := by decide +kernel
def B_L_row : List (Nat × List (Nat × Instr × Nat)) := [(0, [(0, .aload_n 3, 1), (1, .iconst 0, 1), (2, .aload_n 0, 1), (3, .iload_n 1, 1), (4, .iload_n 2, 1), (5, .invokevirtual 17, 3), (8, .ifCond .eq 7, 3), (11, .lconst 1, 1), (12, .goto 4, 3)]), (15, [(15, .lconst 0, 1)]), (16, [(16, .lastore, 1), (17, .goto 11, 3)]), (22, [(22, .iconst 1, 1), (23, .ireturn, 1)]), (26, [(26, .iconst 2, 1), (27, .ireturn, 1)]), (28, [(28, .iconst 0, 1), (29, .ireturn, 1)])]
def H_L_row : List HR := [(0, 17, 20, 2, 4, 21, "java/lang/IndexOutOfBoundsException"), (0, 17, 24, 2, 4, 15, "java/lang/IllegalArgumentException")]
def T_L_row (tb : Nat → Option (Nat × Nat)) : List (Nat × IV) := [(68, ivV tb 11 2 12 2 2 12 1 (w_X11_row tb))]
def M_L_row (tb : Nat → Option (Nat × Nat)) : MT := (tb, [], [], [], [], ivOf (T_L_row tb), 2, 12, 1)
def r_L_row (tb : Nat → Option (Nat × Nat)) (K : Option AV → AX → Prop) : PT := lfp (wpm (M_L_row tb) B_L_row K (fun P pc L E X k z => hxF P pc L E X k z H_L_row))
def w_L_row (tb : Nat → Option (Nat × Nat)) : WP := fun as X K _ => gd ((ini0 as).length ≤ 5) (r_L_row tb K 0 (iniL as 5) [] X 0 0)
theorem k_L_row : B_L_row.all (blkB [] [] [] RL false cL_row) = true := by decide +kernel
theorem h_L_row : H_L_row.all (hrB RL cL_row) = true := by decide +kernel
theorem g_L_row : gw (.codeWith yL_row cL_row 5 (some .int) (H_L_row.map hh1)) = true ∧ gw (.initialized yL_row.cls) = true := by decide +kernel
theorem c_L_row {l : Launch} {G : GX} (hl : l.stackTraces = false) : ∀ as X K KX, w_L_row (gT G) as X K KX → CT l G yL_row (.codeWith yL_row cL_row 5 (some .int) (H_L_row.map hh1)) 8 125 2 12 as X K KX := fun as X K KX h => CTW_of (M := M_L_row (gT G)) (own := RL) (T := T_L_row (gT G)) (B := B_L_row) (by decide +kernel) hl rfl rfl tab_e k_L_row h_L_row rfl rfl rfl
  ⟨ivV_ok (ci := 11) (c_X11_row hl) g_X11_row.1 g_X11_row.2 ml_L_17 in_X11_row py_X11_row rfl se_X11_row, trivial⟩ (gd_use h).1 (gd_use h).2
theorem py_X11_pulse : plainY yX11_pulse 3 = true := by decide +kernel
theorem in_X11_pulse : gw (.instanceMethod yX11_pulse) = true := by decide +kernel
theorem se_X11_pulse : gw (.selects RX11 yX11_pulse yX11_pulse) = true := by decide +kernel
theorem ml_L_23 : gw (.methodLink RL 23 yX11_pulse) = true := by decide +kernel
def B_L_pulse : List (Nat × List (Nat × Instr × Nat)) := [(0, [(0, .aload 4, 2), (2, .iconst 0, 1), (3, .aload_n 0, 1), (4, .iload_n 1, 1), (5, .iload_n 2, 1), (6, .iload_n 3, 1), (7, .invokevirtual 23, 3), (10, .i2l, 1), (11, .lastore, 1), (12, .goto 15, 3)]), (17, [(17, .iconst 1, 1), (18, .ireturn, 1)]), (21, [(21, .iconst 2, 1), (22, .ireturn, 1)]), (25, [(25, .iconst 3, 1), (26, .ireturn, 1)]), (27, [(27, .iconst 0, 1), (28, .ireturn, 1)])]
def H_L_pulse : List HR := [(0, 12, 15, 2, 5, 15, "java/lang/IllegalArgumentException"), (0, 12, 19, 2, 5, 21, "java/lang/IndexOutOfBoundsException"), (0, 12, 23, 2, 5, 26, "java/util/NoSuchElementException")]
def T_L_pulse (tb : Nat → Option (Nat × Nat)) : List (Nat × IV) := [(92, ivV tb 11 4 24 3 4 24 1 (w_X11_pulse tb))]
def M_L_pulse (tb : Nat → Option (Nat × Nat)) : MT := (tb, [], [], [], [], ivOf (T_L_pulse tb), 4, 24, 1)
def r_L_pulse (tb : Nat → Option (Nat × Nat)) (K : Option AV → AX → Prop) : PT := lfp (wpm (M_L_pulse tb) B_L_pulse K (fun P pc L E X k z => hxF P pc L E X k z H_L_pulse))
def w_L_pulse (tb : Nat → Option (Nat × Nat)) : WP := fun as X K _ => gd ((ini0 as).length ≤ 6) (r_L_pulse tb K 0 (iniL as 6) [] X 0 0)
theorem k_L_pulse : B_L_pulse.all (blkB [] [] [] RL false cL_pulse) = true := by decide +kernel
theorem h_L_pulse : H_L_pulse.all (hrB RL cL_pulse) = true := by decide +kernel
theorem g_L_pulse : gw (.codeWith yL_pulse cL_pulse 6 (some .int) (H_L_pulse.map hh1)) = true ∧ gw (.initialized yL_pulse.cls) = true := by decide +kernel
theorem c_L_pulse {l : Launch} {G : GX} (hl : l.stackTraces = false) : ∀ as X K KX, w_L_pulse (gT G) as X K KX → CT l G yL_pulse (.codeWith yL_pulse cL_pulse 6 (some .int) (H_L_pulse.map hh1)) 8 126 4 24 as X K KX := fun as X K KX h => CTW_of (M := M_L_pulse (gT G)) (own := RL) (T := T_L_pulse (gT G)) (B := B_L_pulse) (by decide +kernel) hl rfl rfl tab_e k_L_pulse h_L_pulse rfl rfl rfl
  ⟨ivV_ok (ci := 11) (c_X11_pulse hl) g_X11_pulse.1 g_X11_pulse.2 ml_L_23 in_X11_pulse py_X11_pulse rfl se_X11_pulse, trivial⟩ (gd_use h).1 (gd_use h).2
theorem py_X11_tear : plainY yX11_tear 2 = true := by decide +kernel
theorem in_X11_tear : gw (.instanceMethod yX11_tear) = true := by decide +kernel
theorem se_X11_tear : gw (.selects RX11 yX11_tear yX11_tear) = true := by decide +kernel
theorem ml_L_28 : gw (.methodLink RL 28 yX11_tear) = true := by decide +kernel
def B_L_tear : List (Nat × List (Nat × Instr × Nat)) := [(0, [(0, .aload_n 3, 1), (1, .iconst 0, 1), (2, .aload_n 0, 1), (3, .iload_n 1, 1), (4, .iload_n 2, 1), (5, .invokevirtual 28, 3), (8, .i2l, 1), (9, .lastore, 1), (10, .goto 11, 3)]), (15, [(15, .iconst 1, 1), (16, .ireturn, 1)]), (19, [(19, .iconst 2, 1), (20, .ireturn, 1)]), (21, [(21, .iconst 0, 1), (22, .ireturn, 1)])]
def H_L_tear : List HR := [(0, 10, 13, 2, 4, 21, "java/lang/IndexOutOfBoundsException"), (0, 10, 17, 2, 4, 26, "java/util/NoSuchElementException")]
def T_L_tear (tb : Nat → Option (Nat × Nat)) : List (Nat × IV) := [(112, ivV tb 11 2 12 2 2 12 1 (w_X11_tear tb))]
def M_L_tear (tb : Nat → Option (Nat × Nat)) : MT := (tb, [], [], [], [], ivOf (T_L_tear tb), 2, 12, 1)
def r_L_tear (tb : Nat → Option (Nat × Nat)) (K : Option AV → AX → Prop) : PT := lfp (wpm (M_L_tear tb) B_L_tear K (fun P pc L E X k z => hxF P pc L E X k z H_L_tear))
def w_L_tear (tb : Nat → Option (Nat × Nat)) : WP := fun as X K _ => gd ((ini0 as).length ≤ 5) (r_L_tear tb K 0 (iniL as 5) [] X 0 0)
theorem k_L_tear : B_L_tear.all (blkB [] [] [] RL false cL_tear) = true := by decide +kernel
theorem h_L_tear : H_L_tear.all (hrB RL cL_tear) = true := by decide +kernel
theorem g_L_tear : gw (.codeWith yL_tear cL_tear 5 (some .int) (H_L_tear.map hh1)) = true ∧ gw (.initialized yL_tear.cls) = true := by decide +kernel
theorem c_L_tear {l : Launch} {G : GX} (hl : l.stackTraces = false) : ∀ as X K KX, w_L_tear (gT G) as X K KX → CT l G yL_tear (.codeWith yL_tear cL_tear 5 (some .int) (H_L_tear.map hh1)) 8 125 2 12 as X K KX := fun as X K KX h => CTW_of (M := M_L_tear (gT G)) (own := RL) (T := T_L_tear (gT G)) (B := B_L_tear) (by decide +kernel) hl rfl rfl tab_e k_L_tear h_L_tear rfl rfl rfl
  ⟨ivV_ok (ci := 11) (c_X11_tear hl) g_X11_tear.1 g_X11_tear.2 ml_L_28 in_X11_tear py_X11_tear rfl se_X11_tear, trivial⟩ (gd_use h).1 (gd_use h).2
theorem py_X11_pulses : plainY yX11_pulses 2 = true := by decide +kernel
theorem in_X11_pulses : gw (.instanceMethod yX11_pulses) = true := by decide +kernel
theorem se_X11_pulses : gw (.selects RX11 yX11_pulses yX11_pulses) = true := by decide +kernel
theorem ml_L_32 : gw (.methodLink RL 32 yX11_pulses) = true := by decide +kernel
def B_L_pulses : List (Nat × List (Nat × Instr × Nat)) := [(0, [(0, .aload_n 3, 1), (1, .iconst 0, 1), (2, .aload_n 0, 1), (3, .iload_n 1, 1), (4, .iload_n 2, 1), (5, .invokevirtual 32, 3), (8, .i2l, 1), (9, .lastore, 1), (10, .goto 7, 3)]), (15, [(15, .iconst 1, 1), (16, .ireturn, 1)]), (17, [(17, .iconst 0, 1), (18, .ireturn, 1)])]
def H_L_pulses : List HR := [(0, 10, 13, 2, 4, 21, "java/lang/IndexOutOfBoundsException")]
def T_L_pulses (tb : Nat → Option (Nat × Nat)) : List (Nat × IV) := [(128, ivV tb 11 1 6 2 1 6 1 (w_X11_pulses tb))]
def M_L_pulses (tb : Nat → Option (Nat × Nat)) : MT := (tb, [], [], [], [], ivOf (T_L_pulses tb), 1, 6, 1)
def r_L_pulses (tb : Nat → Option (Nat × Nat)) (K : Option AV → AX → Prop) : PT := lfp (wpm (M_L_pulses tb) B_L_pulses K (fun P pc L E X k z => hxF P pc L E X k z H_L_pulses))
def w_L_pulses (tb : Nat → Option (Nat × Nat)) : WP := fun as X K _ => gd ((ini0 as).length ≤ 5) (r_L_pulses tb K 0 (iniL as 5) [] X 0 0)
theorem k_L_pulses : B_L_pulses.all (blkB [] [] [] RL false cL_pulses) = true := by decide +kernel
theorem h_L_pulses : H_L_pulses.all (hrB RL cL_pulses) = true := by decide +kernel
theorem g_L_pulses : gw (.codeWith yL_pulses cL_pulses 5 (some .int) (H_L_pulses.map hh1)) = true ∧ gw (.initialized yL_pulses.cls) = true := by decide +kernel
theorem c_L_pulses {l : Launch} {G : GX} (hl : l.stackTraces = false) : ∀ as X K KX, w_L_pulses (gT G) as X K KX → CT l G yL_pulses (.codeWith yL_pulses cL_pulses 5 (some .int) (H_L_pulses.map hh1)) 8 124 1 6 as X K KX := fun as X K KX h => CTW_of (M := M_L_pulses (gT G)) (own := RL) (T := T_L_pulses (gT G)) (B := B_L_pulses) (by decide +kernel) hl rfl rfl tab_e k_L_pulses h_L_pulses rfl rfl rfl
  ⟨ivV_ok (ci := 11) (c_X11_pulses hl) g_X11_pulses.1 g_X11_pulses.2 ml_L_32 in_X11_pulses py_X11_pulses rfl se_X11_pulses, trivial⟩ (gd_use h).1 (gd_use h).2
theorem py_X11_tariff : plainY yX11_tariff 1 = true := by decide +kernel
theorem in_X11_tariff : gw (.instanceMethod yX11_tariff) = true := by decide +kernel
theorem se_X11_tariff : gw (.selects RX11 yX11_tariff yX11_tariff) = true := by decide +kernel
theorem ml_L_35 : gw (.methodLink RL 35 yX11_tariff) = true := by decide +kernel
def B_L_tariff : List (Nat × List (Nat × Instr × Nat)) := [(0, [(0, .aload_n 2, 1), (1, .iconst 0, 1), (2, .aload_n 0, 1), (3, .iload_n 1, 1), (4, .invokevirtual 35, 3), (7, .i2l, 1), (8, .lastore, 1), (9, .goto 6, 3)]), (13, [(13, .iconst 1, 1), (14, .ireturn, 1)]), (15, [(15, .iconst 0, 1), (16, .ireturn, 1)])]
def H_L_tariff : List HR := [(0, 9, 12, 1, 3, 15, "java/lang/IllegalArgumentException")]
def T_L_tariff (tb : Nat → Option (Nat × Nat)) : List (Nat × IV) := [(140, ivV tb 11 11 91 1 11 91 1 (w_X11_tariff tb))]
def M_L_tariff (tb : Nat → Option (Nat × Nat)) : MT := (tb, [], [], [], [], ivOf (T_L_tariff tb), 11, 91, 1)
def r_L_tariff (tb : Nat → Option (Nat × Nat)) (K : Option AV → AX → Prop) : PT := lfp (wpm (M_L_tariff tb) B_L_tariff K (fun P pc L E X k z => hxF P pc L E X k z H_L_tariff))
def w_L_tariff (tb : Nat → Option (Nat × Nat)) : WP := fun as X K _ => gd ((ini0 as).length ≤ 4) (r_L_tariff tb K 0 (iniL as 4) [] X 0 0)
theorem k_L_tariff : B_L_tariff.all (blkB [] [] [] RL false cL_tariff) = true := by decide +kernel
theorem h_L_tariff : H_L_tariff.all (hrB RL cL_tariff) = true := by decide +kernel
theorem g_L_tariff : gw (.codeWith yL_tariff cL_tariff 4 (some .int) (H_L_tariff.map hh1)) = true ∧ gw (.initialized yL_tariff.cls) = true := by decide +kernel
theorem c_L_tariff {l : Launch} {G : GX} (hl : l.stackTraces = false) : ∀ as X K KX, w_L_tariff (gT G) as X K KX → CT l G yL_tariff (.codeWith yL_tariff cL_tariff 4 (some .int) (H_L_tariff.map hh1)) 8 127 11 91 as X K KX := fun as X K KX h => CTW_of (M := M_L_tariff (gT G)) (own := RL) (T := T_L_tariff (gT G)) (B := B_L_tariff) (by decide +kernel) hl rfl rfl tab_e k_L_tariff h_L_tariff rfl rfl rfl
  ⟨ivV_ok (ci := 11) (c_X11_tariff hl) g_X11_tariff.1 g_X11_tariff.2 ml_L_35 in_X11_tariff py_X11_tariff rfl se_X11_tariff, trivial⟩ (gd_use h).1 (gd_use h).2
theorem py_X11_set : plainY yX11_set 3 = true := by decide +kernel
theorem in_X11_set : gw (.instanceMethod yX11_set) = true := by decide +kernel
theorem se_X11_set : gw (.selects RX11 yX11_set yX11_set) = true := by decide +kernel
theorem ml_L_39 : gw (.methodLink RL 39 yX11_set) = true := by decide +kernel
def B_L_set : List (Nat × List (Nat × Instr × Nat)) := [(0, [(0, .aload 4, 2), (2, .iconst 0, 1), (3, .aload_n 0, 1), (4, .iload_n 1, 1), (5, .iload_n 2, 1), (6, .iload_n 3, 1), (7, .invokevirtual 39, 3), (10, .i2l, 1), (11, .lastore, 1), (12, .goto 19, 3)]), (17, [(17, .iconst 1, 1), (18, .ireturn, 1)]), (21, [(21, .iconst 2, 1), (22, .ireturn, 1)]), (25, [(25, .iconst 3, 1), (26, .ireturn, 1)]), (29, [(29, .iconst 4, 1), (30, .ireturn, 1)]), (31, [(31, .iconst 0, 1), (32, .ireturn, 1)])]
def H_L_set : List HR := [(0, 12, 15, 2, 5, 13, "java/lang/IllegalStateException"), (0, 12, 19, 2, 5, 21, "java/lang/IndexOutOfBoundsException"), (0, 12, 23, 2, 5, 26, "java/util/NoSuchElementException"), (0, 12, 27, 2, 5, 15, "java/lang/IllegalArgumentException")]
def T_L_set (tb : Nat → Option (Nat × Nat)) : List (Nat × IV) := [(156, ivV tb 11 4 24 3 4 24 1 (w_X11_set tb))]
def M_L_set (tb : Nat → Option (Nat × Nat)) : MT := (tb, [], [], [], [], ivOf (T_L_set tb), 4, 24, 1)
def r_L_set (tb : Nat → Option (Nat × Nat)) (K : Option AV → AX → Prop) : PT := lfp (wpm (M_L_set tb) B_L_set K (fun P pc L E X k z => hxF P pc L E X k z H_L_set))
def w_L_set (tb : Nat → Option (Nat × Nat)) : WP := fun as X K _ => gd ((ini0 as).length ≤ 6) (r_L_set tb K 0 (iniL as 6) [] X 0 0)
theorem k_L_set : B_L_set.all (blkB [] [] [] RL false cL_set) = true := by decide +kernel
theorem h_L_set : H_L_set.all (hrB RL cL_set) = true := by decide +kernel
theorem g_L_set : gw (.codeWith yL_set cL_set 6 (some .int) (H_L_set.map hh1)) = true ∧ gw (.initialized yL_set.cls) = true := by decide +kernel
theorem c_L_set {l : Launch} {G : GX} (hl : l.stackTraces = false) : ∀ as X K KX, w_L_set (gT G) as X K KX → CT l G yL_set (.codeWith yL_set cL_set 6 (some .int) (H_L_set.map hh1)) 9 145 4 24 as X K KX := fun as X K KX h => CTW_of (M := M_L_set (gT G)) (own := RL) (T := T_L_set (gT G)) (B := B_L_set) (by decide +kernel) hl rfl rfl tab_e k_L_set h_L_set rfl rfl rfl
  ⟨ivV_ok (ci := 11) (c_X11_set hl) g_X11_set.1 g_X11_set.2 ml_L_39 in_X11_set py_X11_set rfl se_X11_set, trivial⟩ (gd_use h).1 (gd_use h).2
theorem py_X11_number : plainY yX11_number 2 = true := by decide +kernel
theorem in_X11_number : gw (.instanceMethod yX11_number) = true := by decide +kernel
theorem se_X11_number : gw (.selects RX11 yX11_number yX11_number) = true := by decide +kernel
theorem ml_L_42 : gw (.methodLink RL 42 yX11_number) = true := by decide +kernel
def B_L_number : List (Nat × List (Nat × Instr × Nat)) := [(0, [(0, .aload_n 3, 1), (1, .iconst 0, 1), (2, .aload_n 0, 1), (3, .iload_n 1, 1), (4, .iload_n 2, 1), (5, .invokevirtual 42, 3), (8, .i2l, 1), (9, .lastore, 1), (10, .goto 11, 3)]), (15, [(15, .iconst 1, 1), (16, .ireturn, 1)]), (19, [(19, .iconst 2, 1), (20, .ireturn, 1)]), (21, [(21, .iconst 0, 1), (22, .ireturn, 1)])]
def H_L_number : List HR := [(0, 10, 13, 2, 4, 21, "java/lang/IndexOutOfBoundsException"), (0, 10, 17, 2, 4, 26, "java/util/NoSuchElementException")]
def T_L_number (tb : Nat → Option (Nat × Nat)) : List (Nat × IV) := [(168, ivV tb 11 2 12 2 2 12 1 (w_X11_number tb))]
def M_L_number (tb : Nat → Option (Nat × Nat)) : MT := (tb, [], [], [], [], ivOf (T_L_number tb), 2, 12, 1)
def r_L_number (tb : Nat → Option (Nat × Nat)) (K : Option AV → AX → Prop) : PT := lfp (wpm (M_L_number tb) B_L_number K (fun P pc L E X k z => hxF P pc L E X k z H_L_number))
def w_L_number (tb : Nat → Option (Nat × Nat)) : WP := fun as X K _ => gd ((ini0 as).length ≤ 5) (r_L_number tb K 0 (iniL as 5) [] X 0 0)
theorem k_L_number : B_L_number.all (blkB [] [] [] RL false cL_number) = true := by decide +kernel
theorem h_L_number : H_L_number.all (hrB RL cL_number) = true := by decide +kernel
theorem g_L_number : gw (.codeWith yL_number cL_number 5 (some .int) (H_L_number.map hh1)) = true ∧ gw (.initialized yL_number.cls) = true := by decide +kernel
theorem c_L_number {l : Launch} {G : GX} (hl : l.stackTraces = false) : ∀ as X K KX, w_L_number (gT G) as X K KX → CT l G yL_number (.codeWith yL_number cL_number 5 (some .int) (H_L_number.map hh1)) 8 124 2 12 as X K KX := fun as X K KX h => CTW_of (M := M_L_number (gT G)) (own := RL) (T := T_L_number (gT G)) (B := B_L_number) (by decide +kernel) hl rfl rfl tab_e k_L_number h_L_number rfl rfl rfl
  ⟨ivV_ok (ci := 11) (c_X11_number hl) g_X11_number.1 g_X11_number.2 ml_L_42 in_X11_number py_X11_number rfl se_X11_number, trivial⟩ (gd_use h).1 (gd_use h).2
theorem py_X11_slot : plainY yX11_slot 3 = true := by decide +kernel
theorem in_X11_slot : gw (.instanceMethod yX11_slot) = true := by decide +kernel
theorem se_X11_slot : gw (.selects RX11 yX11_slot yX11_slot) = true := by decide +kernel
theorem ml_L_45 : gw (.methodLink RL 45 yX11_slot) = true := by decide +kernel
def B_L_slot : List (Nat × List (Nat × Instr × Nat)) := [(0, [(0, .aload 4, 2), (2, .iconst 0, 1), (3, .aload_n 0, 1), (4, .iload_n 1, 1), (5, .iload_n 2, 1), (6, .iload_n 3, 1), (7, .invokevirtual 45, 3), (10, .i2l, 1), (11, .lastore, 1), (12, .goto 15, 3)]), (17, [(17, .iconst 1, 1), (18, .ireturn, 1)]), (21, [(21, .iconst 2, 1), (22, .ireturn, 1)]), (25, [(25, .iconst 3, 1), (26, .ireturn, 1)]), (27, [(27, .iconst 0, 1), (28, .ireturn, 1)])]
def H_L_slot : List HR := [(0, 12, 15, 2, 5, 21, "java/lang/IndexOutOfBoundsException"), (0, 12, 19, 2, 5, 15, "java/lang/IllegalArgumentException"), (0, 12, 23, 2, 5, 26, "java/util/NoSuchElementException")]
def T_L_slot (tb : Nat → Option (Nat × Nat)) : List (Nat × IV) := [(180, ivV tb 11 4 24 3 4 24 1 (w_X11_slot tb))]
def M_L_slot (tb : Nat → Option (Nat × Nat)) : MT := (tb, [], [], [], [], ivOf (T_L_slot tb), 4, 24, 1)
def r_L_slot (tb : Nat → Option (Nat × Nat)) (K : Option AV → AX → Prop) : PT := lfp (wpm (M_L_slot tb) B_L_slot K (fun P pc L E X k z => hxF P pc L E X k z H_L_slot))
def w_L_slot (tb : Nat → Option (Nat × Nat)) : WP := fun as X K _ => gd ((ini0 as).length ≤ 6) (r_L_slot tb K 0 (iniL as 6) [] X 0 0)
theorem k_L_slot : B_L_slot.all (blkB [] [] [] RL false cL_slot) = true := by decide +kernel
theorem h_L_slot : H_L_slot.all (hrB RL cL_slot) = true := by decide +kernel
theorem g_L_slot : gw (.codeWith yL_slot cL_slot 6 (some .int) (H_L_slot.map hh1)) = true ∧ gw (.initialized yL_slot.cls) = true := by decide +kernel
theorem c_L_slot {l : Launch} {G : GX} (hl : l.stackTraces = false) : ∀ as X K KX, w_L_slot (gT G) as X K KX → CT l G yL_slot (.codeWith yL_slot cL_slot 6 (some .int) (H_L_slot.map hh1)) 8 126 4 24 as X K KX := fun as X K KX h => CTW_of (M := M_L_slot (gT G)) (own := RL) (T := T_L_slot (gT G)) (B := B_L_slot) (by decide +kernel) hl rfl rfl tab_e k_L_slot h_L_slot rfl rfl rfl
  ⟨ivV_ok (ci := 11) (c_X11_slot hl) g_X11_slot.1 g_X11_slot.2 ml_L_45 in_X11_slot py_X11_slot rfl se_X11_slot, trivial⟩ (gd_use h).1 (gd_use h).2
theorem py_X11_kind : plainY yX11_kind 1 = true := by decide +kernel
theorem in_X11_kind : gw (.instanceMethod yX11_kind) = true := by decide +kernel
theorem se_X11_kind : gw (.selects RX11 yX11_kind yX11_kind) = true := by decide +kernel
theorem ml_L_48 : gw (.methodLink RL 48 yX11_kind) = true := by decide +kernel
def B_L_kind : List (Nat × List (Nat × Instr × Nat)) := [(0, [(0, .aload_n 2, 1), (1, .iconst 0, 1), (2, .aload_n 0, 1), (3, .iload_n 1, 1), (4, .invokevirtual 48, 3), (7, .i2l, 1), (8, .lastore, 1), (9, .goto 6, 3)]), (13, [(13, .iconst 1, 1), (14, .ireturn, 1)]), (15, [(15, .iconst 0, 1), (16, .ireturn, 1)])]
def H_L_kind : List HR := [(0, 9, 12, 1, 3, 21, "java/lang/IndexOutOfBoundsException")]
def T_L_kind (tb : Nat → Option (Nat × Nat)) : List (Nat × IV) := [(192, ivV tb 11 1 6 1 1 6 1 (w_X11_kind tb))]
def M_L_kind (tb : Nat → Option (Nat × Nat)) : MT := (tb, [], [], [], [], ivOf (T_L_kind tb), 1, 6, 1)
def r_L_kind (tb : Nat → Option (Nat × Nat)) (K : Option AV → AX → Prop) : PT := lfp (wpm (M_L_kind tb) B_L_kind K (fun P pc L E X k z => hxF P pc L E X k z H_L_kind))
def w_L_kind (tb : Nat → Option (Nat × Nat)) : WP := fun as X K _ => gd ((ini0 as).length ≤ 4) (r_L_kind tb K 0 (iniL as 4) [] X 0 0)
theorem k_L_kind : B_L_kind.all (blkB [] [] [] RL false cL_kind) = true := by decide +kernel
theorem h_L_kind : H_L_kind.all (hrB RL cL_kind) = true := by decide +kernel
theorem g_L_kind : gw (.codeWith yL_kind cL_kind 4 (some .int) (H_L_kind.map hh1)) = true ∧ gw (.initialized yL_kind.cls) = true := by decide +kernel
theorem c_L_kind {l : Launch} {G : GX} (hl : l.stackTraces = false) : ∀ as X K KX, w_L_kind (gT G) as X K KX → CT l G yL_kind (.codeWith yL_kind cL_kind 4 (some .int) (H_L_kind.map hh1)) 8 123 1 6 as X K KX := fun as X K KX h => CTW_of (M := M_L_kind (gT G)) (own := RL) (T := T_L_kind (gT G)) (B := B_L_kind) (by decide +kernel) hl rfl rfl tab_e k_L_kind h_L_kind rfl rfl rfl
  ⟨ivV_ok (ci := 11) (c_X11_kind hl) g_X11_kind.1 g_X11_kind.2 ml_L_48 in_X11_kind py_X11_kind rfl se_X11_kind, trivial⟩ (gd_use h).1 (gd_use h).2
theorem py_X11_breaks : plainY yX11_breaks 1 = true := by decide +kernel
theorem in_X11_breaks : gw (.instanceMethod yX11_breaks) = true := by decide +kernel
theorem se_X11_breaks : gw (.selects RX11 yX11_breaks yX11_breaks) = true := by decide +kernel
theorem ml_L_51 : gw (.methodLink RL 51 yX11_breaks) = true := by decide +kernel
def B_L_breaks : List (Nat × List (Nat × Instr × Nat)) := [(0, [(0, .aload_n 2, 1), (1, .iconst 0, 1), (2, .aload_n 0, 1), (3, .iload_n 1, 1), (4, .invokevirtual 51, 3), (7, .ifCond .eq 7, 3), (10, .lconst 1, 1), (11, .goto 4, 3)]), (14, [(14, .lconst 0, 1)]), (15, [(15, .lastore, 1), (16, .goto 6, 3)]), (20, [(20, .iconst 1, 1), (21, .ireturn, 1)]), (22, [(22, .iconst 0, 1), (23, .ireturn, 1)])]
def H_L_breaks : List HR := [(0, 16, 19, 1, 3, 21, "java/lang/IndexOutOfBoundsException")]
def T_L_breaks (tb : Nat → Option (Nat × Nat)) : List (Nat × IV) := [(204, ivV tb 11 1 6 1 1 6 1 (w_X11_breaks tb))]
def M_L_breaks (tb : Nat → Option (Nat × Nat)) : MT := (tb, [], [], [], [], ivOf (T_L_breaks tb), 1, 6, 1)
def r_L_breaks (tb : Nat → Option (Nat × Nat)) (K : Option AV → AX → Prop) : PT := lfp (wpm (M_L_breaks tb) B_L_breaks K (fun P pc L E X k z => hxF P pc L E X k z H_L_breaks))
def w_L_breaks (tb : Nat → Option (Nat × Nat)) : WP := fun as X K _ => gd ((ini0 as).length ≤ 4) (r_L_breaks tb K 0 (iniL as 4) [] X 0 0)
theorem k_L_breaks : B_L_breaks.all (blkB [] [] [] RL false cL_breaks) = true := by decide +kernel
theorem h_L_breaks : H_L_breaks.all (hrB RL cL_breaks) = true := by decide +kernel
theorem g_L_breaks : gw (.codeWith yL_breaks cL_breaks 4 (some .int) (H_L_breaks.map hh1)) = true ∧ gw (.initialized yL_breaks.cls) = true := by decide +kernel
theorem c_L_breaks {l : Launch} {G : GX} (hl : l.stackTraces = false) : ∀ as X K KX, w_L_breaks (gT G) as X K KX → CT l G yL_breaks (.codeWith yL_breaks cL_breaks 4 (some .int) (H_L_breaks.map hh1)) 8 123 1 6 as X K KX := fun as X K KX h => CTW_of (M := M_L_breaks (gT G)) (own := RL) (T := T_L_breaks (gT G)) (B := B_L_breaks) (by decide +kernel) hl rfl rfl tab_e k_L_breaks h_L_breaks rfl rfl rfl
  ⟨ivV_ok (ci := 11) (c_X11_breaks hl) g_X11_breaks.1 g_X11_breaks.2 ml_L_51 in_X11_breaks py_X11_breaks rfl se_X11_breaks, trivial⟩ (gd_use h).1 (gd_use h).2
theorem py_X11_blow : plainY yX11_blow 1 = true := by decide +kernel
theorem in_X11_blow : gw (.instanceMethod yX11_blow) = true := by decide +kernel
theorem se_X11_blow : gw (.selects RX11 yX11_blow yX11_blow) = true := by decide +kernel
theorem ml_L_55 : gw (.methodLink RL 55 yX11_blow) = true := by decide +kernel
def B_L_blow : List (Nat × List (Nat × Instr × Nat)) := [(0, [(0, .aload_n 2, 1), (1, .iconst 0, 1), (2, .aload_n 0, 1), (3, .iload_n 1, 1), (4, .invokevirtual 55, 3), (7, .ifCond .eq 7, 3), (10, .lconst 1, 1), (11, .goto 4, 3)]), (14, [(14, .lconst 0, 1)]), (15, [(15, .lastore, 1), (16, .goto 12, 3)]), (20, [(20, .iconst 1, 1), (21, .ireturn, 1)]), (23, [(23, .iconst 2, 1), (24, .ireturn, 1)]), (26, [(26, .iconst 3, 1), (27, .ireturn, 1)]), (28, [(28, .iconst 0, 1), (29, .ireturn, 1)])]
def H_L_blow : List HR := [(0, 16, 19, 1, 3, 21, "java/lang/IndexOutOfBoundsException"), (0, 16, 22, 1, 3, 26, "java/util/NoSuchElementException"), (0, 16, 25, 1, 3, 15, "java/lang/IllegalArgumentException")]
def T_L_blow (tb : Nat → Option (Nat × Nat)) : List (Nat × IV) := [(220, ivV tb 11 3 18 1 3 18 1 (w_X11_blow tb))]
def M_L_blow (tb : Nat → Option (Nat × Nat)) : MT := (tb, [], [], [], [], ivOf (T_L_blow tb), 3, 18, 1)
def r_L_blow (tb : Nat → Option (Nat × Nat)) (K : Option AV → AX → Prop) : PT := lfp (wpm (M_L_blow tb) B_L_blow K (fun P pc L E X k z => hxF P pc L E X k z H_L_blow))
def w_L_blow (tb : Nat → Option (Nat × Nat)) : WP := fun as X K _ => gd ((ini0 as).length ≤ 4) (r_L_blow tb K 0 (iniL as 4) [] X 0 0)
theorem k_L_blow : B_L_blow.all (blkB [] [] [] RL false cL_blow) = true := by decide +kernel
theorem h_L_blow : H_L_blow.all (hrB RL cL_blow) = true := by decide +kernel
theorem g_L_blow : gw (.codeWith yL_blow cL_blow 4 (some .int) (H_L_blow.map hh1)) = true ∧ gw (.initialized yL_blow.cls) = true := by decide +kernel
theorem c_L_blow {l : Launch} {G : GX} (hl : l.stackTraces = false) : ∀ as X K KX, w_L_blow (gT G) as X K KX → CT l G yL_blow (.codeWith yL_blow cL_blow 4 (some .int) (H_L_blow.map hh1)) 8 123 3 18 as X K KX := fun as X K KX h => CTW_of (M := M_L_blow (gT G)) (own := RL) (T := T_L_blow (gT G)) (B := B_L_blow) (by decide +kernel) hl rfl rfl tab_e k_L_blow h_L_blow rfl rfl rfl
  ⟨ivV_ok (ci := 11) (c_X11_blow hl) g_X11_blow.1 g_X11_blow.2 ml_L_55 in_X11_blow py_X11_blow rfl se_X11_blow, trivial⟩ (gd_use h).1 (gd_use h).2
theorem py_X11_sets : plainY yX11_sets 1 = true := by decide +kernel
theorem in_X11_sets : gw (.instanceMethod yX11_sets) = true := by decide +kernel
theorem se_X11_sets : gw (.selects RX11 yX11_sets yX11_sets) = true := by decide +kernel
theorem ml_L_58 : gw (.methodLink RL 58 yX11_sets) = true := by decide +kernel
def B_L_sets : List (Nat × List (Nat × Instr × Nat)) := [(0, [(0, .aload_n 2, 1), (1, .iconst 0, 1), (2, .aload_n 0, 1), (3, .iload_n 1, 1), (4, .invokevirtual 58, 3), (7, .ifCond .eq 7, 3), (10, .lconst 1, 1), (11, .goto 4, 3)]), (14, [(14, .lconst 0, 1)]), (15, [(15, .lastore, 1), (16, .goto 6, 3)]), (20, [(20, .iconst 1, 1), (21, .ireturn, 1)]), (22, [(22, .iconst 0, 1), (23, .ireturn, 1)])]
def H_L_sets : List HR := [(0, 16, 19, 1, 3, 21, "java/lang/IndexOutOfBoundsException")]
def T_L_sets (tb : Nat → Option (Nat × Nat)) : List (Nat × IV) := [(232, ivV tb 11 1 6 1 1 6 1 (w_X11_sets tb))]
def M_L_sets (tb : Nat → Option (Nat × Nat)) : MT := (tb, [], [], [], [], ivOf (T_L_sets tb), 1, 6, 1)
def r_L_sets (tb : Nat → Option (Nat × Nat)) (K : Option AV → AX → Prop) : PT := lfp (wpm (M_L_sets tb) B_L_sets K (fun P pc L E X k z => hxF P pc L E X k z H_L_sets))
def w_L_sets (tb : Nat → Option (Nat × Nat)) : WP := fun as X K _ => gd ((ini0 as).length ≤ 4) (r_L_sets tb K 0 (iniL as 4) [] X 0 0)
theorem k_L_sets : B_L_sets.all (blkB [] [] [] RL false cL_sets) = true := by decide +kernel
theorem h_L_sets : H_L_sets.all (hrB RL cL_sets) = true := by decide +kernel
theorem g_L_sets : gw (.codeWith yL_sets cL_sets 4 (some .int) (H_L_sets.map hh1)) = true ∧ gw (.initialized yL_sets.cls) = true := by decide +kernel
theorem c_L_sets {l : Launch} {G : GX} (hl : l.stackTraces = false) : ∀ as X K KX, w_L_sets (gT G) as X K KX → CT l G yL_sets (.codeWith yL_sets cL_sets 4 (some .int) (H_L_sets.map hh1)) 8 123 1 6 as X K KX := fun as X K KX h => CTW_of (M := M_L_sets (gT G)) (own := RL) (T := T_L_sets (gT G)) (B := B_L_sets) (by decide +kernel) hl rfl rfl tab_e k_L_sets h_L_sets rfl rfl rfl
  ⟨ivV_ok (ci := 11) (c_X11_sets hl) g_X11_sets.1 g_X11_sets.2 ml_L_58 in_X11_sets py_X11_sets rfl se_X11_sets, trivial⟩ (gd_use h).1 (gd_use h).2
theorem py_X11_since : plainY yX11_since 1 = true := by decide +kernel
theorem in_X11_since : gw (.instanceMethod yX11_since) = true := by decide +kernel
theorem se_X11_since : gw (.selects RX11 yX11_since yX11_since) = true := by decide +kernel
theorem ml_L_61 : gw (.methodLink RL 61 yX11_since) = true := by decide +kernel
def B_L_since : List (Nat × List (Nat × Instr × Nat)) := [(0, [(0, .aload_n 2, 1), (1, .iconst 0, 1), (2, .aload_n 0, 1), (3, .iload_n 1, 1), (4, .invokevirtual 61, 3), (7, .i2l, 1), (8, .lastore, 1), (9, .goto 6, 3)]), (13, [(13, .iconst 1, 1), (14, .ireturn, 1)]), (15, [(15, .iconst 0, 1), (16, .ireturn, 1)])]
def H_L_since : List HR := [(0, 9, 12, 1, 3, 21, "java/lang/IndexOutOfBoundsException")]
def T_L_since (tb : Nat → Option (Nat × Nat)) : List (Nat × IV) := [(244, ivV tb 11 1 6 1 1 6 1 (w_X11_since tb))]
def M_L_since (tb : Nat → Option (Nat × Nat)) : MT := (tb, [], [], [], [], ivOf (T_L_since tb), 1, 6, 1)
def r_L_since (tb : Nat → Option (Nat × Nat)) (K : Option AV → AX → Prop) : PT := lfp (wpm (M_L_since tb) B_L_since K (fun P pc L E X k z => hxF P pc L E X k z H_L_since))
def w_L_since (tb : Nat → Option (Nat × Nat)) : WP := fun as X K _ => gd ((ini0 as).length ≤ 4) (r_L_since tb K 0 (iniL as 4) [] X 0 0)
theorem k_L_since : B_L_since.all (blkB [] [] [] RL false cL_since) = true := by decide +kernel
theorem h_L_since : H_L_since.all (hrB RL cL_since) = true := by decide +kernel
theorem g_L_since : gw (.codeWith yL_since cL_since 4 (some .int) (H_L_since.map hh1)) = true ∧ gw (.initialized yL_since.cls) = true := by decide +kernel
theorem c_L_since {l : Launch} {G : GX} (hl : l.stackTraces = false) : ∀ as X K KX, w_L_since (gT G) as X K KX → CT l G yL_since (.codeWith yL_since cL_since 4 (some .int) (H_L_since.map hh1)) 8 123 1 6 as X K KX := fun as X K KX h => CTW_of (M := M_L_since (gT G)) (own := RL) (T := T_L_since (gT G)) (B := B_L_since) (by decide +kernel) hl rfl rfl tab_e k_L_since h_L_since rfl rfl rfl
  ⟨ivV_ok (ci := 11) (c_X11_since hl) g_X11_since.1 g_X11_since.2 ml_L_61 in_X11_since py_X11_since rfl se_X11_since, trivial⟩ (gd_use h).1 (gd_use h).2
theorem py_X11_hire : plainY yX11_hire 4 = true := by decide +kernel
theorem in_X11_hire : gw (.instanceMethod yX11_hire) = true := by decide +kernel
theorem se_X11_hire : gw (.selects RX11 yX11_hire yX11_hire) = true := by decide +kernel
theorem ml_L_64 : gw (.methodLink RL 64 yX11_hire) = true := by decide +kernel
def B_L_hire : List (Nat × List (Nat × Instr × Nat)) := [(0, [(0, .aload 5, 2), (2, .iconst 0, 1), (3, .aload_n 0, 1), (4, .iload_n 1, 1), (5, .iload_n 2, 1), (6, .iload_n 3, 1), (7, .iload 4, 2), (9, .invokevirtual 64, 3), (12, .i2l, 1), (13, .lastore, 1), (14, .goto 19, 3)]), (19, [(19, .iconst 1, 1), (20, .ireturn, 1)]), (23, [(23, .iconst 2, 1), (24, .ireturn, 1)]), (27, [(27, .iconst 3, 1), (28, .ireturn, 1)]), (31, [(31, .iconst 4, 1), (32, .ireturn, 1)]), (33, [(33, .iconst 0, 1), (34, .ireturn, 1)])]
def H_L_hire : List HR := [(0, 14, 17, 2, 6, 13, "java/lang/IllegalStateException"), (0, 14, 21, 2, 6, 21, "java/lang/IndexOutOfBoundsException"), (0, 14, 25, 2, 6, 15, "java/lang/IllegalArgumentException"), (0, 14, 29, 2, 6, 26, "java/util/NoSuchElementException")]
def T_L_hire (tb : Nat → Option (Nat × Nat)) : List (Nat × IV) := [(256, ivV tb 11 5 30 4 5 30 1 (w_X11_hire tb))]
def M_L_hire (tb : Nat → Option (Nat × Nat)) : MT := (tb, [], [], [], [], ivOf (T_L_hire tb), 5, 30, 1)
def r_L_hire (tb : Nat → Option (Nat × Nat)) (K : Option AV → AX → Prop) : PT := lfp (wpm (M_L_hire tb) B_L_hire K (fun P pc L E X k z => hxF P pc L E X k z H_L_hire))
def w_L_hire (tb : Nat → Option (Nat × Nat)) : WP := fun as X K _ => gd ((ini0 as).length ≤ 7) (r_L_hire tb K 0 (iniL as 7) [] X 0 0)
theorem k_L_hire : B_L_hire.all (blkB [] [] [] RL false cL_hire) = true := by decide +kernel
theorem h_L_hire : H_L_hire.all (hrB RL cL_hire) = true := by decide +kernel
theorem g_L_hire : gw (.codeWith yL_hire cL_hire 7 (some .int) (H_L_hire.map hh1)) = true ∧ gw (.initialized yL_hire.cls) = true := by decide +kernel
theorem c_L_hire {l : Launch} {G : GX} (hl : l.stackTraces = false) : ∀ as X K KX, w_L_hire (gT G) as X K KX → CT l G yL_hire (.codeWith yL_hire cL_hire 7 (some .int) (H_L_hire.map hh1)) 9 148 5 30 as X K KX := fun as X K KX h => CTW_of (M := M_L_hire (gT G)) (own := RL) (T := T_L_hire (gT G)) (B := B_L_hire) (by decide +kernel) hl rfl rfl tab_e k_L_hire h_L_hire rfl rfl rfl
  ⟨ivV_ok (ci := 11) (c_X11_hire hl) g_X11_hire.1 g_X11_hire.2 ml_L_64 in_X11_hire py_X11_hire rfl se_X11_hire, trivial⟩ (gd_use h).1 (gd_use h).2
theorem py_X11_second : plainY yX11_second 0 = true := by decide +kernel
theorem in_X11_second : gw (.instanceMethod yX11_second) = true := by decide +kernel
theorem se_X11_second : gw (.selects RX11 yX11_second yX11_second) = true := by decide +kernel
theorem ml_L_68 : gw (.methodLink RL 68 yX11_second) = true := by decide +kernel
def B_L_second : List (Nat × List (Nat × Instr × Nat)) := [(0, [(0, .aload_n 1, 1), (1, .iconst 0, 1), (2, .aload_n 0, 1), (3, .invokevirtual 68, 3), (6, .i2l, 1), (7, .lastore, 1), (8, .goto 6, 3)]), (12, [(12, .iconst 1, 1), (13, .ireturn, 1)]), (14, [(14, .iconst 0, 1), (15, .ireturn, 1)])]
def H_L_second : List HR := [(0, 8, 11, 1, 2, 13, "java/lang/IllegalStateException")]
def T_L_second (tb : Nat → Option (Nat × Nat)) : List (Nat × IV) := [(272, ivV tb 11 2 12 0 2 12 1 (w_X11_second tb))]
def M_L_second (tb : Nat → Option (Nat × Nat)) : MT := (tb, [], [], [], [], ivOf (T_L_second tb), 2, 12, 1)
def r_L_second (tb : Nat → Option (Nat × Nat)) (K : Option AV → AX → Prop) : PT := lfp (wpm (M_L_second tb) B_L_second K (fun P pc L E X k z => hxF P pc L E X k z H_L_second))
def w_L_second (tb : Nat → Option (Nat × Nat)) : WP := fun as X K _ => gd ((ini0 as).length ≤ 3) (r_L_second tb K 0 (iniL as 3) [] X 0 0)
theorem k_L_second : B_L_second.all (blkB [] [] [] RL false cL_second) = true := by decide +kernel
theorem h_L_second : H_L_second.all (hrB RL cL_second) = true := by decide +kernel
theorem g_L_second : gw (.codeWith yL_second cL_second 3 (some .int) (H_L_second.map hh1)) = true ∧ gw (.initialized yL_second.cls) = true := by decide +kernel
theorem c_L_second {l : Launch} {G : GX} (hl : l.stackTraces = false) : ∀ as X K KX, w_L_second (gT G) as X K KX → CT l G yL_second (.codeWith yL_second cL_second 3 (some .int) (H_L_second.map hh1)) 9 163 2 12 as X K KX := fun as X K KX h => CTW_of (M := M_L_second (gT G)) (own := RL) (T := T_L_second (gT G)) (B := B_L_second) (by decide +kernel) hl rfl rfl tab_e k_L_second h_L_second rfl rfl rfl
  ⟨ivV_ok (ci := 11) (c_X11_second hl) g_X11_second.1 g_X11_second.2 ml_L_68 in_X11_second py_X11_second rfl se_X11_second, trivial⟩ (gd_use h).1 (gd_use h).2
theorem py_X11_run : plainY yX11_run 1 = true := by decide +kernel
theorem in_X11_run : gw (.instanceMethod yX11_run) = true := by decide +kernel
theorem se_X11_run : gw (.selects RX11 yX11_run yX11_run) = true := by decide +kernel
theorem ml_L_72 : gw (.methodLink RL 72 yX11_run) = true := by decide +kernel
def B_L_run : List (Nat × List (Nat × Instr × Nat)) := [(0, [(0, .aload_n 2, 1), (1, .iconst 0, 1), (2, .aload_n 0, 1), (3, .iload_n 1, 1), (4, .invokevirtual 72, 3), (7, .i2l, 1), (8, .lastore, 1), (9, .goto 9, 3)]), (13, [(13, .iconst 1, 1), (14, .ireturn, 1)]), (16, [(16, .iconst 2, 1), (17, .ireturn, 1)]), (18, [(18, .iconst 0, 1), (19, .ireturn, 1)])]
def H_L_run : List HR := [(0, 9, 12, 1, 3, 13, "java/lang/IllegalStateException"), (0, 9, 15, 1, 3, 15, "java/lang/IllegalArgumentException")]
def T_L_run (tb : Nat → Option (Nat × Nat)) : List (Nat × IV) := [(288, ivV tb 11 2 12 1 2 12 1 (w_X11_run tb))]
def M_L_run (tb : Nat → Option (Nat × Nat)) : MT := (tb, [], [], [], [], ivOf (T_L_run tb), 2, 12, 1)
def r_L_run (tb : Nat → Option (Nat × Nat)) (K : Option AV → AX → Prop) : PT := lfp (wpm (M_L_run tb) B_L_run K (fun P pc L E X k z => hxF P pc L E X k z H_L_run))
def w_L_run (tb : Nat → Option (Nat × Nat)) : WP := fun as X K _ => gd ((ini0 as).length ≤ 4) (r_L_run tb K 0 (iniL as 4) [] X 0 0)
theorem k_L_run : B_L_run.all (blkB [] [] [] RL false cL_run) = true := by decide +kernel
theorem h_L_run : H_L_run.all (hrB RL cL_run) = true := by decide +kernel
theorem g_L_run : gw (.codeWith yL_run cL_run 4 (some .int) (H_L_run.map hh1)) = true ∧ gw (.initialized yL_run.cls) = true := by decide +kernel
theorem c_L_run {l : Launch} {G : GX} (hl : l.stackTraces = false) : ∀ as X K KX, w_L_run (gT G) as X K KX → CT l G yL_run (.codeWith yL_run cL_run 4 (some .int) (H_L_run.map hh1)) 9 166 2 12 as X K KX := fun as X K KX h => CTW_of (M := M_L_run (gT G)) (own := RL) (T := T_L_run (gT G)) (B := B_L_run) (by decide +kernel) hl rfl rfl tab_e k_L_run h_L_run rfl rfl rfl
  ⟨ivV_ok (ci := 11) (c_X11_run hl) g_X11_run.1 g_X11_run.2 ml_L_72 in_X11_run py_X11_run rfl se_X11_run, trivial⟩ (gd_use h).1 (gd_use h).2
theorem py_X11_hand : plainY yX11_hand 1 = true := by decide +kernel
theorem in_X11_hand : gw (.instanceMethod yX11_hand) = true := by decide +kernel
theorem se_X11_hand : gw (.selects RX11 yX11_hand yX11_hand) = true := by decide +kernel
theorem ml_L_75 : gw (.methodLink RL 75 yX11_hand) = true := by decide +kernel
def B_L_hand : List (Nat × List (Nat × Instr × Nat)) := [(0, [(0, .aload_n 2, 1), (1, .iconst 0, 1), (2, .aload_n 0, 1), (3, .iload_n 1, 1), (4, .invokevirtual 75, 3), (7, .ifCond .eq 7, 3), (10, .lconst 1, 1), (11, .goto 4, 3)]), (14, [(14, .lconst 0, 1)]), (15, [(15, .lastore, 1), (16, .goto 15, 3)]), (20, [(20, .iconst 1, 1), (21, .ireturn, 1)]), (23, [(23, .iconst 2, 1), (24, .ireturn, 1)]), (26, [(26, .iconst 3, 1), (27, .ireturn, 1)]), (29, [(29, .iconst 4, 1), (30, .ireturn, 1)]), (31, [(31, .iconst 0, 1), (32, .ireturn, 1)])]
def H_L_hand : List HR := [(0, 16, 19, 1, 3, 13, "java/lang/IllegalStateException"), (0, 16, 22, 1, 3, 21, "java/lang/IndexOutOfBoundsException"), (0, 16, 25, 1, 3, 15, "java/lang/IllegalArgumentException"), (0, 16, 28, 1, 3, 26, "java/util/NoSuchElementException")]
def T_L_hand (tb : Nat → Option (Nat × Nat)) : List (Nat × IV) := [(300, ivV tb 11 5 30 1 5 30 1 (w_X11_hand tb))]
def M_L_hand (tb : Nat → Option (Nat × Nat)) : MT := (tb, [], [], [], [], ivOf (T_L_hand tb), 5, 30, 1)
def r_L_hand (tb : Nat → Option (Nat × Nat)) (K : Option AV → AX → Prop) : PT := lfp (wpm (M_L_hand tb) B_L_hand K (fun P pc L E X k z => hxF P pc L E X k z H_L_hand))
def w_L_hand (tb : Nat → Option (Nat × Nat)) : WP := fun as X K _ => gd ((ini0 as).length ≤ 4) (r_L_hand tb K 0 (iniL as 4) [] X 0 0)
theorem k_L_hand : B_L_hand.all (blkB [] [] [] RL false cL_hand) = true := by decide +kernel
theorem h_L_hand : H_L_hand.all (hrB RL cL_hand) = true := by decide +kernel
theorem g_L_hand : gw (.codeWith yL_hand cL_hand 4 (some .int) (H_L_hand.map hh1)) = true ∧ gw (.initialized yL_hand.cls) = true := by decide +kernel
theorem c_L_hand {l : Launch} {G : GX} (hl : l.stackTraces = false) : ∀ as X K KX, w_L_hand (gT G) as X K KX → CT l G yL_hand (.codeWith yL_hand cL_hand 4 (some .int) (H_L_hand.map hh1)) 9 144 5 30 as X K KX := fun as X K KX h => CTW_of (M := M_L_hand (gT G)) (own := RL) (T := T_L_hand (gT G)) (B := B_L_hand) (by decide +kernel) hl rfl rfl tab_e k_L_hand h_L_hand rfl rfl rfl
  ⟨ivV_ok (ci := 11) (c_X11_hand hl) g_X11_hand.1 g_X11_hand.2 ml_L_75 in_X11_hand py_X11_hand rfl se_X11_hand, trivial⟩ (gd_use h).1 (gd_use h).2
theorem py_X11_extra : plainY yX11_extra 1 = true := by decide +kernel
theorem in_X11_extra : gw (.instanceMethod yX11_extra) = true := by decide +kernel
theorem se_X11_extra : gw (.selects RX11 yX11_extra yX11_extra) = true := by decide +kernel
theorem ml_L_78 : gw (.methodLink RL 78 yX11_extra) = true := by decide +kernel
def B_L_extra : List (Nat × List (Nat × Instr × Nat)) := [(0, [(0, .aload_n 2, 1), (1, .iconst 0, 1), (2, .aload_n 0, 1), (3, .iload_n 1, 1), (4, .invokevirtual 78, 3), (7, .i2l, 1), (8, .lastore, 1), (9, .goto 9, 3)]), (13, [(13, .iconst 1, 1), (14, .ireturn, 1)]), (16, [(16, .iconst 2, 1), (17, .ireturn, 1)]), (18, [(18, .iconst 0, 1), (19, .ireturn, 1)])]
def H_L_extra : List HR := [(0, 9, 12, 1, 3, 13, "java/lang/IllegalStateException"), (0, 9, 15, 1, 3, 15, "java/lang/IllegalArgumentException")]
def T_L_extra (tb : Nat → Option (Nat × Nat)) : List (Nat × IV) := [(312, ivV tb 11 2 12 1 2 12 1 (w_X11_extra tb))]
def M_L_extra (tb : Nat → Option (Nat × Nat)) : MT := (tb, [], [], [], [], ivOf (T_L_extra tb), 2, 12, 1)
def r_L_extra (tb : Nat → Option (Nat × Nat)) (K : Option AV → AX → Prop) : PT := lfp (wpm (M_L_extra tb) B_L_extra K (fun P pc L E X k z => hxF P pc L E X k z H_L_extra))
def w_L_extra (tb : Nat → Option (Nat × Nat)) : WP := fun as X K _ => gd ((ini0 as).length ≤ 4) (r_L_extra tb K 0 (iniL as 4) [] X 0 0)
theorem k_L_extra : B_L_extra.all (blkB [] [] [] RL false cL_extra) = true := by decide +kernel
theorem h_L_extra : H_L_extra.all (hrB RL cL_extra) = true := by decide +kernel
theorem g_L_extra : gw (.codeWith yL_extra cL_extra 4 (some .int) (H_L_extra.map hh1)) = true ∧ gw (.initialized yL_extra.cls) = true := by decide +kernel
theorem c_L_extra {l : Launch} {G : GX} (hl : l.stackTraces = false) : ∀ as X K KX, w_L_extra (gT G) as X K KX → CT l G yL_extra (.codeWith yL_extra cL_extra 4 (some .int) (H_L_extra.map hh1)) 9 142 2 12 as X K KX := fun as X K KX h => CTW_of (M := M_L_extra (gT G)) (own := RL) (T := T_L_extra (gT G)) (B := B_L_extra) (by decide +kernel) hl rfl rfl tab_e k_L_extra h_L_extra rfl rfl rfl
  ⟨ivV_ok (ci := 11) (c_X11_extra hl) g_X11_extra.1 g_X11_extra.2 ml_L_78 in_X11_extra py_X11_extra rfl se_X11_extra, trivial⟩ (gd_use h).1 (gd_use h).2
theorem py_X11_end : plainY yX11_end 1 = true := by decide +kernel
theorem in_X11_end : gw (.instanceMethod yX11_end) = true := by decide +kernel
theorem se_X11_end : gw (.selects RX11 yX11_end yX11_end) = true := by decide +kernel
theorem ml_L_81 : gw (.methodLink RL 81 yX11_end) = true := by decide +kernel
def B_L_end : List (Nat × List (Nat × Instr × Nat)) := [(0, [(0, .aload_n 2, 1), (1, .iconst 0, 1), (2, .aload_n 0, 1), (3, .iload_n 1, 1), (4, .invokevirtual 81, 3), (7, .lastore, 1), (8, .goto 9, 3)]), (12, [(12, .iconst 1, 1), (13, .ireturn, 1)]), (15, [(15, .iconst 2, 1), (16, .ireturn, 1)]), (17, [(17, .iconst 0, 1), (18, .ireturn, 1)])]
def H_L_end : List HR := [(0, 8, 11, 1, 3, 13, "java/lang/IllegalStateException"), (0, 8, 14, 1, 3, 15, "java/lang/IllegalArgumentException")]
def T_L_end (tb : Nat → Option (Nat × Nat)) : List (Nat × IV) := [(324, ivV tb 11 3 2060 1 3 2060 3 (w_X11_end tb))]
def M_L_end (tb : Nat → Option (Nat × Nat)) : MT := (tb, [], [], [], [], ivOf (T_L_end tb), 3, 2060, 1)
def r_L_end (tb : Nat → Option (Nat × Nat)) (K : Option AV → AX → Prop) : PT := lfp (wpm (M_L_end tb) B_L_end K (fun P pc L E X k z => hxF P pc L E X k z H_L_end))
def w_L_end (tb : Nat → Option (Nat × Nat)) : WP := fun as X K _ => gd ((ini0 as).length ≤ 4) (r_L_end tb K 0 (iniL as 4) [] X 0 0)
theorem k_L_end : B_L_end.all (blkB [] [] [] RL false cL_end) = true := by decide +kernel
theorem h_L_end : H_L_end.all (hrB RL cL_end) = true := by decide +kernel
theorem g_L_end : gw (.codeWith yL_end cL_end 4 (some .int) (H_L_end.map hh1)) = true ∧ gw (.initialized yL_end.cls) = true := by decide +kernel
theorem c_L_end {l : Launch} {G : GX} (hl : l.stackTraces = false) : ∀ as X K KX, w_L_end (gT G) as X K KX → CT l G yL_end (.codeWith yL_end cL_end 4 (some .int) (H_L_end.map hh1)) 9 142 3 2060 as X K KX := fun as X K KX h => CTW_of (M := M_L_end (gT G)) (own := RL) (T := T_L_end (gT G)) (B := B_L_end) (by decide +kernel) hl rfl rfl tab_e k_L_end h_L_end rfl rfl rfl
  ⟨ivV_ok (ci := 11) (c_X11_end hl) g_X11_end.1 g_X11_end.2 ml_L_81 in_X11_end py_X11_end rfl se_X11_end, trivial⟩ (gd_use h).1 (gd_use h).2
theorem py_X11_pay : plainY yX11_pay 1 = true := by decide +kernel
theorem in_X11_pay : gw (.instanceMethod yX11_pay) = true := by decide +kernel
theorem se_X11_pay : gw (.selects RX11 yX11_pay yX11_pay) = true := by decide +kernel
theorem ml_L_85 : gw (.methodLink RL 85 yX11_pay) = true := by decide +kernel
def B_L_pay : List (Nat × List (Nat × Instr × Nat)) := [(0, [(0, .aload_n 3, 1), (1, .iconst 0, 1), (2, .aload_n 0, 1), (3, .lload_n 1, 1), (4, .invokevirtual 85, 3), (7, .lastore, 1), (8, .goto 11, 3)]), (13, [(13, .iconst 1, 1), (14, .ireturn, 1)]), (17, [(17, .iconst 2, 1), (18, .ireturn, 1)]), (19, [(19, .iconst 0, 1), (20, .ireturn, 1)])]
def H_L_pay : List HR := [(0, 8, 11, 2, 4, 13, "java/lang/IllegalStateException"), (0, 8, 15, 2, 4, 15, "java/lang/IllegalArgumentException")]
def T_L_pay (tb : Nat → Option (Nat × Nat)) : List (Nat × IV) := [(340, ivV tb 11 3 18 1 3 18 3 (w_X11_pay tb))]
def M_L_pay (tb : Nat → Option (Nat × Nat)) : MT := (tb, [], [], [], [], ivOf (T_L_pay tb), 3, 18, 1)
def r_L_pay (tb : Nat → Option (Nat × Nat)) (K : Option AV → AX → Prop) : PT := lfp (wpm (M_L_pay tb) B_L_pay K (fun P pc L E X k z => hxF P pc L E X k z H_L_pay))
def w_L_pay (tb : Nat → Option (Nat × Nat)) : WP := fun as X K _ => gd ((ini0 as).length ≤ 5) (r_L_pay tb K 0 (iniL as 5) [] X 0 0)
theorem k_L_pay : B_L_pay.all (blkB [] [] [] RL false cL_pay) = true := by decide +kernel
theorem h_L_pay : H_L_pay.all (hrB RL cL_pay) = true := by decide +kernel
theorem g_L_pay : gw (.codeWith yL_pay cL_pay 5 (some .int) (H_L_pay.map hh1)) = true ∧ gw (.initialized yL_pay.cls) = true := by decide +kernel
theorem c_L_pay {l : Launch} {G : GX} (hl : l.stackTraces = false) : ∀ as X K KX, w_L_pay (gT G) as X K KX → CT l G yL_pay (.codeWith yL_pay cL_pay 5 (some .int) (H_L_pay.map hh1)) 9 143 3 18 as X K KX := fun as X K KX h => CTW_of (M := M_L_pay (gT G)) (own := RL) (T := T_L_pay (gT G)) (B := B_L_pay) (by decide +kernel) hl rfl rfl tab_e k_L_pay h_L_pay rfl rfl rfl
  ⟨ivV_ok (ci := 11) (c_X11_pay hl) g_X11_pay.1 g_X11_pay.2 ml_L_85 in_X11_pay py_X11_pay rfl se_X11_pay, trivial⟩ (gd_use h).1 (gd_use h).2
theorem py_X11_fare : plainY yX11_fare 0 = true := by decide +kernel
theorem in_X11_fare : gw (.instanceMethod yX11_fare) = true := by decide +kernel
theorem se_X11_fare : gw (.selects RX11 yX11_fare yX11_fare) = true := by decide +kernel
theorem ml_L_89 : gw (.methodLink RL 89 yX11_fare) = true := by decide +kernel
def B_L_fare : List (Nat × List (Nat × Instr × Nat)) := [(0, [(0, .aload_n 1, 1), (1, .iconst 0, 1), (2, .aload_n 0, 1), (3, .invokevirtual 89, 3), (6, .lastore, 1), (7, .goto 6, 3)]), (11, [(11, .iconst 1, 1), (12, .ireturn, 1)]), (13, [(13, .iconst 0, 1), (14, .ireturn, 1)])]
def H_L_fare : List HR := [(0, 7, 10, 1, 2, 26, "java/util/NoSuchElementException")]
def T_L_fare (tb : Nat → Option (Nat × Nat)) : List (Nat × IV) := [(356, ivV tb 11 1 6 0 1 6 3 (w_X11_fare tb))]
def M_L_fare (tb : Nat → Option (Nat × Nat)) : MT := (tb, [], [], [], [], ivOf (T_L_fare tb), 1, 6, 1)
def r_L_fare (tb : Nat → Option (Nat × Nat)) (K : Option AV → AX → Prop) : PT := lfp (wpm (M_L_fare tb) B_L_fare K (fun P pc L E X k z => hxF P pc L E X k z H_L_fare))
def w_L_fare (tb : Nat → Option (Nat × Nat)) : WP := fun as X K _ => gd ((ini0 as).length ≤ 3) (r_L_fare tb K 0 (iniL as 3) [] X 0 0)
theorem k_L_fare : B_L_fare.all (blkB [] [] [] RL false cL_fare) = true := by decide +kernel
theorem h_L_fare : H_L_fare.all (hrB RL cL_fare) = true := by decide +kernel
theorem g_L_fare : gw (.codeWith yL_fare cL_fare 3 (some .int) (H_L_fare.map hh1)) = true ∧ gw (.initialized yL_fare.cls) = true := by decide +kernel
theorem c_L_fare {l : Launch} {G : GX} (hl : l.stackTraces = false) : ∀ as X K KX, w_L_fare (gT G) as X K KX → CT l G yL_fare (.codeWith yL_fare cL_fare 3 (some .int) (H_L_fare.map hh1)) 8 121 1 6 as X K KX := fun as X K KX h => CTW_of (M := M_L_fare (gT G)) (own := RL) (T := T_L_fare (gT G)) (B := B_L_fare) (by decide +kernel) hl rfl rfl tab_e k_L_fare h_L_fare rfl rfl rfl
  ⟨ivV_ok (ci := 11) (c_X11_fare hl) g_X11_fare.1 g_X11_fare.2 ml_L_89 in_X11_fare py_X11_fare rfl se_X11_fare, trivial⟩ (gd_use h).1 (gd_use h).2
