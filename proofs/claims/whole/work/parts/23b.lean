theorem py_X11_part : plainY yX11_part 1 = true := by decide +kernel
theorem in_X11_part : gw (.instanceMethod yX11_part) = true := by decide +kernel
theorem se_X11_part : gw (.selects RX11 yX11_part yX11_part) = true := by decide +kernel
theorem ml_L_93 : gw (.methodLink RL 93 yX11_part) = true := by decide +kernel
def B_L_part : List (Nat × List (Nat × Instr × Nat)) := [(0, [(0, .aload_n 2, 1), (1, .iconst 0, 1), (2, .aload_n 0, 1), (3, .iload_n 1, 1), (4, .invokevirtual 93, 3), (7, .i2l, 1), (8, .lastore, 1), (9, .goto 9, 3)]), (13, [(13, .iconst 1, 1), (14, .ireturn, 1)]), (16, [(16, .iconst 2, 1), (17, .ireturn, 1)]), (18, [(18, .iconst 0, 1), (19, .ireturn, 1)])]
def H_L_part : List HR := [(0, 9, 12, 1, 3, 26, "java/util/NoSuchElementException"), (0, 9, 15, 1, 3, 15, "java/lang/IllegalArgumentException")]
def T_L_part (tb : Nat → Option (Nat × Nat)) : List (Nat × IV) := [(372, ivV tb 11 2 12 1 2 12 1 (w_X11_part tb))]
def M_L_part (tb : Nat → Option (Nat × Nat)) : MT := (tb, [], [], [], [], ivOf (T_L_part tb), 2, 12, 1)
def r_L_part (tb : Nat → Option (Nat × Nat)) (K : Option AV → AX → Prop) : PT := lfp (wpm (M_L_part tb) B_L_part K (fun P pc L E X k z => hxF P pc L E X k z H_L_part))
def w_L_part (tb : Nat → Option (Nat × Nat)) : WP := fun as X K _ => gd ((ini0 as).length ≤ 4) (r_L_part tb K 0 (iniL as 4) [] X 0 0)
theorem k_L_part : B_L_part.all (blkB [] [] [] RL false cL_part) = true := by decide +kernel
theorem h_L_part : H_L_part.all (hrB RL cL_part) = true := by decide +kernel
theorem g_L_part : gw (.codeWith yL_part cL_part 4 (some .int) (H_L_part.map hh1)) = true ∧ gw (.initialized yL_part.cls) = true := by decide +kernel
theorem c_L_part {l : Launch} {G : GX} (hl : l.stackTraces = false) : ∀ as X K KX, w_L_part (gT G) as X K KX → CT l G yL_part (.codeWith yL_part cL_part 4 (some .int) (H_L_part.map hh1)) 8 122 2 12 as X K KX := fun as X K KX h => CTW_of (M := M_L_part (gT G)) (own := RL) (T := T_L_part (gT G)) (B := B_L_part) (by decide +kernel) hl rfl rfl tab_e k_L_part h_L_part rfl rfl rfl
  ⟨ivV_ok (ci := 11) (c_X11_part hl) g_X11_part.1 g_X11_part.2 ml_L_93 in_X11_part py_X11_part rfl se_X11_part, trivial⟩ (gd_use h).1 (gd_use h).2
theorem py_X11_about : plainY yX11_about 1 = true := by decide +kernel
theorem in_X11_about : gw (.instanceMethod yX11_about) = true := by decide +kernel
theorem se_X11_about : gw (.selects RX11 yX11_about yX11_about) = true := by decide +kernel
theorem ml_L_96 : gw (.methodLink RL 96 yX11_about) = true := by decide +kernel
def B_L_about : List (Nat × List (Nat × Instr × Nat)) := [(0, [(0, .aload_n 2, 1), (1, .iconst 0, 1), (2, .aload_n 0, 1), (3, .iload_n 1, 1), (4, .invokevirtual 96, 3), (7, .i2l, 1), (8, .lastore, 1), (9, .goto 6, 3)]), (13, [(13, .iconst 1, 1), (14, .ireturn, 1)]), (15, [(15, .iconst 0, 1), (16, .ireturn, 1)])]
def H_L_about : List HR := [(0, 9, 12, 1, 3, 26, "java/util/NoSuchElementException")]
def T_L_about (tb : Nat → Option (Nat × Nat)) : List (Nat × IV) := [(384, ivV tb 11 1 6 1 1 6 1 (w_X11_about tb))]
def M_L_about (tb : Nat → Option (Nat × Nat)) : MT := (tb, [], [], [], [], ivOf (T_L_about tb), 1, 6, 1)
def r_L_about (tb : Nat → Option (Nat × Nat)) (K : Option AV → AX → Prop) : PT := lfp (wpm (M_L_about tb) B_L_about K (fun P pc L E X k z => hxF P pc L E X k z H_L_about))
def w_L_about (tb : Nat → Option (Nat × Nat)) : WP := fun as X K _ => gd ((ini0 as).length ≤ 4) (r_L_about tb K 0 (iniL as 4) [] X 0 0)
theorem k_L_about : B_L_about.all (blkB [] [] [] RL false cL_about) = true := by decide +kernel
theorem h_L_about : H_L_about.all (hrB RL cL_about) = true := by decide +kernel
theorem g_L_about : gw (.codeWith yL_about cL_about 4 (some .int) (H_L_about.map hh1)) = true ∧ gw (.initialized yL_about.cls) = true := by decide +kernel
theorem c_L_about {l : Launch} {G : GX} (hl : l.stackTraces = false) : ∀ as X K KX, w_L_about (gT G) as X K KX → CT l G yL_about (.codeWith yL_about cL_about 4 (some .int) (H_L_about.map hh1)) 8 122 1 6 as X K KX := fun as X K KX h => CTW_of (M := M_L_about (gT G)) (own := RL) (T := T_L_about (gT G)) (B := B_L_about) (by decide +kernel) hl rfl rfl tab_e k_L_about h_L_about rfl rfl rfl
  ⟨ivV_ok (ci := 11) (c_X11_about hl) g_X11_about.1 g_X11_about.2 ml_L_96 in_X11_about py_X11_about rfl se_X11_about, trivial⟩ (gd_use h).1 (gd_use h).2
theorem py_X11_dark : plainY yX11_dark 1 = true := by decide +kernel
theorem in_X11_dark : gw (.instanceMethod yX11_dark) = true := by decide +kernel
theorem se_X11_dark : gw (.selects RX11 yX11_dark yX11_dark) = true := by decide +kernel
theorem ml_L_99 : gw (.methodLink RL 99 yX11_dark) = true := by decide +kernel
def B_L_dark : List (Nat × List (Nat × Instr × Nat)) := [(0, [(0, .aload_n 2, 1), (1, .iconst 0, 1), (2, .aload_n 0, 1), (3, .iload_n 1, 1), (4, .invokevirtual 99, 3), (7, .i2l, 1), (8, .lastore, 1), (9, .goto 6, 3)]), (13, [(13, .iconst 1, 1), (14, .ireturn, 1)]), (15, [(15, .iconst 0, 1), (16, .ireturn, 1)])]
def H_L_dark : List HR := [(0, 9, 12, 1, 3, 26, "java/util/NoSuchElementException")]
def T_L_dark (tb : Nat → Option (Nat × Nat)) : List (Nat × IV) := [(396, ivV tb 11 1 6 1 1 6 1 (w_X11_dark tb))]
def M_L_dark (tb : Nat → Option (Nat × Nat)) : MT := (tb, [], [], [], [], ivOf (T_L_dark tb), 1, 6, 1)
def r_L_dark (tb : Nat → Option (Nat × Nat)) (K : Option AV → AX → Prop) : PT := lfp (wpm (M_L_dark tb) B_L_dark K (fun P pc L E X k z => hxF P pc L E X k z H_L_dark))
def w_L_dark (tb : Nat → Option (Nat × Nat)) : WP := fun as X K _ => gd ((ini0 as).length ≤ 4) (r_L_dark tb K 0 (iniL as 4) [] X 0 0)
theorem k_L_dark : B_L_dark.all (blkB [] [] [] RL false cL_dark) = true := by decide +kernel
theorem h_L_dark : H_L_dark.all (hrB RL cL_dark) = true := by decide +kernel
theorem g_L_dark : gw (.codeWith yL_dark cL_dark 4 (some .int) (H_L_dark.map hh1)) = true ∧ gw (.initialized yL_dark.cls) = true := by decide +kernel
theorem c_L_dark {l : Launch} {G : GX} (hl : l.stackTraces = false) : ∀ as X K KX, w_L_dark (gT G) as X K KX → CT l G yL_dark (.codeWith yL_dark cL_dark 4 (some .int) (H_L_dark.map hh1)) 8 122 1 6 as X K KX := fun as X K KX h => CTW_of (M := M_L_dark (gT G)) (own := RL) (T := T_L_dark (gT G)) (B := B_L_dark) (by decide +kernel) hl rfl rfl tab_e k_L_dark h_L_dark rfl rfl rfl
  ⟨ivV_ok (ci := 11) (c_X11_dark hl) g_X11_dark.1 g_X11_dark.2 ml_L_99 in_X11_dark py_X11_dark rfl se_X11_dark, trivial⟩ (gd_use h).1 (gd_use h).2
theorem py_X11_receipt : plainY yX11_receipt 2 = true := by decide +kernel
theorem in_X11_receipt : gw (.instanceMethod yX11_receipt) = true := by decide +kernel
theorem se_X11_receipt : gw (.selects RX11 yX11_receipt yX11_receipt) = true := by decide +kernel
theorem ml_L_102 : gw (.methodLink RL 102 yX11_receipt) = true := by decide +kernel
def B_L_receipt : List (Nat × List (Nat × Instr × Nat)) := [(0, [(0, .aload_n 3, 1), (1, .iconst 0, 1), (2, .aload_n 0, 1), (3, .iload_n 1, 1), (4, .iload_n 2, 1), (5, .invokevirtual 102, 3), (8, .i2l, 1), (9, .lastore, 1), (10, .goto 7, 3)]), (15, [(15, .iconst 1, 1), (16, .ireturn, 1)]), (17, [(17, .iconst 0, 1), (18, .ireturn, 1)])]
def H_L_receipt : List HR := [(0, 10, 13, 2, 4, 26, "java/util/NoSuchElementException")]
def T_L_receipt (tb : Nat → Option (Nat × Nat)) : List (Nat × IV) := [(408, ivV tb 11 1 6 2 1 6 1 (w_X11_receipt tb))]
def M_L_receipt (tb : Nat → Option (Nat × Nat)) : MT := (tb, [], [], [], [], ivOf (T_L_receipt tb), 1, 6, 1)
def r_L_receipt (tb : Nat → Option (Nat × Nat)) (K : Option AV → AX → Prop) : PT := lfp (wpm (M_L_receipt tb) B_L_receipt K (fun P pc L E X k z => hxF P pc L E X k z H_L_receipt))
def w_L_receipt (tb : Nat → Option (Nat × Nat)) : WP := fun as X K _ => gd ((ini0 as).length ≤ 5) (r_L_receipt tb K 0 (iniL as 5) [] X 0 0)
theorem k_L_receipt : B_L_receipt.all (blkB [] [] [] RL false cL_receipt) = true := by decide +kernel
theorem h_L_receipt : H_L_receipt.all (hrB RL cL_receipt) = true := by decide +kernel
theorem g_L_receipt : gw (.codeWith yL_receipt cL_receipt 5 (some .int) (H_L_receipt.map hh1)) = true ∧ gw (.initialized yL_receipt.cls) = true := by decide +kernel
theorem c_L_receipt {l : Launch} {G : GX} (hl : l.stackTraces = false) : ∀ as X K KX, w_L_receipt (gT G) as X K KX → CT l G yL_receipt (.codeWith yL_receipt cL_receipt 5 (some .int) (H_L_receipt.map hh1)) 8 124 1 6 as X K KX := fun as X K KX h => CTW_of (M := M_L_receipt (gT G)) (own := RL) (T := T_L_receipt (gT G)) (B := B_L_receipt) (by decide +kernel) hl rfl rfl tab_e k_L_receipt h_L_receipt rfl rfl rfl
  ⟨ivV_ok (ci := 11) (c_X11_receipt hl) g_X11_receipt.1 g_X11_receipt.2 ml_L_102 in_X11_receipt py_X11_receipt rfl se_X11_receipt, trivial⟩ (gd_use h).1 (gd_use h).2
theorem py_X11_again : plainY yX11_again 0 = true := by decide +kernel
theorem in_X11_again : gw (.instanceMethod yX11_again) = true := by decide +kernel
theorem se_X11_again : gw (.selects RX11 yX11_again yX11_again) = true := by decide +kernel
theorem ml_L_105 : gw (.methodLink RL 105 yX11_again) = true := by decide +kernel
def B_L_again : List (Nat × List (Nat × Instr × Nat)) := [(0, [(0, .aload_n 1, 1), (1, .iconst 0, 1), (2, .aload_n 0, 1), (3, .invokevirtual 105, 3), (6, .lastore, 1), (7, .goto 6, 3)]), (11, [(11, .iconst 1, 1), (12, .ireturn, 1)]), (13, [(13, .iconst 0, 1), (14, .ireturn, 1)])]
def H_L_again : List HR := [(0, 7, 10, 1, 2, 13, "java/lang/IllegalStateException")]
def T_L_again (tb : Nat → Option (Nat × Nat)) : List (Nat × IV) := [(420, ivV tb 11 2 12 0 2 12 3 (w_X11_again tb))]
def M_L_again (tb : Nat → Option (Nat × Nat)) : MT := (tb, [], [], [], [], ivOf (T_L_again tb), 2, 12, 1)
def r_L_again (tb : Nat → Option (Nat × Nat)) (K : Option AV → AX → Prop) : PT := lfp (wpm (M_L_again tb) B_L_again K (fun P pc L E X k z => hxF P pc L E X k z H_L_again))
def w_L_again (tb : Nat → Option (Nat × Nat)) : WP := fun as X K _ => gd ((ini0 as).length ≤ 3) (r_L_again tb K 0 (iniL as 3) [] X 0 0)
theorem k_L_again : B_L_again.all (blkB [] [] [] RL false cL_again) = true := by decide +kernel
theorem h_L_again : H_L_again.all (hrB RL cL_again) = true := by decide +kernel
theorem g_L_again : gw (.codeWith yL_again cL_again 3 (some .int) (H_L_again.map hh1)) = true ∧ gw (.initialized yL_again.cls) = true := by decide +kernel
theorem c_L_again {l : Launch} {G : GX} (hl : l.stackTraces = false) : ∀ as X K KX, w_L_again (gT G) as X K KX → CT l G yL_again (.codeWith yL_again cL_again 3 (some .int) (H_L_again.map hh1)) 9 166 2 12 as X K KX := fun as X K KX h => CTW_of (M := M_L_again (gT G)) (own := RL) (T := T_L_again (gT G)) (B := B_L_again) (by decide +kernel) hl rfl rfl tab_e k_L_again h_L_again rfl rfl rfl
  ⟨ivV_ok (ci := 11) (c_X11_again hl) g_X11_again.1 g_X11_again.2 ml_L_105 in_X11_again py_X11_again rfl se_X11_again, trivial⟩ (gd_use h).1 (gd_use h).2
theorem py_X11_leg : plainY yX11_leg 2 = true := by decide +kernel
theorem in_X11_leg : gw (.instanceMethod yX11_leg) = true := by decide +kernel
theorem se_X11_leg : gw (.selects RX11 yX11_leg yX11_leg) = true := by decide +kernel
theorem ml_L_108 : gw (.methodLink RL 108 yX11_leg) = true := by decide +kernel
def B_L_leg : List (Nat × List (Nat × Instr × Nat)) := [(0, [(0, .aload_n 3, 1), (1, .iconst 0, 1), (2, .aload_n 0, 1), (3, .iload_n 1, 1), (4, .iload_n 2, 1), (5, .invokevirtual 108, 3), (8, .i2l, 1), (9, .lastore, 1), (10, .goto 7, 3)]), (15, [(15, .iconst 1, 1), (16, .ireturn, 1)]), (17, [(17, .iconst 0, 1), (18, .ireturn, 1)])]
def H_L_leg : List HR := [(0, 10, 13, 2, 4, 15, "java/lang/IllegalArgumentException")]
def T_L_leg (tb : Nat → Option (Nat × Nat)) : List (Nat × IV) := [(432, ivV tb 11 1 6 2 1 6 1 (w_X11_leg tb))]
def M_L_leg (tb : Nat → Option (Nat × Nat)) : MT := (tb, [], [], [], [], ivOf (T_L_leg tb), 1, 6, 1)
def r_L_leg (tb : Nat → Option (Nat × Nat)) (K : Option AV → AX → Prop) : PT := lfp (wpm (M_L_leg tb) B_L_leg K (fun P pc L E X k z => hxF P pc L E X k z H_L_leg))
def w_L_leg (tb : Nat → Option (Nat × Nat)) : WP := fun as X K _ => gd ((ini0 as).length ≤ 5) (r_L_leg tb K 0 (iniL as 5) [] X 0 0)
theorem k_L_leg : B_L_leg.all (blkB [] [] [] RL false cL_leg) = true := by decide +kernel
theorem h_L_leg : H_L_leg.all (hrB RL cL_leg) = true := by decide +kernel
theorem g_L_leg : gw (.codeWith yL_leg cL_leg 5 (some .int) (H_L_leg.map hh1)) = true ∧ gw (.initialized yL_leg.cls) = true := by decide +kernel
theorem c_L_leg {l : Launch} {G : GX} (hl : l.stackTraces = false) : ∀ as X K KX, w_L_leg (gT G) as X K KX → CT l G yL_leg (.codeWith yL_leg cL_leg 5 (some .int) (H_L_leg.map hh1)) 8 123 1 6 as X K KX := fun as X K KX h => CTW_of (M := M_L_leg (gT G)) (own := RL) (T := T_L_leg (gT G)) (B := B_L_leg) (by decide +kernel) hl rfl rfl tab_e k_L_leg h_L_leg rfl rfl rfl
  ⟨ivV_ok (ci := 11) (c_X11_leg hl) g_X11_leg.1 g_X11_leg.2 ml_L_108 in_X11_leg py_X11_leg rfl se_X11_leg, trivial⟩ (gd_use h).1 (gd_use h).2
theorem py_X11_should : plainY yX11_should 5 = true := by decide +kernel
theorem in_X11_should : gw (.instanceMethod yX11_should) = true := by decide +kernel
theorem se_X11_should : gw (.selects RX11 yX11_should yX11_should) = true := by decide +kernel
theorem ml_L_111 : gw (.methodLink RL 111 yX11_should) = true := by decide +kernel
def B_L_should : List (Nat × List (Nat × Instr × Nat)) := [(0, [(0, .aload 6, 2), (2, .iconst 0, 1), (3, .aload_n 0, 1), (4, .iload_n 1, 1), (5, .iload_n 2, 1), (6, .iload_n 3, 1), (7, .iload 4, 2), (9, .iload 5, 2), (11, .invokevirtual 111, 3), (14, .lastore, 1), (15, .goto 15, 3)]), (20, [(20, .iconst 1, 1), (21, .ireturn, 1)]), (24, [(24, .iconst 2, 1), (25, .ireturn, 1)]), (28, [(28, .iconst 3, 1), (29, .ireturn, 1)]), (30, [(30, .iconst 0, 1), (31, .ireturn, 1)])]
def H_L_should : List HR := [(0, 15, 18, 2, 7, 21, "java/lang/IndexOutOfBoundsException"), (0, 15, 22, 2, 7, 15, "java/lang/IllegalArgumentException"), (0, 15, 26, 2, 7, 26, "java/util/NoSuchElementException")]
def T_L_should (tb : Nat → Option (Nat × Nat)) : List (Nat × IV) := [(444, ivV tb 11 5 30 5 5 30 3 (w_X11_should tb))]
def M_L_should (tb : Nat → Option (Nat × Nat)) : MT := (tb, [], [], [], [], ivOf (T_L_should tb), 5, 30, 1)
def r_L_should (tb : Nat → Option (Nat × Nat)) (K : Option AV → AX → Prop) : PT := lfp (wpm (M_L_should tb) B_L_should K (fun P pc L E X k z => hxF P pc L E X k z H_L_should))
def w_L_should (tb : Nat → Option (Nat × Nat)) : WP := fun as X K _ => gd ((ini0 as).length ≤ 8) (r_L_should tb K 0 (iniL as 8) [] X 0 0)
theorem k_L_should : B_L_should.all (blkB [] [] [] RL false cL_should) = true := by decide +kernel
theorem h_L_should : H_L_should.all (hrB RL cL_should) = true := by decide +kernel
theorem g_L_should : gw (.codeWith yL_should cL_should 8 (some .int) (H_L_should.map hh1)) = true ∧ gw (.initialized yL_should.cls) = true := by decide +kernel
theorem c_L_should {l : Launch} {G : GX} (hl : l.stackTraces = false) : ∀ as X K KX, w_L_should (gT G) as X K KX → CT l G yL_should (.codeWith yL_should cL_should 8 (some .int) (H_L_should.map hh1)) 9 169 5 30 as X K KX := fun as X K KX h => CTW_of (M := M_L_should (gT G)) (own := RL) (T := T_L_should (gT G)) (B := B_L_should) (by decide +kernel) hl rfl rfl tab_e k_L_should h_L_should rfl rfl rfl
  ⟨ivV_ok (ci := 11) (c_X11_should hl) g_X11_should.1 g_X11_should.2 ml_L_111 in_X11_should py_X11_should rfl se_X11_should, trivial⟩ (gd_use h).1 (gd_use h).2
theorem py_X11_error : plainY yX11_error 0 = true := by decide +kernel
theorem in_X11_error : gw (.instanceMethod yX11_error) = true := by decide +kernel
theorem se_X11_error : gw (.selects RX11 yX11_error yX11_error) = true := by decide +kernel
theorem ml_L_115 : gw (.methodLink RL 115 yX11_error) = true := by decide +kernel
def B_L_error : List (Nat × List (Nat × Instr × Nat)) := [(0, [(0, .aload_n 1, 1), (1, .iconst 0, 1), (2, .aload_n 0, 1), (3, .invokevirtual 115, 3), (6, .i2l, 1), (7, .lastore, 1), (8, .goto 6, 3)]), (12, [(12, .iconst 1, 1), (13, .ireturn, 1)]), (14, [(14, .iconst 0, 1), (15, .ireturn, 1)])]
def H_L_error : List HR := [(0, 8, 11, 1, 2, 13, "java/lang/IllegalStateException")]
def T_L_error (tb : Nat → Option (Nat × Nat)) : List (Nat × IV) := [(460, ivV tb 11 1 6 0 1 6 1 (w_X11_error tb))]
def M_L_error (tb : Nat → Option (Nat × Nat)) : MT := (tb, [], [], [], [], ivOf (T_L_error tb), 1, 6, 1)
def r_L_error (tb : Nat → Option (Nat × Nat)) (K : Option AV → AX → Prop) : PT := lfp (wpm (M_L_error tb) B_L_error K (fun P pc L E X k z => hxF P pc L E X k z H_L_error))
def w_L_error (tb : Nat → Option (Nat × Nat)) : WP := fun as X K _ => gd ((ini0 as).length ≤ 3) (r_L_error tb K 0 (iniL as 3) [] X 0 0)
theorem k_L_error : B_L_error.all (blkB [] [] [] RL false cL_error) = true := by decide +kernel
theorem h_L_error : H_L_error.all (hrB RL cL_error) = true := by decide +kernel
theorem g_L_error : gw (.codeWith yL_error cL_error 3 (some .int) (H_L_error.map hh1)) = true ∧ gw (.initialized yL_error.cls) = true := by decide +kernel
theorem c_L_error {l : Launch} {G : GX} (hl : l.stackTraces = false) : ∀ as X K KX, w_L_error (gT G) as X K KX → CT l G yL_error (.codeWith yL_error cL_error 3 (some .int) (H_L_error.map hh1)) 8 121 1 6 as X K KX := fun as X K KX h => CTW_of (M := M_L_error (gT G)) (own := RL) (T := T_L_error (gT G)) (B := B_L_error) (by decide +kernel) hl rfl rfl tab_e k_L_error h_L_error rfl rfl rfl
  ⟨ivV_ok (ci := 11) (c_X11_error hl) g_X11_error.1 g_X11_error.2 ml_L_115 in_X11_error py_X11_error rfl se_X11_error, trivial⟩ (gd_use h).1 (gd_use h).2
theorem py_X11_within : plainY yX11_within 2 = true := by decide +kernel
theorem in_X11_within : gw (.instanceMethod yX11_within) = true := by decide +kernel
theorem se_X11_within : gw (.selects RX11 yX11_within yX11_within) = true := by decide +kernel
theorem ml_L_118 : gw (.methodLink RL 118 yX11_within) = true := by decide +kernel
def B_L_within : List (Nat × List (Nat × Instr × Nat)) := [(0, [(0, .aload_n 3, 1), (1, .iconst 0, 1), (2, .aload_n 0, 1), (3, .iload_n 1, 1), (4, .iload_n 2, 1), (5, .invokevirtual 118, 3), (8, .ifCond .eq 7, 3), (11, .lconst 1, 1), (12, .goto 4, 3)]), (15, [(15, .lconst 0, 1)]), (16, [(16, .lastore, 1), (17, .goto 11, 3)]), (22, [(22, .iconst 1, 1), (23, .ireturn, 1)]), (26, [(26, .iconst 2, 1), (27, .ireturn, 1)]), (28, [(28, .iconst 0, 1), (29, .ireturn, 1)])]
def H_L_within : List HR := [(0, 17, 20, 2, 4, 13, "java/lang/IllegalStateException"), (0, 17, 24, 2, 4, 15, "java/lang/IllegalArgumentException")]
def T_L_within (tb : Nat → Option (Nat × Nat)) : List (Nat × IV) := [(472, ivV tb 11 7 204 2 7 204 1 (w_X11_within tb))]
def M_L_within (tb : Nat → Option (Nat × Nat)) : MT := (tb, [], [], [], [], ivOf (T_L_within tb), 7, 204, 1)
def r_L_within (tb : Nat → Option (Nat × Nat)) (K : Option AV → AX → Prop) : PT := lfp (wpm (M_L_within tb) B_L_within K (fun P pc L E X k z => hxF P pc L E X k z H_L_within))
def w_L_within (tb : Nat → Option (Nat × Nat)) : WP := fun as X K _ => gd ((ini0 as).length ≤ 5) (r_L_within tb K 0 (iniL as 5) [] X 0 0)
theorem k_L_within : B_L_within.all (blkB [] [] [] RL false cL_within) = true := by decide +kernel
theorem h_L_within : H_L_within.all (hrB RL cL_within) = true := by decide +kernel
theorem g_L_within : gw (.codeWith yL_within cL_within 5 (some .int) (H_L_within.map hh1)) = true ∧ gw (.initialized yL_within.cls) = true := by decide +kernel
theorem c_L_within {l : Launch} {G : GX} (hl : l.stackTraces = false) : ∀ as X K KX, w_L_within (gT G) as X K KX → CT l G yL_within (.codeWith yL_within cL_within 5 (some .int) (H_L_within.map hh1)) 8 123 7 204 as X K KX := fun as X K KX h => CTW_of (M := M_L_within (gT G)) (own := RL) (T := T_L_within (gT G)) (B := B_L_within) (by decide +kernel) hl rfl rfl tab_e k_L_within h_L_within rfl rfl rfl
  ⟨ivV_ok (ci := 11) (c_X11_within hl) g_X11_within.1 g_X11_within.2 ml_L_118 in_X11_within py_X11_within rfl se_X11_within, trivial⟩ (gd_use h).1 (gd_use h).2
theorem py_X11_keep : plainY yX11_keep 0 = true := by decide +kernel
theorem in_X11_keep : gw (.instanceMethod yX11_keep) = true := by decide +kernel
theorem se_X11_keep : gw (.selects RX11 yX11_keep yX11_keep) = true := by decide +kernel
theorem ml_L_121 : gw (.methodLink RL 121 yX11_keep) = true := by decide +kernel
def B_L_keep : List (Nat × List (Nat × Instr × Nat)) := [(0, [(0, .aload_n 1, 1), (1, .iconst 0, 1), (2, .aload_n 0, 1), (3, .invokevirtual 121, 3), (6, .i2l, 1), (7, .lastore, 1), (8, .goto 6, 3)]), (12, [(12, .iconst 1, 1), (13, .ireturn, 1)]), (14, [(14, .iconst 0, 1), (15, .ireturn, 1)])]
def H_L_keep : List HR := [(0, 8, 11, 1, 2, 13, "java/lang/IllegalStateException")]
def T_L_keep (tb : Nat → Option (Nat × Nat)) : List (Nat × IV) := [(484, ivV tb 11 1 6 0 1 6 1 (w_X11_keep tb))]
def M_L_keep (tb : Nat → Option (Nat × Nat)) : MT := (tb, [], [], [], [], ivOf (T_L_keep tb), 1, 6, 1)
def r_L_keep (tb : Nat → Option (Nat × Nat)) (K : Option AV → AX → Prop) : PT := lfp (wpm (M_L_keep tb) B_L_keep K (fun P pc L E X k z => hxF P pc L E X k z H_L_keep))
def w_L_keep (tb : Nat → Option (Nat × Nat)) : WP := fun as X K _ => gd ((ini0 as).length ≤ 3) (r_L_keep tb K 0 (iniL as 3) [] X 0 0)
theorem k_L_keep : B_L_keep.all (blkB [] [] [] RL false cL_keep) = true := by decide +kernel
theorem h_L_keep : H_L_keep.all (hrB RL cL_keep) = true := by decide +kernel
theorem g_L_keep : gw (.codeWith yL_keep cL_keep 3 (some .int) (H_L_keep.map hh1)) = true ∧ gw (.initialized yL_keep.cls) = true := by decide +kernel
theorem c_L_keep {l : Launch} {G : GX} (hl : l.stackTraces = false) : ∀ as X K KX, w_L_keep (gT G) as X K KX → CT l G yL_keep (.codeWith yL_keep cL_keep 3 (some .int) (H_L_keep.map hh1)) 9 141 1 6 as X K KX := fun as X K KX h => CTW_of (M := M_L_keep (gT G)) (own := RL) (T := T_L_keep (gT G)) (B := B_L_keep) (by decide +kernel) hl rfl rfl tab_e k_L_keep h_L_keep rfl rfl rfl
  ⟨ivV_ok (ci := 11) (c_X11_keep hl) g_X11_keep.1 g_X11_keep.2 ml_L_121 in_X11_keep py_X11_keep rfl se_X11_keep, trivial⟩ (gd_use h).1 (gd_use h).2
theorem py_X11_back : plainY yX11_back 0 = true := by decide +kernel
theorem in_X11_back : gw (.instanceMethod yX11_back) = true := by decide +kernel
theorem se_X11_back : gw (.selects RX11 yX11_back yX11_back) = true := by decide +kernel
theorem ml_L_124 : gw (.methodLink RL 124 yX11_back) = true := by decide +kernel
def B_L_back : List (Nat × List (Nat × Instr × Nat)) := [(0, [(0, .aload_n 1, 1), (1, .iconst 0, 1), (2, .aload_n 0, 1), (3, .invokevirtual 124, 3), (6, .i2l, 1), (7, .lastore, 1), (8, .goto 6, 3)]), (12, [(12, .iconst 1, 1), (13, .ireturn, 1)]), (14, [(14, .iconst 0, 1), (15, .ireturn, 1)])]
def H_L_back : List HR := [(0, 8, 11, 1, 2, 13, "java/lang/IllegalStateException")]
def T_L_back (tb : Nat → Option (Nat × Nat)) : List (Nat × IV) := [(496, ivV tb 11 2 12 0 2 12 1 (w_X11_back tb))]
def M_L_back (tb : Nat → Option (Nat × Nat)) : MT := (tb, [], [], [], [], ivOf (T_L_back tb), 2, 12, 1)
def r_L_back (tb : Nat → Option (Nat × Nat)) (K : Option AV → AX → Prop) : PT := lfp (wpm (M_L_back tb) B_L_back K (fun P pc L E X k z => hxF P pc L E X k z H_L_back))
def w_L_back (tb : Nat → Option (Nat × Nat)) : WP := fun as X K _ => gd ((ini0 as).length ≤ 3) (r_L_back tb K 0 (iniL as 3) [] X 0 0)
theorem k_L_back : B_L_back.all (blkB [] [] [] RL false cL_back) = true := by decide +kernel
theorem h_L_back : H_L_back.all (hrB RL cL_back) = true := by decide +kernel
theorem g_L_back : gw (.codeWith yL_back cL_back 3 (some .int) (H_L_back.map hh1)) = true ∧ gw (.initialized yL_back.cls) = true := by decide +kernel
theorem c_L_back {l : Launch} {G : GX} (hl : l.stackTraces = false) : ∀ as X K KX, w_L_back (gT G) as X K KX → CT l G yL_back (.codeWith yL_back cL_back 3 (some .int) (H_L_back.map hh1)) 9 141 2 12 as X K KX := fun as X K KX h => CTW_of (M := M_L_back (gT G)) (own := RL) (T := T_L_back (gT G)) (B := B_L_back) (by decide +kernel) hl rfl rfl tab_e k_L_back h_L_back rfl rfl rfl
  ⟨ivV_ok (ci := 11) (c_X11_back hl) g_X11_back.1 g_X11_back.2 ml_L_124 in_X11_back py_X11_back rfl se_X11_back, trivial⟩ (gd_use h).1 (gd_use h).2
