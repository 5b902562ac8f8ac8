theorem st_X11_demandSuch : gw (.static yX11_demandSuch) = true := by decide +kernel
theorem py_X11_demandSuch : plainY yX11_demandSuch 1 = true := by decide +kernel
theorem ml_X11_102 : gw (.methodLink RX11 102 yX11_demandSuch) = true := by decide +kernel
theorem py_X8_at : plainY yX8_at 2 = true := by decide +kernel
theorem in_X8_at : gw (.instanceMethod yX8_at) = true := by decide +kernel
theorem se_X8_at : gw (.selects RX8 yX8_at yX8_at) = true := by decide +kernel
theorem ml_X11_108 : gw (.methodLink RX11 108 yX8_at) = true := by decide +kernel
theorem py_X8_put : plainY yX8_put 3 = true := by decide +kernel
theorem in_X8_put : gw (.instanceMethod yX8_put) = true := by decide +kernel
theorem se_X8_put : gw (.selects RX8 yX8_put yX8_put) = true := by decide +kernel
theorem ml_X11_112 : gw (.methodLink RX11 112 yX8_put) = true := by decide +kernel
def B_X11_pulse : List (Nat × List (Nat × Instr × Nat)) := [(0, [(0, .iload_n 3, 1), (1, .iconst 0, 1), (2, .sipush 500, 3), (5, .invokestatic 82, 3), (8, .invokestatic 86, 3), (11, .iload_n 1, 1), (12, .bipush 64, 2), (14, .invokestatic 91, 3), (17, .aload_n 0, 1), (18, .getfield 19, 3), (21, .iload_n 1, 1), (22, .invokevirtual 95, 3), (25, .ifCond .ne 7, 3), (28, .iconst 1, 1), (29, .goto 4, 3)]),
  (32, [(32, .iconst 0, 1)]),
  (33, [(33, .invokestatic 102, 3), (36, .iload_n 2, 1), (37, .aload_n 0, 1), (38, .getfield 19, 3), (41, .getfield 105, 3), (44, .iload_n 1, 1), (45, .iaload, 1), (46, .invokestatic 91, 3), (49, .aload_n 0, 1), (50, .getfield 19, 3), (53, .iload_n 1, 1), (54, .iload_n 2, 1), (55, .invokevirtual 108, 3), (58, .istore 4, 2), (60, .aload_n 0, 1), (61, .getfield 19, 3), (64, .iload_n 1, 1), (65, .iload_n 2, 1), (66, .iload_n 3, 1), (67, .invokevirtual 112, 3), (70, .iload 4, 2), (72, .ireturn, 1)])]
def T_X11_pulse (tb : Nat → Option (Nat × Nat)) : List (Nat × IV) := [(330, ivS 4 24 3 0 0 1 (w_X11_isFrom tb)), (346, ivS 4 24 1 1 6 0 (w_X11_demand tb)), (366, ivS 4 24 2 1 6 0 (w_X11_demandPlace tb)), (380, ivV tb 8 4 24 1 0 0 1 (w_X8_isMissing tb)), (410, ivS 4 24 1 1 6 0 (w_X11_demandSuch tb)), (432, ivV tb 8 4 24 2 0 0 1 (w_X8_at tb)), (448, ivV tb 8 4 24 3 0 0 0 (w_X8_put tb))]
def M_X11_pulse (tb : Nat → Option (Nat × Nat)) : MT := (tb, FX11, StX11, CX11, NwX11, ivOf (T_X11_pulse tb), 4, 24, 1)
def r_X11_pulse (tb : Nat → Option (Nat × Nat)) (K : Option AV → AX → Prop) (KX : String → AX → Prop) : PT := lfp (wpm (M_X11_pulse tb) B_X11_pulse K (fun _ _ _ E X _ _ => KX E X))
def w_X11_pulse (tb : Nat → Option (Nat × Nat)) : WP := fun as X K KX => gd ((ini0 as).length ≤ 5) (r_X11_pulse tb K KX 0 (iniL as 5) [] X 0 0)
theorem k_X11_pulse : B_X11_pulse.all (blkB FX11 CX11 NwX11 RX11 false cX11_pulse) = true := by decide +kernel
theorem g_X11_pulse : gw (.code yX11_pulse cX11_pulse 5 (some .int)) = true ∧ gw (.initialized yX11_pulse.cls) = true := by decide +kernel
theorem c_X11_pulse {l : Launch} {G : GX} (hl : l.stackTraces = false) : ∀ as X K KX, w_X11_pulse (gT G) as X K KX → CT l G yX11_pulse (.code yX11_pulse cX11_pulse 5 (some .int)) 7 102 4 24 as X K KX := fun as X K KX h => CT_of (M := M_X11_pulse (gT G)) (own := RX11) (ini := false) (T := T_X11_pulse (gT G)) (B := B_X11_pulse) (by decide +kernel) hl rfl (fun h => absurd h (by decide)) rfl tab_X11 k_X11_pulse rfl (Or.inr (Or.inr ⟨by decide, by decide⟩)) rfl
  ⟨ivS_ok (c_X11_isFrom hl) g_X11_isFrom.1 g_X11_isFrom.2 ml_X11_82 st_X11_isFrom py_X11_isFrom rfl, ivS_ok (c_X11_demand hl) g_X11_demand.1 g_X11_demand.2 ml_X11_86 st_X11_demand py_X11_demand rfl, ivS_ok (c_X11_demandPlace hl) g_X11_demandPlace.1 g_X11_demandPlace.2 ml_X11_91 st_X11_demandPlace py_X11_demandPlace rfl, ivV_ok (ci := 8) (c_X8_isMissing hl) g_X8_isMissing.1 g_X8_isMissing.2 ml_X11_95 in_X8_isMissing py_X8_isMissing rfl se_X8_isMissing, ivS_ok (c_X11_demandSuch hl) g_X11_demandSuch.1 g_X11_demandSuch.2 ml_X11_102 st_X11_demandSuch py_X11_demandSuch rfl, ivV_ok (ci := 8) (c_X8_at hl) g_X8_at.1 g_X8_at.2 ml_X11_108 in_X8_at py_X8_at rfl se_X8_at, ivV_ok (ci := 8) (c_X8_put hl) g_X8_put.1 g_X8_put.2 ml_X11_112 in_X8_put py_X8_put rfl se_X8_put, trivial⟩ (gd_use h).1 (gd_use h).2
theorem ml_X11_116 : gw (.methodLink RX11 116 Lib.Math.min.name) = true := by decide +kernel
def B_X11_tear : List (Nat × List (Nat × Instr × Nat)) := [(0, [(0, .iload_n 1, 1), (1, .bipush 64, 2), (3, .invokestatic 91, 3), (6, .aload_n 0, 1), (7, .getfield 19, 3), (10, .iload_n 1, 1), (11, .invokevirtual 95, 3), (14, .ifCond .ne 7, 3), (17, .iconst 1, 1), (18, .goto 4, 3)]),
  (21, [(21, .iconst 0, 1)]),
  (22, [(22, .invokestatic 102, 3), (25, .aload_n 0, 1), (26, .getfield 19, 3), (29, .getfield 105, 3), (32, .iload_n 1, 1), (33, .iaload, 1), (34, .istore_n 3, 1), (35, .aload_n 0, 1), (36, .getfield 19, 3), (39, .getfield 105, 3), (42, .iload_n 1, 1), (43, .iload_n 2, 1), (44, .ifCond .ge 7, 3), (47, .iconst (-1), 1), (48, .goto 8, 3)]),
  (51, [(51, .iload_n 2, 1), (52, .iload_n 3, 1), (53, .invokestatic 116, 3)]),
  (56, [(56, .iastore, 1), (57, .iload_n 3, 1), (58, .ireturn, 1)])]
def T_X11_tear (tb : Nat → Option (Nat × Nat)) : List (Nat × IV) := [(366, ivS 2 12 2 1 6 0 (w_X11_demandPlace tb)), (380, ivV tb 8 2 12 1 0 0 1 (w_X8_isMissing tb)), (410, ivS 2 12 1 1 6 0 (w_X11_demandSuch tb)), (466, ivM2 (fun x y => if y < x then y else x))]
def M_X11_tear (tb : Nat → Option (Nat × Nat)) : MT := (tb, FX11, StX11, CX11, NwX11, ivOf (T_X11_tear tb), 2, 12, 1)
def r_X11_tear (tb : Nat → Option (Nat × Nat)) (K : Option AV → AX → Prop) (KX : String → AX → Prop) : PT := lfp (wpm (M_X11_tear tb) B_X11_tear K (fun _ _ _ E X _ _ => KX E X))
def w_X11_tear (tb : Nat → Option (Nat × Nat)) : WP := fun as X K KX => gd ((ini0 as).length ≤ 4) (r_X11_tear tb K KX 0 (iniL as 4) [] X 0 0)
theorem k_X11_tear : B_X11_tear.all (blkB FX11 CX11 NwX11 RX11 false cX11_tear) = true := by decide +kernel
theorem g_X11_tear : gw (.code yX11_tear cX11_tear 4 (some .int)) = true ∧ gw (.initialized yX11_tear.cls) = true := by decide +kernel
theorem c_X11_tear {l : Launch} {G : GX} (hl : l.stackTraces = false) : ∀ as X K KX, w_X11_tear (gT G) as X K KX → CT l G yX11_tear (.code yX11_tear cX11_tear 4 (some .int)) 7 102 2 12 as X K KX := fun as X K KX h => CT_of (M := M_X11_tear (gT G)) (own := RX11) (ini := false) (T := T_X11_tear (gT G)) (B := B_X11_tear) (by decide +kernel) hl rfl (fun h => absurd h (by decide)) rfl tab_X11 k_X11_tear rfl (Or.inr (Or.inr ⟨by decide, by decide⟩)) rfl
  ⟨ivS_ok (c_X11_demandPlace hl) g_X11_demandPlace.1 g_X11_demandPlace.2 ml_X11_91 st_X11_demandPlace py_X11_demandPlace rfl, ivV_ok (ci := 8) (c_X8_isMissing hl) g_X8_isMissing.1 g_X8_isMissing.2 ml_X11_95 in_X8_isMissing py_X8_isMissing rfl se_X8_isMissing, ivS_ok (c_X11_demandSuch hl) g_X11_demandSuch.1 g_X11_demandSuch.2 ml_X11_102 st_X11_demandSuch py_X11_demandSuch rfl, ivMin_ok ml_X11_116 rfl, trivial⟩ (gd_use h).1 (gd_use h).2
def B_X11_pulses : List (Nat × List (Nat × Instr × Nat)) := [(0, [(0, .iload_n 1, 1), (1, .bipush 64, 2), (3, .invokestatic 91, 3), (6, .aload_n 0, 1), (7, .getfield 19, 3), (10, .iload_n 1, 1), (11, .iload_n 2, 1), (12, .invokevirtual 108, 3), (15, .ireturn, 1)])]
def T_X11_pulses (tb : Nat → Option (Nat × Nat)) : List (Nat × IV) := [(366, ivS 1 6 2 1 6 0 (w_X11_demandPlace tb)), (432, ivV tb 8 1 6 2 0 0 1 (w_X8_at tb))]
def M_X11_pulses (tb : Nat → Option (Nat × Nat)) : MT := (tb, FX11, StX11, CX11, NwX11, ivOf (T_X11_pulses tb), 1, 6, 1)
def r_X11_pulses (tb : Nat → Option (Nat × Nat)) (K : Option AV → AX → Prop) (KX : String → AX → Prop) : PT := lfp (wpm (M_X11_pulses tb) B_X11_pulses K (fun _ _ _ E X _ _ => KX E X))
def w_X11_pulses (tb : Nat → Option (Nat × Nat)) : WP := fun as X K KX => gd ((ini0 as).length ≤ 3) (r_X11_pulses tb K KX 0 (iniL as 3) [] X 0 0)
theorem k_X11_pulses : B_X11_pulses.all (blkB FX11 CX11 NwX11 RX11 false cX11_pulses) = true := by decide +kernel
theorem g_X11_pulses : gw (.code yX11_pulses cX11_pulses 3 (some .int)) = true ∧ gw (.initialized yX11_pulses.cls) = true := by decide +kernel
theorem c_X11_pulses {l : Launch} {G : GX} (hl : l.stackTraces = false) : ∀ as X K KX, w_X11_pulses (gT G) as X K KX → CT l G yX11_pulses (.code yX11_pulses cX11_pulses 3 (some .int)) 7 102 1 6 as X K KX := fun as X K KX h => CT_of (M := M_X11_pulses (gT G)) (own := RX11) (ini := false) (T := T_X11_pulses (gT G)) (B := B_X11_pulses) (by decide +kernel) hl rfl (fun h => absurd h (by decide)) rfl tab_X11 k_X11_pulses rfl (Or.inr (Or.inr ⟨by decide, by decide⟩)) rfl
  ⟨ivS_ok (c_X11_demandPlace hl) g_X11_demandPlace.1 g_X11_demandPlace.2 ml_X11_91 st_X11_demandPlace py_X11_demandPlace rfl, ivV_ok (ci := 8) (c_X8_at hl) g_X8_at.1 g_X8_at.2 ml_X11_108 in_X8_at py_X8_at rfl se_X8_at, trivial⟩ (gd_use h).1 (gd_use h).2
theorem oi_X1_3 : gw (.methodLink RX1 3 objectInit) = true := by decide +kernel
theorem ml_X1_13 : gw (.methodLink RX1 13 ⟨"[I", "clone", "()Ljava/lang/Object;"⟩) = true := by decide +kernel
def B_X1_init : List (Nat × List (Nat × Instr × Nat)) := [(0, [(0, .aload_n 0, 1), (1, .invokespecial 3, 3), (4, .aload_n 0, 1), (5, .getstatic 9, 3), (8, .invokevirtual 13, 3), (11, .checkcast 14, 3), (14, .putfield 18, 3), (17, .aload_n 0, 1), (18, .iload_n 1, 1), (19, .putfield 23, 3), (22, .return_, 1)])]
def T_X1_init (tb : Nat → Option (Nat × Nat)) : List (Nat × IV) := [(13, ivO), (52, ivK tb 1 15)]
def M_X1_init (tb : Nat → Option (Nat × Nat)) : MT := (tb, FX1i, StX1, CX1, NwX1, ivOf (T_X1_init tb), 1, 15, 5)
def r_X1_init (tb : Nat → Option (Nat × Nat)) (K : Option AV → AX → Prop) (KX : String → AX → Prop) : PT := lfp (wpm (M_X1_init tb) B_X1_init K (fun _ _ _ E X _ _ => KX E X))
def w_X1_init (tb : Nat → Option (Nat × Nat)) : WP := fun as X K KX => gd ((ini0 as).length ≤ 2) (r_X1_init tb K KX 0 (iniL as 2) [] X 0 0)
theorem k_X1_init : B_X1_init.all (blkB FX1i CX1 NwX1 RX1 true cX1_init) = true := by decide +kernel
theorem g_X1_init : gw (.code yX1_init cX1_init 2 none) = true ∧ gw (.initialized yX1_init.cls) = true := by decide +kernel
theorem c_X1_init {l : Launch} {G : GX} (hl : l.stackTraces = false) : ∀ as X K KX, w_X1_init (gT G) as X K KX → CT l G yX1_init (.code yX1_init cX1_init 2 none) 1 22 1 15 as X K KX := fun as X K KX h => CT_of (M := M_X1_init (gT G)) (own := RX1) (ini := true) (T := T_X1_init (gT G)) (B := B_X1_init) (by decide +kernel) hl rfl (fun h => rfl) rfl tab_X1i k_X1_init rfl (Or.inl rfl) rfl
  ⟨ivO_ok oi_X1_3 rfl, ivK_ok ml_X1_13 rfl, trivial⟩ (gd_use h).1 (gd_use h).2
theorem py_X1_init : plainY yX1_init 1 = true := by decide +kernel
theorem in_X1_init : gw (.instanceMethod yX1_init) = true := by decide +kernel
theorem ml_X6_3 : gw (.methodLink RX6 3 yX1_init) = true := by decide +kernel
def B_X6_init : List (Nat × List (Nat × Instr × Nat)) := [(0, [(0, .aload_n 0, 1), (1, .iload_n 1, 1), (2, .invokespecial 3, 3), (5, .return_, 1)])]
def T_X6_init (tb : Nat → Option (Nat × Nat)) : List (Nat × IV) := [(13, ivI 1 15 1 1 15 0 (w_X1_init tb))]
def M_X6_init (tb : Nat → Option (Nat × Nat)) : MT := (tb, FX6i, StX6, CX6, NwX6, ivOf (T_X6_init tb), 1, 15, 0)
def r_X6_init (tb : Nat → Option (Nat × Nat)) (K : Option AV → AX → Prop) (KX : String → AX → Prop) : PT := lfp (wpm (M_X6_init tb) B_X6_init K (fun _ _ _ E X _ _ => KX E X))
def w_X6_init (tb : Nat → Option (Nat × Nat)) : WP := fun as X K KX => gd ((ini0 as).length ≤ 2) (r_X6_init tb K KX 0 (iniL as 2) [] X 0 0)
theorem k_X6_init : B_X6_init.all (blkB FX6i CX6 NwX6 RX6 true cX6_init) = true := by decide +kernel
theorem g_X6_init : gw (.code yX6_init cX6_init 2 none) = true ∧ gw (.initialized yX6_init.cls) = true := by decide +kernel
theorem c_X6_init {l : Launch} {G : GX} (hl : l.stackTraces = false) : ∀ as X K KX, w_X6_init (gT G) as X K KX → CT l G yX6_init (.code yX6_init cX6_init 2 none) 2 43 1 15 as X K KX := fun as X K KX h => CT_of (M := M_X6_init (gT G)) (own := RX6) (ini := true) (T := T_X6_init (gT G)) (B := B_X6_init) (by decide +kernel) hl rfl (fun h => rfl) rfl tab_X6i k_X6_init rfl (Or.inl rfl) rfl
  ⟨ivI_ok (c_X1_init hl) g_X1_init.1 g_X1_init.2 ml_X6_3 in_X1_init py_X1_init rfl rfl, trivial⟩ (gd_use h).1 (gd_use h).2
theorem ml_X2_3 : gw (.methodLink RX2 3 yX1_init) = true := by decide +kernel
def B_X2_init : List (Nat × List (Nat × Instr × Nat)) := [(0, [(0, .aload_n 0, 1), (1, .iload_n 1, 1), (2, .invokespecial 3, 3), (5, .return_, 1)])]
def T_X2_init (tb : Nat → Option (Nat × Nat)) : List (Nat × IV) := [(13, ivI 1 15 1 1 15 0 (w_X1_init tb))]
def M_X2_init (tb : Nat → Option (Nat × Nat)) : MT := (tb, FX2i, StX2, CX2, NwX2, ivOf (T_X2_init tb), 1, 15, 0)
def r_X2_init (tb : Nat → Option (Nat × Nat)) (K : Option AV → AX → Prop) (KX : String → AX → Prop) : PT := lfp (wpm (M_X2_init tb) B_X2_init K (fun _ _ _ E X _ _ => KX E X))
def w_X2_init (tb : Nat → Option (Nat × Nat)) : WP := fun as X K KX => gd ((ini0 as).length ≤ 2) (r_X2_init tb K KX 0 (iniL as 2) [] X 0 0)
theorem k_X2_init : B_X2_init.all (blkB FX2i CX2 NwX2 RX2 true cX2_init) = true := by decide +kernel
theorem g_X2_init : gw (.code yX2_init cX2_init 2 none) = true ∧ gw (.initialized yX2_init.cls) = true := by decide +kernel
theorem c_X2_init {l : Launch} {G : GX} (hl : l.stackTraces = false) : ∀ as X K KX, w_X2_init (gT G) as X K KX → CT l G yX2_init (.code yX2_init cX2_init 2 none) 2 43 1 15 as X K KX := fun as X K KX h => CT_of (M := M_X2_init (gT G)) (own := RX2) (ini := true) (T := T_X2_init (gT G)) (B := B_X2_init) (by decide +kernel) hl rfl (fun h => rfl) rfl tab_X2i k_X2_init rfl (Or.inl rfl) rfl
  ⟨ivI_ok (c_X1_init hl) g_X1_init.1 g_X1_init.2 ml_X2_3 in_X1_init py_X1_init rfl rfl, trivial⟩ (gd_use h).1 (gd_use h).2
theorem py_X2_init : plainY yX2_init 1 = true := by decide +kernel
theorem in_X2_init : gw (.instanceMethod yX2_init) = true := by decide +kernel
theorem ml_X3_3 : gw (.methodLink RX3 3 yX2_init) = true := by decide +kernel
def B_X3_init : List (Nat × List (Nat × Instr × Nat)) := [(0, [(0, .aload_n 0, 1), (1, .iload_n 1, 1), (2, .invokespecial 3, 3), (5, .return_, 1)])]
def T_X3_init (tb : Nat → Option (Nat × Nat)) : List (Nat × IV) := [(13, ivI 1 15 1 1 15 0 (w_X2_init tb))]
def M_X3_init (tb : Nat → Option (Nat × Nat)) : MT := (tb, FX3i, StX3, CX3, NwX3, ivOf (T_X3_init tb), 1, 15, 0)
def r_X3_init (tb : Nat → Option (Nat × Nat)) (K : Option AV → AX → Prop) (KX : String → AX → Prop) : PT := lfp (wpm (M_X3_init tb) B_X3_init K (fun _ _ _ E X _ _ => KX E X))
def w_X3_init (tb : Nat → Option (Nat × Nat)) : WP := fun as X K KX => gd ((ini0 as).length ≤ 2) (r_X3_init tb K KX 0 (iniL as 2) [] X 0 0)
theorem k_X3_init : B_X3_init.all (blkB FX3i CX3 NwX3 RX3 true cX3_init) = true := by decide +kernel
theorem g_X3_init : gw (.code yX3_init cX3_init 2 none) = true ∧ gw (.initialized yX3_init.cls) = true := by decide +kernel
theorem c_X3_init {l : Launch} {G : GX} (hl : l.stackTraces = false) : ∀ as X K KX, w_X3_init (gT G) as X K KX → CT l G yX3_init (.code yX3_init cX3_init 2 none) 3 64 1 15 as X K KX := fun as X K KX h => CT_of (M := M_X3_init (gT G)) (own := RX3) (ini := true) (T := T_X3_init (gT G)) (B := B_X3_init) (by decide +kernel) hl rfl (fun h => rfl) rfl tab_X3i k_X3_init rfl (Or.inl rfl) rfl
  ⟨ivI_ok (c_X2_init hl) g_X2_init.1 g_X2_init.2 ml_X3_3 in_X2_init py_X2_init rfl rfl, trivial⟩ (gd_use h).1 (gd_use h).2
theorem ml_X0_3 : gw (.methodLink RX0 3 yX1_init) = true := by decide +kernel
def B_X0_init : List (Nat × List (Nat × Instr × Nat)) := [(0, [(0, .aload_n 0, 1), (1, .iload_n 1, 1), (2, .invokespecial 3, 3), (5, .return_, 1)])]
def T_X0_init (tb : Nat → Option (Nat × Nat)) : List (Nat × IV) := [(13, ivI 1 15 1 1 15 0 (w_X1_init tb))]
def M_X0_init (tb : Nat → Option (Nat × Nat)) : MT := (tb, FX0i, StX0, CX0, NwX0, ivOf (T_X0_init tb), 1, 15, 0)
def r_X0_init (tb : Nat → Option (Nat × Nat)) (K : Option AV → AX → Prop) (KX : String → AX → Prop) : PT := lfp (wpm (M_X0_init tb) B_X0_init K (fun _ _ _ E X _ _ => KX E X))
def w_X0_init (tb : Nat → Option (Nat × Nat)) : WP := fun as X K KX => gd ((ini0 as).length ≤ 2) (r_X0_init tb K KX 0 (iniL as 2) [] X 0 0)
theorem k_X0_init : B_X0_init.all (blkB FX0i CX0 NwX0 RX0 true cX0_init) = true := by decide +kernel
theorem g_X0_init : gw (.code yX0_init cX0_init 2 none) = true ∧ gw (.initialized yX0_init.cls) = true := by decide +kernel
theorem c_X0_init {l : Launch} {G : GX} (hl : l.stackTraces = false) : ∀ as X K KX, w_X0_init (gT G) as X K KX → CT l G yX0_init (.code yX0_init cX0_init 2 none) 2 43 1 15 as X K KX := fun as X K KX h => CT_of (M := M_X0_init (gT G)) (own := RX0) (ini := true) (T := T_X0_init (gT G)) (B := B_X0_init) (by decide +kernel) hl rfl (fun h => rfl) rfl tab_X0i k_X0_init rfl (Or.inl rfl) rfl
  ⟨ivI_ok (c_X1_init hl) g_X1_init.1 g_X1_init.2 ml_X0_3 in_X1_init py_X1_init rfl rfl, trivial⟩ (gd_use h).1 (gd_use h).2
theorem py_X6_init : plainY yX6_init 1 = true := by decide +kernel
theorem in_X6_init : gw (.instanceMethod yX6_init) = true := by decide +kernel
theorem ml_X11_307 : gw (.methodLink RX11 307 yX6_init) = true := by decide +kernel
theorem ml_X11_311 : gw (.methodLink RX11 311 yX2_init) = true := by decide +kernel
theorem py_X3_init : plainY yX3_init 1 = true := by decide +kernel
theorem in_X3_init : gw (.instanceMethod yX3_init) = true := by decide +kernel
theorem ml_X11_314 : gw (.methodLink RX11 314 yX3_init) = true := by decide +kernel
theorem py_X0_init : plainY yX0_init 1 = true := by decide +kernel
theorem in_X0_init : gw (.instanceMethod yX0_init) = true := by decide +kernel
theorem ml_X11_317 : gw (.methodLink RX11 317 yX0_init) = true := by decide +kernel
theorem ml_X11_318 : gw (.methodLink RX11 318 yX1_init) = true := by decide +kernel
theorem tab_X11_X11_newTariff : tabB FX11 CX11 StX11 [(23, .inl 1), (305, .inl 6), (309, .inl 2), (312, .inl 3), (315, .inl 0)] RX11 = true := tab_sub tab_X11 (by simp [NwX11])
def B_X11_newTariff : List (Nat × List (Nat × Instr × Nat)) := [(0, [(0, .iload_n 0, 1), (1, .tableswitch 67 1 4 #[31, 40, 49, 58], 31)]),
  (32, [(32, .new 305, 3), (35, .dup, 1), (36, .iload_n 1, 1), (37, .invokespecial 307, 3), (40, .areturn, 1)]),
  (41, [(41, .new 309, 3), (44, .dup, 1), (45, .iload_n 1, 1), (46, .invokespecial 311, 3), (49, .areturn, 1)]),
  (50, [(50, .new 312, 3), (53, .dup, 1), (54, .iload_n 1, 1), (55, .invokespecial 314, 3), (58, .areturn, 1)]),
  (59, [(59, .new 315, 3), (62, .dup, 1), (63, .iload_n 1, 1), (64, .invokespecial 317, 3), (67, .areturn, 1)]),
  (68, [(68, .new 23, 3), (71, .dup, 1), (72, .iload_n 1, 1), (73, .invokespecial 318, 3), (76, .areturn, 1)])]
def T_X11_newTariff (tb : Nat → Option (Nat × Nat)) : List (Nat × IV) := [(1229, ivI 10 85 1 1 15 0 (w_X6_init tb)), (1245, ivI 10 85 1 1 15 0 (w_X2_init tb)), (1257, ivI 10 85 1 1 15 0 (w_X3_init tb)), (1269, ivI 10 85 1 1 15 0 (w_X0_init tb)), (1273, ivI 10 85 1 1 15 0 (w_X1_init tb))]
def M_X11_newTariff (tb : Nat → Option (Nat × Nat)) : MT := (tb, FX11, StX11, CX11, [(23, .inl 1), (305, .inl 6), (309, .inl 2), (312, .inl 3), (315, .inl 0)], ivOf (T_X11_newTariff tb), 10, 85, 4)
def r_X11_newTariff (tb : Nat → Option (Nat × Nat)) (K : Option AV → AX → Prop) (KX : String → AX → Prop) : PT := lfp (wpm (M_X11_newTariff tb) B_X11_newTariff K (fun _ _ _ E X _ _ => KX E X))
def w_X11_newTariff (tb : Nat → Option (Nat × Nat)) : WP := fun as X K KX => gd ((ini0 as).length ≤ 2) (r_X11_newTariff tb K KX 0 (iniL as 2) [] X 0 0)
theorem k_X11_newTariff : B_X11_newTariff.all (blkB FX11 CX11 [(23, .inl 1), (305, .inl 6), (309, .inl 2), (312, .inl 3), (315, .inl 0)] RX11 false cX11_newTariff) = true := by decide +kernel
theorem g_X11_newTariff : gw (.code yX11_newTariff cX11_newTariff 2 (some (.object "FareClock$Day"))) = true ∧ gw (.initialized yX11_newTariff.cls) = true := by decide +kernel
theorem c_X11_newTariff {l : Launch} {G : GX} (hl : l.stackTraces = false) : ∀ as X K KX, w_X11_newTariff (gT G) as X K KX → CT l G yX11_newTariff (.code yX11_newTariff cX11_newTariff 2 (some (.object "FareClock$Day"))) 4 85 10 85 as X K KX := fun as X K KX h => CT_of (M := M_X11_newTariff (gT G)) (own := RX11) (ini := false) (T := T_X11_newTariff (gT G)) (B := B_X11_newTariff) (by decide +kernel) hl rfl (fun h => absurd h (by decide)) rfl tab_X11_X11_newTariff k_X11_newTariff rfl (Or.inr (Or.inl (by simp [M_X11_newTariff, mNw]))) rfl
  ⟨ivI_ok (c_X6_init hl) g_X6_init.1 g_X6_init.2 ml_X11_307 in_X6_init py_X6_init rfl rfl, ivI_ok (c_X2_init hl) g_X2_init.1 g_X2_init.2 ml_X11_311 in_X2_init py_X2_init rfl rfl, ivI_ok (c_X3_init hl) g_X3_init.1 g_X3_init.2 ml_X11_314 in_X3_init py_X3_init rfl rfl, ivI_ok (c_X0_init hl) g_X0_init.1 g_X0_init.2 ml_X11_317 in_X0_init py_X0_init rfl rfl, ivI_ok (c_X1_init hl) g_X1_init.1 g_X1_init.2 ml_X11_318 in_X1_init py_X1_init rfl rfl, trivial⟩ (gd_use h).1 (gd_use h).2
theorem st_X11_newTariff : gw (.static yX11_newTariff) = true := by decide +kernel
theorem py_X11_newTariff : plainY yX11_newTariff 2 = true := by decide +kernel
theorem ml_X11_124 : gw (.methodLink RX11 124 yX11_newTariff) = true := by decide +kernel
def B_X11_tariff : List (Nat × List (Nat × Instr × Nat)) := [(0, [(0, .iload_n 1, 1), (1, .iconst 0, 1), (2, .iconst 4, 1), (3, .invokestatic 82, 3), (6, .invokestatic 86, 3), (9, .aload_n 0, 1), (10, .getfield 121, 3), (13, .bipush 12, 2), (15, .if_icmp .lt 5, 3), (18, .iconst (-1), 1), (19, .ireturn, 1)]),
  (20, [(20, .aload_n 0, 1), (21, .getfield 25, 3), (24, .aload_n 0, 1), (25, .getfield 121, 3), (28, .iload_n 1, 1), (29, .aload_n 0, 1), (30, .getfield 121, 3), (33, .invokestatic 124, 3), (36, .aastore, 1), (37, .aload_n 0, 1), (38, .dup, 1), (39, .getfield 121, 3), (42, .iconst 1, 1), (43, .iadd, 1), (44, .putfield 121, 3), (47, .aload_n 0, 1), (48, .getfield 121, 3), (51, .iconst 1, 1), (52, .isub, 1), (53, .ireturn, 1)])]
def T_X11_tariff (tb : Nat → Option (Nat × Nat)) : List (Nat × IV) := [(330, ivS 11 91 3 0 0 1 (w_X11_isFrom tb)), (346, ivS 11 91 1 1 6 0 (w_X11_demand tb)), (498, ivS 11 91 2 10 85 4 (w_X11_newTariff tb))]
def M_X11_tariff (tb : Nat → Option (Nat × Nat)) : MT := (tb, FX11, StX11, CX11, NwX11, ivOf (T_X11_tariff tb), 11, 91, 1)
def r_X11_tariff (tb : Nat → Option (Nat × Nat)) (K : Option AV → AX → Prop) (KX : String → AX → Prop) : PT := lfp (wpm (M_X11_tariff tb) B_X11_tariff K (fun _ _ _ E X _ _ => KX E X))
def w_X11_tariff (tb : Nat → Option (Nat × Nat)) : WP := fun as X K KX => gd ((ini0 as).length ≤ 2) (r_X11_tariff tb K KX 0 (iniL as 2) [] X 0 0)
theorem k_X11_tariff : B_X11_tariff.all (blkB FX11 CX11 NwX11 RX11 false cX11_tariff) = true := by decide +kernel
theorem g_X11_tariff : gw (.code yX11_tariff cX11_tariff 2 (some .int)) = true ∧ gw (.initialized yX11_tariff.cls) = true := by decide +kernel
theorem c_X11_tariff {l : Launch} {G : GX} (hl : l.stackTraces = false) : ∀ as X K KX, w_X11_tariff (gT G) as X K KX → CT l G yX11_tariff (.code yX11_tariff cX11_tariff 2 (some .int)) 7 106 11 91 as X K KX := fun as X K KX h => CT_of (M := M_X11_tariff (gT G)) (own := RX11) (ini := false) (T := T_X11_tariff (gT G)) (B := B_X11_tariff) (by decide +kernel) hl rfl (fun h => absurd h (by decide)) rfl tab_X11 k_X11_tariff rfl (Or.inr (Or.inr ⟨by decide, by decide⟩)) rfl
  ⟨ivS_ok (c_X11_isFrom hl) g_X11_isFrom.1 g_X11_isFrom.2 ml_X11_82 st_X11_isFrom py_X11_isFrom rfl, ivS_ok (c_X11_demand hl) g_X11_demand.1 g_X11_demand.2 ml_X11_86 st_X11_demand py_X11_demand rfl, ivS_ok (c_X11_newTariff hl) g_X11_newTariff.1 g_X11_newTariff.2 ml_X11_124 st_X11_newTariff py_X11_newTariff rfl, trivial⟩ (gd_use h).1 (gd_use h).2
def B_X1_has : List (Nat × List (Nat × Instr × Nat)) := [(0, [(0, .iload_n 1, 1), (1, .iconst 0, 1), (2, .iconst 5, 1), (3, .invokestatic 27, 3), (6, .ireturn, 1)])]
def T_X1_has (tb : Nat → Option (Nat × Nat)) : List (Nat × IV) := [(110, ivSN 0 0 3 0 0 1 (w_X11_isFrom tb))]
def M_X1_has (tb : Nat → Option (Nat × Nat)) : MT := (tb, FX1, StX1, CX1, NwX1, ivOf (T_X1_has tb), 0, 0, 2)
def r_X1_has (tb : Nat → Option (Nat × Nat)) (K : Option AV → AX → Prop) (KX : String → AX → Prop) : PT := lfp (wpm (M_X1_has tb) B_X1_has K (fun _ _ _ E X _ _ => KX E X))
def w_X1_has (tb : Nat → Option (Nat × Nat)) : WP := fun as X K KX => gd ((ini0 as).length ≤ 2) (r_X1_has tb K KX 0 (iniL as 2) [] X 0 0)
theorem k_X1_has : B_X1_has.all (blkB FX1 CX1 NwX1 RX1 false cX1_has) = true := by decide +kernel
theorem g_X1_has : gw (.code yX1_has cX1_has 2 (some .boolean)) = true ∧ gw (.initialized yX1_has.cls) = true := by decide +kernel
theorem c_X1_has {l : Launch} {G : GX} (hl : l.stackTraces = false) : ∀ as X K KX, w_X1_has (gT G) as X K KX → CT l G yX1_has (.code yX1_has cX1_has 2 (some .boolean)) 1 22 0 0 as X K KX := fun as X K KX h => CT_of (M := M_X1_has (gT G)) (own := RX1) (ini := false) (T := T_X1_has (gT G)) (B := B_X1_has) (by decide +kernel) hl rfl (fun h => absurd h (by decide)) rfl tab_X1 k_X1_has rfl (Or.inl rfl) rfl
  ⟨ivSN_ok (c_X11_isFrom hl) g_X11_isFrom.1 g_X11_isFrom.2 (show (RX1, 27) ∈ lw_nests from by decide) st_X11_isFrom py_X11_isFrom rfl, trivial⟩ (gd_use h).1 (gd_use h).2
theorem py_X1_has : plainY yX1_has 1 = true := by decide +kernel
theorem in_X1_has : gw (.instanceMethod yX1_has) = true := by decide +kernel
theorem sm_X1_has : gw (.sameMethod RX1 RX1 "has" "(I)Z") = true := by decide +kernel
theorem sc_X0_X1 : gw (.superclass RX0 RX1) = true := by decide +kernel
theorem ml_X0_9 : gw (.methodLink RX0 9 yX1_has) = true := by decide +kernel
def B_X0_has : List (Nat × List (Nat × Instr × Nat)) := [(0, [(0, .aload_n 0, 1), (1, .iload_n 1, 1), (2, .invokespecial 9, 3), (5, .ifCond .ne 9, 3), (8, .iload_n 1, 1), (9, .bipush 14, 2), (11, .if_icmp .ne 7, 3)]),
  (14, [(14, .iconst 1, 1), (15, .goto 4, 3)]),
  (18, [(18, .iconst 0, 1)]),
  (19, [(19, .ireturn, 1)])]
def T_X0_has (tb : Nat → Option (Nat × Nat)) : List (Nat × IV) := [(37, ivU tb 0 0 1 0 0 1 (w_X1_has tb))]
def M_X0_has (tb : Nat → Option (Nat × Nat)) : MT := (tb, FX0, StX0, CX0, NwX0, ivOf (T_X0_has tb), 0, 0, 2)
def r_X0_has (tb : Nat → Option (Nat × Nat)) (K : Option AV → AX → Prop) (KX : String → AX → Prop) : PT := lfp (wpm (M_X0_has tb) B_X0_has K (fun _ _ _ E X _ _ => KX E X))
def w_X0_has (tb : Nat → Option (Nat × Nat)) : WP := fun as X K KX => gd ((ini0 as).length ≤ 2) (r_X0_has tb K KX 0 (iniL as 2) [] X 0 0)
theorem k_X0_has : B_X0_has.all (blkB FX0 CX0 NwX0 RX0 false cX0_has) = true := by decide +kernel
theorem g_X0_has : gw (.code yX0_has cX0_has 2 (some .boolean)) = true ∧ gw (.initialized yX0_has.cls) = true := by decide +kernel
theorem c_X0_has {l : Launch} {G : GX} (hl : l.stackTraces = false) : ∀ as X K KX, w_X0_has (gT G) as X K KX → CT l G yX0_has (.code yX0_has cX0_has 2 (some .boolean)) 2 43 0 0 as X K KX := fun as X K KX h => CT_of (M := M_X0_has (gT G)) (own := RX0) (ini := false) (T := T_X0_has (gT G)) (B := B_X0_has) (by decide +kernel) hl rfl (fun h => absurd h (by decide)) rfl tab_X0 k_X0_has rfl (Or.inl rfl) rfl
  ⟨ivU_ok (c_X1_has hl) g_X1_has.1 g_X1_has.2 ml_X0_9 in_X1_has py_X1_has rfl sm_X1_has sc_X0_X1 (by decide), trivial⟩ (gd_use h).1 (gd_use h).2
theorem sc_X2_X1 : gw (.superclass RX2 RX1) = true := by decide +kernel
theorem ml_X2_9 : gw (.methodLink RX2 9 yX1_has) = true := by decide +kernel
def B_X2_has : List (Nat × List (Nat × Instr × Nat)) := [(0, [(0, .aload_n 0, 1), (1, .iload_n 1, 1), (2, .invokespecial 9, 3), (5, .ifCond .ne 14, 3), (8, .iload_n 1, 1), (9, .bipush 9, 2), (11, .bipush 10, 2), (13, .invokestatic 13, 3), (16, .ifCond .eq 7, 3)]),
  (19, [(19, .iconst 1, 1), (20, .goto 4, 3)]),
  (23, [(23, .iconst 0, 1)]),
  (24, [(24, .ireturn, 1)])]
def T_X2_has (tb : Nat → Option (Nat × Nat)) : List (Nat × IV) := [(37, ivU tb 0 0 1 0 0 1 (w_X1_has tb)), (54, ivSN 0 0 3 0 0 1 (w_X11_isFrom tb))]
def M_X2_has (tb : Nat → Option (Nat × Nat)) : MT := (tb, FX2, StX2, CX2, NwX2, ivOf (T_X2_has tb), 0, 0, 2)
def r_X2_has (tb : Nat → Option (Nat × Nat)) (K : Option AV → AX → Prop) (KX : String → AX → Prop) : PT := lfp (wpm (M_X2_has tb) B_X2_has K (fun _ _ _ E X _ _ => KX E X))
def w_X2_has (tb : Nat → Option (Nat × Nat)) : WP := fun as X K KX => gd ((ini0 as).length ≤ 2) (r_X2_has tb K KX 0 (iniL as 2) [] X 0 0)
theorem k_X2_has : B_X2_has.all (blkB FX2 CX2 NwX2 RX2 false cX2_has) = true := by decide +kernel
theorem g_X2_has : gw (.code yX2_has cX2_has 2 (some .boolean)) = true ∧ gw (.initialized yX2_has.cls) = true := by decide +kernel
theorem c_X2_has {l : Launch} {G : GX} (hl : l.stackTraces = false) : ∀ as X K KX, w_X2_has (gT G) as X K KX → CT l G yX2_has (.code yX2_has cX2_has 2 (some .boolean)) 2 43 0 0 as X K KX := fun as X K KX h => CT_of (M := M_X2_has (gT G)) (own := RX2) (ini := false) (T := T_X2_has (gT G)) (B := B_X2_has) (by decide +kernel) hl rfl (fun h => absurd h (by decide)) rfl tab_X2 k_X2_has rfl (Or.inl rfl) rfl
  ⟨ivU_ok (c_X1_has hl) g_X1_has.1 g_X1_has.2 ml_X2_9 in_X1_has py_X1_has rfl sm_X1_has sc_X2_X1 (by decide), ivSN_ok (c_X11_isFrom hl) g_X11_isFrom.1 g_X11_isFrom.2 (show (RX2, 13) ∈ lw_nests from by decide) st_X11_isFrom py_X11_isFrom rfl, trivial⟩ (gd_use h).1 (gd_use h).2
theorem py_X2_has : plainY yX2_has 1 = true := by decide +kernel
theorem in_X2_has : gw (.instanceMethod yX2_has) = true := by decide +kernel
theorem sm_X2_has : gw (.sameMethod RX2 RX2 "has" "(I)Z") = true := by decide +kernel
theorem sc_X3_X2 : gw (.superclass RX3 RX2) = true := by decide +kernel
theorem ml_X3_9 : gw (.methodLink RX3 9 yX2_has) = true := by decide +kernel
def B_X3_has : List (Nat × List (Nat × Instr × Nat)) := [(0, [(0, .aload_n 0, 1), (1, .iload_n 1, 1), (2, .invokespecial 9, 3), (5, .ifCond .ne 14, 3), (8, .iload_n 1, 1), (9, .bipush 11, 2), (11, .bipush 13, 2), (13, .invokestatic 13, 3), (16, .ifCond .eq 7, 3)]),
  (19, [(19, .iconst 1, 1), (20, .goto 4, 3)]),
  (23, [(23, .iconst 0, 1)]),
  (24, [(24, .ireturn, 1)])]
def T_X3_has (tb : Nat → Option (Nat × Nat)) : List (Nat × IV) := [(37, ivU tb 0 0 1 0 0 1 (w_X2_has tb)), (54, ivSN 0 0 3 0 0 1 (w_X11_isFrom tb))]
def M_X3_has (tb : Nat → Option (Nat × Nat)) : MT := (tb, FX3, StX3, CX3, NwX3, ivOf (T_X3_has tb), 0, 0, 2)
def r_X3_has (tb : Nat → Option (Nat × Nat)) (K : Option AV → AX → Prop) (KX : String → AX → Prop) : PT := lfp (wpm (M_X3_has tb) B_X3_has K (fun _ _ _ E X _ _ => KX E X))
def w_X3_has (tb : Nat → Option (Nat × Nat)) : WP := fun as X K KX => gd ((ini0 as).length ≤ 2) (r_X3_has tb K KX 0 (iniL as 2) [] X 0 0)
theorem k_X3_has : B_X3_has.all (blkB FX3 CX3 NwX3 RX3 false cX3_has) = true := by decide +kernel
theorem g_X3_has : gw (.code yX3_has cX3_has 2 (some .boolean)) = true ∧ gw (.initialized yX3_has.cls) = true := by decide +kernel
theorem c_X3_has {l : Launch} {G : GX} (hl : l.stackTraces = false) : ∀ as X K KX, w_X3_has (gT G) as X K KX → CT l G yX3_has (.code yX3_has cX3_has 2 (some .boolean)) 3 64 0 0 as X K KX := fun as X K KX h => CT_of (M := M_X3_has (gT G)) (own := RX3) (ini := false) (T := T_X3_has (gT G)) (B := B_X3_has) (by decide +kernel) hl rfl (fun h => absurd h (by decide)) rfl tab_X3 k_X3_has rfl (Or.inl rfl) rfl
  ⟨ivU_ok (c_X2_has hl) g_X2_has.1 g_X2_has.2 ml_X3_9 in_X2_has py_X2_has rfl sm_X2_has sc_X3_X2 (by decide), ivSN_ok (c_X11_isFrom hl) g_X11_isFrom.1 g_X11_isFrom.2 (show (RX3, 13) ∈ lw_nests from by decide) st_X11_isFrom py_X11_isFrom rfl, trivial⟩ (gd_use h).1 (gd_use h).2
theorem sc_X6_X1 : gw (.superclass RX6 RX1) = true := by decide +kernel
theorem ml_X6_9 : gw (.methodLink RX6 9 yX1_has) = true := by decide +kernel
def B_X6_has : List (Nat × List (Nat × Instr × Nat)) := [(0, [(0, .aload_n 0, 1), (1, .iload_n 1, 1), (2, .invokespecial 9, 3), (5, .ifCond .ne 14, 3), (8, .iload_n 1, 1), (9, .bipush 6, 2), (11, .bipush 8, 2), (13, .invokestatic 13, 3), (16, .ifCond .eq 7, 3)]),
  (19, [(19, .iconst 1, 1), (20, .goto 4, 3)]),
  (23, [(23, .iconst 0, 1)]),
  (24, [(24, .ireturn, 1)])]
def T_X6_has (tb : Nat → Option (Nat × Nat)) : List (Nat × IV) := [(37, ivU tb 0 0 1 0 0 1 (w_X1_has tb)), (54, ivSN 0 0 3 0 0 1 (w_X11_isFrom tb))]
def M_X6_has (tb : Nat → Option (Nat × Nat)) : MT := (tb, FX6, StX6, CX6, NwX6, ivOf (T_X6_has tb), 0, 0, 2)
def r_X6_has (tb : Nat → Option (Nat × Nat)) (K : Option AV → AX → Prop) (KX : String → AX → Prop) : PT := lfp (wpm (M_X6_has tb) B_X6_has K (fun _ _ _ E X _ _ => KX E X))
def w_X6_has (tb : Nat → Option (Nat × Nat)) : WP := fun as X K KX => gd ((ini0 as).length ≤ 2) (r_X6_has tb K KX 0 (iniL as 2) [] X 0 0)
theorem k_X6_has : B_X6_has.all (blkB FX6 CX6 NwX6 RX6 false cX6_has) = true := by decide +kernel
theorem g_X6_has : gw (.code yX6_has cX6_has 2 (some .boolean)) = true ∧ gw (.initialized yX6_has.cls) = true := by decide +kernel
theorem c_X6_has {l : Launch} {G : GX} (hl : l.stackTraces = false) : ∀ as X K KX, w_X6_has (gT G) as X K KX → CT l G yX6_has (.code yX6_has cX6_has 2 (some .boolean)) 2 43 0 0 as X K KX := fun as X K KX h => CT_of (M := M_X6_has (gT G)) (own := RX6) (ini := false) (T := T_X6_has (gT G)) (B := B_X6_has) (by decide +kernel) hl rfl (fun h => absurd h (by decide)) rfl tab_X6 k_X6_has rfl (Or.inl rfl) rfl
  ⟨ivU_ok (c_X1_has hl) g_X1_has.1 g_X1_has.2 ml_X6_9 in_X1_has py_X1_has rfl sm_X1_has sc_X6_X1 (by decide), ivSN_ok (c_X11_isFrom hl) g_X11_isFrom.1 g_X11_isFrom.2 (show (RX6, 13) ∈ lw_nests from by decide) st_X11_isFrom py_X11_isFrom rfl, trivial⟩ (gd_use h).1 (gd_use h).2
theorem se_X0_yX1_has_X0_has : gw (.selects RX0 yX1_has yX0_has) = true := by decide +kernel
theorem in_X0_has : gw (.instanceMethod yX0_has) = true := by decide +kernel
theorem se_X1_yX1_has_X1_has : gw (.selects RX1 yX1_has yX1_has) = true := by decide +kernel
theorem se_X2_yX1_has_X2_has : gw (.selects RX2 yX1_has yX2_has) = true := by decide +kernel
theorem se_X3_yX1_has_X3_has : gw (.selects RX3 yX1_has yX3_has) = true := by decide +kernel
theorem in_X3_has : gw (.instanceMethod yX3_has) = true := by decide +kernel
theorem se_X6_yX1_has_X6_has : gw (.selects RX6 yX1_has yX6_has) = true := by decide +kernel
theorem in_X6_has : gw (.instanceMethod yX6_has) = true := by decide +kernel
theorem sm_yX1_has : gw (.sameMethod RX1 RX1 "has" "(I)Z") = true := by decide +kernel
theorem ml_X11_128 : gw (.methodLink RX11 128 yX1_has) = true := by decide +kernel
def B_X11_set : List (Nat × List (Nat × Instr × Nat)) := [(0, [(0, .aload_n 0, 1), (1, .invokevirtual 76, 3), (4, .iload_n 1, 1), (5, .aload_n 0, 1), (6, .getfield 121, 3), (9, .invokestatic 91, 3), (12, .aload_n 0, 1), (13, .getfield 25, 3), (16, .iload_n 1, 1), (17, .aaload, 1), (18, .iload_n 2, 1), (19, .invokevirtual 128, 3), (22, .invokestatic 102, 3), (25, .iload_n 3, 1), (26, .getstatic 131, 3), (29, .iload_n 2, 1), (30, .iaload, 1), (31, .getstatic 134, 3), (34, .iload_n 2, 1), (35, .iaload, 1), (36, .invokestatic 82, 3), (39, .invokestatic 86, 3), (42, .aload_n 0, 1), (43, .getfield 25, 3), (46, .iload_n 1, 1), (47, .aaload, 1), (48, .getfield 137, 3), (51, .iload_n 2, 1), (52, .iaload, 1), (53, .istore 4, 2), (55, .aload_n 0, 1), (56, .getfield 25, 3), (59, .iload_n 1, 1), (60, .aaload, 1), (61, .getfield 137, 3), (64, .iload_n 2, 1), (65, .iload_n 3, 1), (66, .iastore, 1), (67, .iload 4, 2), (69, .ireturn, 1)])]
def T_X11_set (tb : Nat → Option (Nat × Nat)) : List (Nat × IV) := [(304, ivV tb 11 4 24 0 1 6 0 (w_X11_refuseWhileHired tb)), (366, ivS 4 24 2 1 6 0 (w_X11_demandPlace tb)), (512, ivD tb 1 1 [(0, w_X0_has tb), (1, w_X1_has tb), (2, w_X2_has tb), (3, w_X3_has tb), (6, w_X6_has tb)]), (410, ivS 4 24 1 1 6 0 (w_X11_demandSuch tb)), (330, ivS 4 24 3 0 0 1 (w_X11_isFrom tb)), (346, ivS 4 24 1 1 6 0 (w_X11_demand tb))]
def M_X11_set (tb : Nat → Option (Nat × Nat)) : MT := (tb, FX11, StX11, CX11, NwX11, ivOf (T_X11_set tb), 4, 24, 1)
def r_X11_set (tb : Nat → Option (Nat × Nat)) (K : Option AV → AX → Prop) (KX : String → AX → Prop) : PT := lfp (wpm (M_X11_set tb) B_X11_set K (fun _ _ _ E X _ _ => KX E X))
def w_X11_set (tb : Nat → Option (Nat × Nat)) : WP := fun as X K KX => gd ((ini0 as).length ≤ 5) (r_X11_set tb K KX 0 (iniL as 5) [] X 0 0)
theorem k_X11_set : B_X11_set.all (blkB FX11 CX11 NwX11 RX11 false cX11_set) = true := by decide +kernel
theorem g_X11_set : gw (.code yX11_set cX11_set 5 (some .int)) = true ∧ gw (.initialized yX11_set.cls) = true := by decide +kernel
theorem c_X11_set {l : Launch} {G : GX} (hl : l.stackTraces = false) : ∀ as X K KX, w_X11_set (gT G) as X K KX → CT l G yX11_set (.code yX11_set cX11_set 5 (some .int)) 8 121 4 24 as X K KX := fun as X K KX h => CT_of (M := M_X11_set (gT G)) (own := RX11) (ini := false) (T := T_X11_set (gT G)) (B := B_X11_set) (by decide +kernel) hl rfl (fun h => absurd h (by decide)) rfl tab_X11 k_X11_set rfl (Or.inr (Or.inr ⟨by decide, by decide⟩)) rfl
  ⟨ivV_ok (ci := 11) (c_X11_refuseWhileHired hl) g_X11_refuseWhileHired.1 g_X11_refuseWhileHired.2 ml_X11_76 in_X11_refuseWhileHired py_X11_refuseWhileHired rfl se_X11_refuseWhileHired, ivS_ok (c_X11_demandPlace hl) g_X11_demandPlace.1 g_X11_demandPlace.2 ml_X11_91 st_X11_demandPlace py_X11_demandPlace rfl, ivD_ok g_X1_has.1 ml_X11_128 in_X1_has py_X1_has sm_yX1_has ⟨⟨yX0_has, cX0_has, 2, (some .boolean), 2, 43, c_X0_has hl, g_X0_has.1, g_X0_has.2, in_X0_has, rfl, se_X0_yX1_has_X0_has⟩, ⟨yX1_has, cX1_has, 2, (some .boolean), 1, 22, c_X1_has hl, g_X1_has.1, g_X1_has.2, in_X1_has, rfl, se_X1_yX1_has_X1_has⟩, ⟨yX2_has, cX2_has, 2, (some .boolean), 2, 43, c_X2_has hl, g_X2_has.1, g_X2_has.2, in_X2_has, rfl, se_X2_yX1_has_X2_has⟩, ⟨yX3_has, cX3_has, 2, (some .boolean), 3, 64, c_X3_has hl, g_X3_has.1, g_X3_has.2, in_X3_has, rfl, se_X3_yX1_has_X3_has⟩, ⟨yX6_has, cX6_has, 2, (some .boolean), 2, 43, c_X6_has hl, g_X6_has.1, g_X6_has.2, in_X6_has, rfl, se_X6_yX1_has_X6_has⟩, trivial⟩, ivS_ok (c_X11_demandSuch hl) g_X11_demandSuch.1 g_X11_demandSuch.2 ml_X11_102 st_X11_demandSuch py_X11_demandSuch rfl, ivS_ok (c_X11_isFrom hl) g_X11_isFrom.1 g_X11_isFrom.2 ml_X11_82 st_X11_isFrom py_X11_isFrom rfl, ivS_ok (c_X11_demand hl) g_X11_demand.1 g_X11_demand.2 ml_X11_86 st_X11_demand py_X11_demand rfl, trivial⟩ (gd_use h).1 (gd_use h).2
def B_X11_number : List (Nat × List (Nat × Instr × Nat)) := [(0, [(0, .iload_n 1, 1), (1, .aload_n 0, 1), (2, .getfield 121, 3), (5, .invokestatic 91, 3), (8, .aload_n 0, 1), (9, .getfield 25, 3), (12, .iload_n 1, 1), (13, .aaload, 1), (14, .iload_n 2, 1), (15, .invokevirtual 128, 3), (18, .invokestatic 102, 3), (21, .aload_n 0, 1), (22, .getfield 25, 3), (25, .iload_n 1, 1), (26, .aaload, 1), (27, .getfield 137, 3), (30, .iload_n 2, 1), (31, .iaload, 1), (32, .ireturn, 1)])]
def T_X11_number (tb : Nat → Option (Nat × Nat)) : List (Nat × IV) := [(366, ivS 2 12 2 1 6 0 (w_X11_demandPlace tb)), (512, ivD tb 1 1 [(0, w_X0_has tb), (1, w_X1_has tb), (2, w_X2_has tb), (3, w_X3_has tb), (6, w_X6_has tb)]), (410, ivS 2 12 1 1 6 0 (w_X11_demandSuch tb))]
def M_X11_number (tb : Nat → Option (Nat × Nat)) : MT := (tb, FX11, StX11, CX11, NwX11, ivOf (T_X11_number tb), 2, 12, 1)
def r_X11_number (tb : Nat → Option (Nat × Nat)) (K : Option AV → AX → Prop) (KX : String → AX → Prop) : PT := lfp (wpm (M_X11_number tb) B_X11_number K (fun _ _ _ E X _ _ => KX E X))
def w_X11_number (tb : Nat → Option (Nat × Nat)) : WP := fun as X K KX => gd ((ini0 as).length ≤ 3) (r_X11_number tb K KX 0 (iniL as 3) [] X 0 0)
theorem k_X11_number : B_X11_number.all (blkB FX11 CX11 NwX11 RX11 false cX11_number) = true := by decide +kernel
theorem g_X11_number : gw (.code yX11_number cX11_number 3 (some .int)) = true ∧ gw (.initialized yX11_number.cls) = true := by decide +kernel
theorem c_X11_number {l : Launch} {G : GX} (hl : l.stackTraces = false) : ∀ as X K KX, w_X11_number (gT G) as X K KX → CT l G yX11_number (.code yX11_number cX11_number 3 (some .int)) 7 102 2 12 as X K KX := fun as X K KX h => CT_of (M := M_X11_number (gT G)) (own := RX11) (ini := false) (T := T_X11_number (gT G)) (B := B_X11_number) (by decide +kernel) hl rfl (fun h => absurd h (by decide)) rfl tab_X11 k_X11_number rfl (Or.inr (Or.inr ⟨by decide, by decide⟩)) rfl
  ⟨ivS_ok (c_X11_demandPlace hl) g_X11_demandPlace.1 g_X11_demandPlace.2 ml_X11_91 st_X11_demandPlace py_X11_demandPlace rfl, ivD_ok g_X1_has.1 ml_X11_128 in_X1_has py_X1_has sm_yX1_has ⟨⟨yX0_has, cX0_has, 2, (some .boolean), 2, 43, c_X0_has hl, g_X0_has.1, g_X0_has.2, in_X0_has, rfl, se_X0_yX1_has_X0_has⟩, ⟨yX1_has, cX1_has, 2, (some .boolean), 1, 22, c_X1_has hl, g_X1_has.1, g_X1_has.2, in_X1_has, rfl, se_X1_yX1_has_X1_has⟩, ⟨yX2_has, cX2_has, 2, (some .boolean), 2, 43, c_X2_has hl, g_X2_has.1, g_X2_has.2, in_X2_has, rfl, se_X2_yX1_has_X2_has⟩, ⟨yX3_has, cX3_has, 2, (some .boolean), 3, 64, c_X3_has hl, g_X3_has.1, g_X3_has.2, in_X3_has, rfl, se_X3_yX1_has_X3_has⟩, ⟨yX6_has, cX6_has, 2, (some .boolean), 2, 43, c_X6_has hl, g_X6_has.1, g_X6_has.2, in_X6_has, rfl, se_X6_yX1_has_X6_has⟩, trivial⟩, ivS_ok (c_X11_demandSuch hl) g_X11_demandSuch.1 g_X11_demandSuch.2 ml_X11_102 st_X11_demandSuch py_X11_demandSuch rfl, trivial⟩ (gd_use h).1 (gd_use h).2
def B_X0_kindNumber : List (Nat × List (Nat × Instr × Nat)) := [(0, [(0, .iconst 4, 1), (1, .ireturn, 1)])]
def T_X0_kindNumber (tb : Nat → Option (Nat × Nat)) : List (Nat × IV) := []
def M_X0_kindNumber (tb : Nat → Option (Nat × Nat)) : MT := (tb, FX0, StX0, CX0, NwX0, ivOf (T_X0_kindNumber tb), 0, 0, 1)
def r_X0_kindNumber (tb : Nat → Option (Nat × Nat)) (K : Option AV → AX → Prop) (KX : String → AX → Prop) : PT := lfp (wpm (M_X0_kindNumber tb) B_X0_kindNumber K (fun _ _ _ E X _ _ => KX E X))
def w_X0_kindNumber (tb : Nat → Option (Nat × Nat)) : WP := fun as X K KX => gd ((ini0 as).length ≤ 1) (r_X0_kindNumber tb K KX 0 (iniL as 1) [] X 0 0)
theorem k_X0_kindNumber : B_X0_kindNumber.all (blkB FX0 CX0 NwX0 RX0 false cX0_kindNumber) = true := by decide +kernel
theorem g_X0_kindNumber : gw (.code yX0_kindNumber cX0_kindNumber 1 (some .int)) = true ∧ gw (.initialized yX0_kindNumber.cls) = true := by decide +kernel
theorem c_X0_kindNumber {l : Launch} {G : GX} (hl : l.stackTraces = false) : ∀ as X K KX, w_X0_kindNumber (gT G) as X K KX → CT l G yX0_kindNumber (.code yX0_kindNumber cX0_kindNumber 1 (some .int)) 0 0 0 0 as X K KX := fun as X K KX h => CT_of (M := M_X0_kindNumber (gT G)) (own := RX0) (ini := false) (T := T_X0_kindNumber (gT G)) (B := B_X0_kindNumber) (by decide +kernel) hl rfl (fun h => absurd h (by decide)) rfl tab_X0 k_X0_kindNumber rfl (Or.inl rfl) rfl
  trivial (gd_use h).1 (gd_use h).2
def B_X1_kindNumber : List (Nat × List (Nat × Instr × Nat)) := [(0, [(0, .iconst 0, 1), (1, .ireturn, 1)])]
def T_X1_kindNumber (tb : Nat → Option (Nat × Nat)) : List (Nat × IV) := []
def M_X1_kindNumber (tb : Nat → Option (Nat × Nat)) : MT := (tb, FX1, StX1, CX1, NwX1, ivOf (T_X1_kindNumber tb), 0, 0, 1)
def r_X1_kindNumber (tb : Nat → Option (Nat × Nat)) (K : Option AV → AX → Prop) (KX : String → AX → Prop) : PT := lfp (wpm (M_X1_kindNumber tb) B_X1_kindNumber K (fun _ _ _ E X _ _ => KX E X))
def w_X1_kindNumber (tb : Nat → Option (Nat × Nat)) : WP := fun as X K KX => gd ((ini0 as).length ≤ 1) (r_X1_kindNumber tb K KX 0 (iniL as 1) [] X 0 0)
theorem k_X1_kindNumber : B_X1_kindNumber.all (blkB FX1 CX1 NwX1 RX1 false cX1_kindNumber) = true := by decide +kernel
theorem g_X1_kindNumber : gw (.code yX1_kindNumber cX1_kindNumber 1 (some .int)) = true ∧ gw (.initialized yX1_kindNumber.cls) = true := by decide +kernel
theorem c_X1_kindNumber {l : Launch} {G : GX} (hl : l.stackTraces = false) : ∀ as X K KX, w_X1_kindNumber (gT G) as X K KX → CT l G yX1_kindNumber (.code yX1_kindNumber cX1_kindNumber 1 (some .int)) 0 0 0 0 as X K KX := fun as X K KX h => CT_of (M := M_X1_kindNumber (gT G)) (own := RX1) (ini := false) (T := T_X1_kindNumber (gT G)) (B := B_X1_kindNumber) (by decide +kernel) hl rfl (fun h => absurd h (by decide)) rfl tab_X1 k_X1_kindNumber rfl (Or.inl rfl) rfl
  trivial (gd_use h).1 (gd_use h).2
def B_X2_kindNumber : List (Nat × List (Nat × Instr × Nat)) := [(0, [(0, .iconst 2, 1), (1, .ireturn, 1)])]
def T_X2_kindNumber (tb : Nat → Option (Nat × Nat)) : List (Nat × IV) := []
def M_X2_kindNumber (tb : Nat → Option (Nat × Nat)) : MT := (tb, FX2, StX2, CX2, NwX2, ivOf (T_X2_kindNumber tb), 0, 0, 1)
def r_X2_kindNumber (tb : Nat → Option (Nat × Nat)) (K : Option AV → AX → Prop) (KX : String → AX → Prop) : PT := lfp (wpm (M_X2_kindNumber tb) B_X2_kindNumber K (fun _ _ _ E X _ _ => KX E X))
def w_X2_kindNumber (tb : Nat → Option (Nat × Nat)) : WP := fun as X K KX => gd ((ini0 as).length ≤ 1) (r_X2_kindNumber tb K KX 0 (iniL as 1) [] X 0 0)
theorem k_X2_kindNumber : B_X2_kindNumber.all (blkB FX2 CX2 NwX2 RX2 false cX2_kindNumber) = true := by decide +kernel
theorem g_X2_kindNumber : gw (.code yX2_kindNumber cX2_kindNumber 1 (some .int)) = true ∧ gw (.initialized yX2_kindNumber.cls) = true := by decide +kernel
theorem c_X2_kindNumber {l : Launch} {G : GX} (hl : l.stackTraces = false) : ∀ as X K KX, w_X2_kindNumber (gT G) as X K KX → CT l G yX2_kindNumber (.code yX2_kindNumber cX2_kindNumber 1 (some .int)) 0 0 0 0 as X K KX := fun as X K KX h => CT_of (M := M_X2_kindNumber (gT G)) (own := RX2) (ini := false) (T := T_X2_kindNumber (gT G)) (B := B_X2_kindNumber) (by decide +kernel) hl rfl (fun h => absurd h (by decide)) rfl tab_X2 k_X2_kindNumber rfl (Or.inl rfl) rfl
  trivial (gd_use h).1 (gd_use h).2
def B_X3_kindNumber : List (Nat × List (Nat × Instr × Nat)) := [(0, [(0, .iconst 3, 1), (1, .ireturn, 1)])]
def T_X3_kindNumber (tb : Nat → Option (Nat × Nat)) : List (Nat × IV) := []
def M_X3_kindNumber (tb : Nat → Option (Nat × Nat)) : MT := (tb, FX3, StX3, CX3, NwX3, ivOf (T_X3_kindNumber tb), 0, 0, 1)
def r_X3_kindNumber (tb : Nat → Option (Nat × Nat)) (K : Option AV → AX → Prop) (KX : String → AX → Prop) : PT := lfp (wpm (M_X3_kindNumber tb) B_X3_kindNumber K (fun _ _ _ E X _ _ => KX E X))
def w_X3_kindNumber (tb : Nat → Option (Nat × Nat)) : WP := fun as X K KX => gd ((ini0 as).length ≤ 1) (r_X3_kindNumber tb K KX 0 (iniL as 1) [] X 0 0)
theorem k_X3_kindNumber : B_X3_kindNumber.all (blkB FX3 CX3 NwX3 RX3 false cX3_kindNumber) = true := by decide +kernel
theorem g_X3_kindNumber : gw (.code yX3_kindNumber cX3_kindNumber 1 (some .int)) = true ∧ gw (.initialized yX3_kindNumber.cls) = true := by decide +kernel
theorem c_X3_kindNumber {l : Launch} {G : GX} (hl : l.stackTraces = false) : ∀ as X K KX, w_X3_kindNumber (gT G) as X K KX → CT l G yX3_kindNumber (.code yX3_kindNumber cX3_kindNumber 1 (some .int)) 0 0 0 0 as X K KX := fun as X K KX h => CT_of (M := M_X3_kindNumber (gT G)) (own := RX3) (ini := false) (T := T_X3_kindNumber (gT G)) (B := B_X3_kindNumber) (by decide +kernel) hl rfl (fun h => absurd h (by decide)) rfl tab_X3 k_X3_kindNumber rfl (Or.inl rfl) rfl
  trivial (gd_use h).1 (gd_use h).2
def B_X6_kindNumber : List (Nat × List (Nat × Instr × Nat)) := [(0, [(0, .iconst 1, 1), (1, .ireturn, 1)])]
def T_X6_kindNumber (tb : Nat → Option (Nat × Nat)) : List (Nat × IV) := []
def M_X6_kindNumber (tb : Nat → Option (Nat × Nat)) : MT := (tb, FX6, StX6, CX6, NwX6, ivOf (T_X6_kindNumber tb), 0, 0, 1)
def r_X6_kindNumber (tb : Nat → Option (Nat × Nat)) (K : Option AV → AX → Prop) (KX : String → AX → Prop) : PT := lfp (wpm (M_X6_kindNumber tb) B_X6_kindNumber K (fun _ _ _ E X _ _ => KX E X))
def w_X6_kindNumber (tb : Nat → Option (Nat × Nat)) : WP := fun as X K KX => gd ((ini0 as).length ≤ 1) (r_X6_kindNumber tb K KX 0 (iniL as 1) [] X 0 0)
theorem k_X6_kindNumber : B_X6_kindNumber.all (blkB FX6 CX6 NwX6 RX6 false cX6_kindNumber) = true := by decide +kernel
theorem g_X6_kindNumber : gw (.code yX6_kindNumber cX6_kindNumber 1 (some .int)) = true ∧ gw (.initialized yX6_kindNumber.cls) = true := by decide +kernel
theorem c_X6_kindNumber {l : Launch} {G : GX} (hl : l.stackTraces = false) : ∀ as X K KX, w_X6_kindNumber (gT G) as X K KX → CT l G yX6_kindNumber (.code yX6_kindNumber cX6_kindNumber 1 (some .int)) 0 0 0 0 as X K KX := fun as X K KX h => CT_of (M := M_X6_kindNumber (gT G)) (own := RX6) (ini := false) (T := T_X6_kindNumber (gT G)) (B := B_X6_kindNumber) (by decide +kernel) hl rfl (fun h => absurd h (by decide)) rfl tab_X6 k_X6_kindNumber rfl (Or.inl rfl) rfl
  trivial (gd_use h).1 (gd_use h).2
