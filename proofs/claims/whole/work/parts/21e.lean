theorem py_X5_takeByHand : plainY yX5_takeByHand 1 = true := by decide +kernel
theorem in_X5_takeByHand : gw (.instanceMethod yX5_takeByHand) = true := by decide +kernel
theorem se_X5_takeByHand : gw (.selects RX5 yX5_takeByHand yX5_takeByHand) = true := by decide +kernel
theorem ml_X4_98 : gw (.methodLink RX4 98 yX5_takeByHand) = true := by decide +kernel
def B_X4_change : List (Nat × List (Nat × Instr × Nat)) := [(0, [(0, .aload_n 0, 1), (1, .getfield 22, 3), (4, .aload_n 0, 1), (5, .getfield 12, 3), (8, .getfield 95, 3), (11, .aload_n 0, 1), (12, .getfield 12, 3), (15, .getfield 71, 3), (18, .iastore, 1), (19, .aload_n 0, 1), (20, .getfield 28, 3), (23, .aload_n 0, 1), (24, .getfield 12, 3), (27, .getfield 95, 3), (30, .aload_n 1, 1), (31, .aastore, 1), (32, .aload_n 0, 1), (33, .getfield 12, 3), (36, .aload_n 1, 1), (37, .invokevirtual 98, 3), (40, .return_, 1)])]
def T_X4_change (tb : Nat → Option (Nat × Nat)) : List (Nat × IV) := [(392, ivV tb 5 0 0 1 0 0 0 (w_X5_takeByHand tb))]
def M_X4_change (tb : Nat → Option (Nat × Nat)) : MT := (tb, FX4, StX4, CX4, NwX4, ivOf (T_X4_change tb), 0, 0, 0)
def r_X4_change (tb : Nat → Option (Nat × Nat)) (K : Option AV → AX → Prop) (KX : String → AX → Prop) : PT := lfp (wpm (M_X4_change tb) B_X4_change K (fun _ _ _ E X _ _ => KX E X))
def w_X4_change (tb : Nat → Option (Nat × Nat)) : WP := fun as X K KX => gd ((ini0 as).length ≤ 2) (r_X4_change tb K KX 0 (iniL as 2) [] X 0 0)
theorem k_X4_change : B_X4_change.all (blkB FX4 CX4 NwX4 RX4 false cX4_change) = true := by decide +kernel
theorem g_X4_change : gw (.code yX4_change cX4_change 2 none) = true ∧ gw (.initialized yX4_change.cls) = true := by decide +kernel
theorem c_X4_change {l : Launch} {G : GX} (hl : l.stackTraces = false) : ∀ as X K KX, w_X4_change (gT G) as X K KX → CT l G yX4_change (.code yX4_change cX4_change 2 none) 3 64 0 0 as X K KX := fun as X K KX h => CT_of (M := M_X4_change (gT G)) (own := RX4) (ini := false) (T := T_X4_change (gT G)) (B := B_X4_change) (by decide +kernel) hl rfl (fun h => absurd h (by decide)) rfl tab_X4 k_X4_change rfl (Or.inr (Or.inl nw_X4)) rfl
  ⟨ivV_ok (ci := 5) (c_X5_takeByHand hl) g_X5_takeByHand.1 g_X5_takeByHand.2 ml_X4_98 in_X5_takeByHand py_X5_takeByHand rfl se_X5_takeByHand, trivial⟩ (gd_use h).1 (gd_use h).2
theorem py_X4_change : plainY yX4_change 1 = true := by decide +kernel
theorem in_X4_change : gw (.instanceMethod yX4_change) = true := by decide +kernel
theorem se_X4_change : gw (.selects RX4 yX4_change yX4_change) = true := by decide +kernel
theorem ml_X11_211 : gw (.methodLink RX11 211 yX4_change) = true := by decide +kernel
def B_X11_hand : List (Nat × List (Nat × Instr × Nat)) := [(0, [(0, .aload_n 0, 1), (1, .invokevirtual 187, 3), (4, .aload_n 0, 1), (5, .getfield 46, 3), (8, .getfield 177, 3), (11, .getfield 200, 3), (14, .ifCond .eq 22, 3), (17, .aload_n 0, 1), (18, .getfield 46, 3), (21, .getfield 177, 3), (24, .getfield 204, 3), (27, .bipush 50, 2), (29, .if_icmp .ge 7, 3), (32, .iconst 1, 1), (33, .goto 4, 3)]),
  (36, [(36, .iconst 0, 1)]),
  (37, [(37, .invokestatic 193, 3), (40, .iload_n 1, 1), (41, .bipush 12, 2), (43, .invokestatic 91, 3), (46, .aload_n 0, 1), (47, .iload_n 1, 1), (48, .invokevirtual 169, 3), (51, .astore_n 2, 1), (52, .aload_n 2, 1), (53, .aload_n 0, 1), (54, .getfield 46, 3), (57, .getfield 177, 3), (60, .getfield 207, 3), (63, .if_acmp .ne 5, 3), (66, .iconst 0, 1), (67, .ireturn, 1)]),
  (68, [(68, .aload_n 0, 1), (69, .getfield 46, 3), (72, .aload_n 2, 1), (73, .invokevirtual 211, 3), (76, .iconst 1, 1), (77, .ireturn, 1)])]
def T_X11_hand (tb : Nat → Option (Nat × Nat)) : List (Nat × IV) := [(748, ivV tb 11 5 30 0 1 6 0 (w_X11_demandHired tb)), (774, ivS 5 30 1 1 6 0 (w_X11_demandState tb)), (366, ivS 5 30 2 1 6 0 (w_X11_demandPlace tb)), (676, ivV tb 11 5 30 1 2 12 4 (w_X11_tariffHeld tb)), (844, ivV tb 4 5 30 1 0 0 0 (w_X4_change tb))]
def M_X11_hand (tb : Nat → Option (Nat × Nat)) : MT := (tb, FX11, StX11, CX11, NwX11, ivOf (T_X11_hand tb), 5, 30, 2)
def r_X11_hand (tb : Nat → Option (Nat × Nat)) (K : Option AV → AX → Prop) (KX : String → AX → Prop) : PT := lfp (wpm (M_X11_hand tb) B_X11_hand K (fun _ _ _ E X _ _ => KX E X))
def w_X11_hand (tb : Nat → Option (Nat × Nat)) : WP := fun as X K KX => gd ((ini0 as).length ≤ 3) (r_X11_hand tb K KX 0 (iniL as 3) [] X 0 0)
theorem k_X11_hand : B_X11_hand.all (blkB FX11 CX11 NwX11 RX11 false cX11_hand) = true := by decide +kernel
theorem g_X11_hand : gw (.code yX11_hand cX11_hand 3 (some .boolean)) = true ∧ gw (.initialized yX11_hand.cls) = true := by decide +kernel
theorem c_X11_hand {l : Launch} {G : GX} (hl : l.stackTraces = false) : ∀ as X K KX, w_X11_hand (gT G) as X K KX → CT l G yX11_hand (.code yX11_hand cX11_hand 3 (some .boolean)) 8 122 5 30 as X K KX := fun as X K KX h => CT_of (M := M_X11_hand (gT G)) (own := RX11) (ini := false) (T := T_X11_hand (gT G)) (B := B_X11_hand) (by decide +kernel) hl rfl (fun h => absurd h (by decide)) rfl tab_X11 k_X11_hand rfl (Or.inr (Or.inr ⟨by decide, by decide⟩)) rfl
  ⟨ivV_ok (ci := 11) (c_X11_demandHired hl) g_X11_demandHired.1 g_X11_demandHired.2 ml_X11_187 in_X11_demandHired py_X11_demandHired rfl se_X11_demandHired, ivS_ok (c_X11_demandState hl) g_X11_demandState.1 g_X11_demandState.2 ml_X11_193 st_X11_demandState py_X11_demandState rfl, ivS_ok (c_X11_demandPlace hl) g_X11_demandPlace.1 g_X11_demandPlace.2 ml_X11_91 st_X11_demandPlace py_X11_demandPlace rfl, ivV_ok (ci := 11) (c_X11_tariffHeld hl) g_X11_tariffHeld.1 g_X11_tariffHeld.2 ml_X11_169 in_X11_tariffHeld py_X11_tariffHeld rfl se_X11_tariffHeld, ivV_ok (ci := 4) (c_X4_change hl) g_X4_change.1 g_X4_change.2 ml_X11_211 in_X4_change py_X4_change rfl se_X4_change, trivial⟩ (gd_use h).1 (gd_use h).2
theorem ml_X11_218 : gw (.methodLink RX11 218 yX5_charge) = true := by decide +kernel
def B_X11_extra : List (Nat × List (Nat × Instr × Nat)) := [(0, [(0, .aload_n 0, 1), (1, .invokevirtual 187, 3), (4, .iload_n 1, 1), (5, .iconst 0, 1), (6, .sipush 10000, 3), (9, .invokestatic 82, 3), (12, .invokestatic 86, 3), (15, .aload_n 0, 1), (16, .getfield 46, 3), (19, .getfield 177, 3), (22, .dup, 1), (23, .getfield 215, 3), (26, .iload_n 1, 1), (27, .iadd, 1), (28, .putfield 215, 3), (31, .aload_n 0, 1), (32, .getfield 46, 3), (35, .getfield 177, 3), (38, .iload_n 1, 1), (39, .invokevirtual 218, 3), (42, .aload_n 0, 1), (43, .getfield 46, 3), (46, .getfield 177, 3), (49, .getfield 222, 3), (52, .ireturn, 1)])]
def T_X11_extra (tb : Nat → Option (Nat × Nat)) : List (Nat × IV) := [(748, ivV tb 11 2 12 0 1 6 0 (w_X11_demandHired tb)), (330, ivS 2 12 3 0 0 1 (w_X11_isFrom tb)), (346, ivS 2 12 1 1 6 0 (w_X11_demand tb)), (872, ivV tb 5 2 12 1 0 0 0 (w_X5_charge tb))]
def M_X11_extra (tb : Nat → Option (Nat × Nat)) : MT := (tb, FX11, StX11, CX11, NwX11, ivOf (T_X11_extra tb), 2, 12, 1)
def r_X11_extra (tb : Nat → Option (Nat × Nat)) (K : Option AV → AX → Prop) (KX : String → AX → Prop) : PT := lfp (wpm (M_X11_extra tb) B_X11_extra K (fun _ _ _ E X _ _ => KX E X))
def w_X11_extra (tb : Nat → Option (Nat × Nat)) : WP := fun as X K KX => gd ((ini0 as).length ≤ 2) (r_X11_extra tb K KX 0 (iniL as 2) [] X 0 0)
theorem k_X11_extra : B_X11_extra.all (blkB FX11 CX11 NwX11 RX11 false cX11_extra) = true := by decide +kernel
theorem g_X11_extra : gw (.code yX11_extra cX11_extra 2 (some .int)) = true ∧ gw (.initialized yX11_extra.cls) = true := by decide +kernel
theorem c_X11_extra {l : Launch} {G : GX} (hl : l.stackTraces = false) : ∀ as X K KX, w_X11_extra (gT G) as X K KX → CT l G yX11_extra (.code yX11_extra cX11_extra 2 (some .int)) 8 121 2 12 as X K KX := fun as X K KX h => CT_of (M := M_X11_extra (gT G)) (own := RX11) (ini := false) (T := T_X11_extra (gT G)) (B := B_X11_extra) (by decide +kernel) hl rfl (fun h => absurd h (by decide)) rfl tab_X11 k_X11_extra rfl (Or.inr (Or.inr ⟨by decide, by decide⟩)) rfl
  ⟨ivV_ok (ci := 11) (c_X11_demandHired hl) g_X11_demandHired.1 g_X11_demandHired.2 ml_X11_187 in_X11_demandHired py_X11_demandHired rfl se_X11_demandHired, ivS_ok (c_X11_isFrom hl) g_X11_isFrom.1 g_X11_isFrom.2 ml_X11_82 st_X11_isFrom py_X11_isFrom rfl, ivS_ok (c_X11_demand hl) g_X11_demand.1 g_X11_demand.2 ml_X11_86 st_X11_demand py_X11_demand rfl, ivV_ok (ci := 5) (c_X5_charge hl) g_X5_charge.1 g_X5_charge.2 ml_X11_218 in_X5_charge py_X5_charge rfl se_X5_charge, trivial⟩ (gd_use h).1 (gd_use h).2
def B_X1_isFlatBetween : List (Nat × List (Nat × Instr × Nat)) := [(0, [(0, .iconst 0, 1), (1, .ireturn, 1)])]
def T_X1_isFlatBetween (tb : Nat → Option (Nat × Nat)) : List (Nat × IV) := []
def M_X1_isFlatBetween (tb : Nat → Option (Nat × Nat)) : MT := (tb, FX1, StX1, CX1, NwX1, ivOf (T_X1_isFlatBetween tb), 0, 0, 2)
def r_X1_isFlatBetween (tb : Nat → Option (Nat × Nat)) (K : Option AV → AX → Prop) (KX : String → AX → Prop) : PT := lfp (wpm (M_X1_isFlatBetween tb) B_X1_isFlatBetween K (fun _ _ _ E X _ _ => KX E X))
def w_X1_isFlatBetween (tb : Nat → Option (Nat × Nat)) : WP := fun as X K KX => gd ((ini0 as).length ≤ 3) (r_X1_isFlatBetween tb K KX 0 (iniL as 3) [] X 0 0)
theorem k_X1_isFlatBetween : B_X1_isFlatBetween.all (blkB FX1 CX1 NwX1 RX1 false cX1_isFlatBetween) = true := by decide +kernel
theorem g_X1_isFlatBetween : gw (.code yX1_isFlatBetween cX1_isFlatBetween 3 (some .boolean)) = true ∧ gw (.initialized yX1_isFlatBetween.cls) = true := by decide +kernel
theorem c_X1_isFlatBetween {l : Launch} {G : GX} (hl : l.stackTraces = false) : ∀ as X K KX, w_X1_isFlatBetween (gT G) as X K KX → CT l G yX1_isFlatBetween (.code yX1_isFlatBetween cX1_isFlatBetween 3 (some .boolean)) 0 0 0 0 as X K KX := fun as X K KX h => CT_of (M := M_X1_isFlatBetween (gT G)) (own := RX1) (ini := false) (T := T_X1_isFlatBetween (gT G)) (B := B_X1_isFlatBetween) (by decide +kernel) hl rfl (fun h => absurd h (by decide)) rfl tab_X1 k_X1_isFlatBetween rfl (Or.inl rfl) rfl
  trivial (gd_use h).1 (gd_use h).2
def B_X3_isFlatBetween : List (Nat × List (Nat × Instr × Nat)) := [(0, [(0, .aload_n 0, 1), (1, .getfield 17, 3), (4, .bipush 11, 2), (6, .iaload, 1), (7, .istore_n 3, 1), (8, .aload_n 0, 1), (9, .getfield 17, 3), (12, .bipush 12, 2), (14, .iaload, 1), (15, .istore 4, 2), (17, .iload_n 1, 1), (18, .iload_n 3, 1), (19, .if_icmp .ne 9, 3), (22, .iload_n 2, 1), (23, .iload 4, 2), (25, .if_icmp .eq 14, 3)]),
  (28, [(28, .iload_n 1, 1), (29, .iload 4, 2), (31, .if_icmp .ne 12, 3), (34, .iload_n 2, 1), (35, .iload_n 3, 1), (36, .if_icmp .ne 7, 3)]),
  (39, [(39, .iconst 1, 1), (40, .goto 4, 3)]),
  (43, [(43, .iconst 0, 1)]),
  (44, [(44, .ireturn, 1)])]
def T_X3_isFlatBetween (tb : Nat → Option (Nat × Nat)) : List (Nat × IV) := []
def M_X3_isFlatBetween (tb : Nat → Option (Nat × Nat)) : MT := (tb, FX3, StX3, CX3, NwX3, ivOf (T_X3_isFlatBetween tb), 0, 0, 2)
def r_X3_isFlatBetween (tb : Nat → Option (Nat × Nat)) (K : Option AV → AX → Prop) (KX : String → AX → Prop) : PT := lfp (wpm (M_X3_isFlatBetween tb) B_X3_isFlatBetween K (fun _ _ _ E X _ _ => KX E X))
def w_X3_isFlatBetween (tb : Nat → Option (Nat × Nat)) : WP := fun as X K KX => gd ((ini0 as).length ≤ 5) (r_X3_isFlatBetween tb K KX 0 (iniL as 5) [] X 0 0)
theorem k_X3_isFlatBetween : B_X3_isFlatBetween.all (blkB FX3 CX3 NwX3 RX3 false cX3_isFlatBetween) = true := by decide +kernel
theorem g_X3_isFlatBetween : gw (.code yX3_isFlatBetween cX3_isFlatBetween 5 (some .boolean)) = true ∧ gw (.initialized yX3_isFlatBetween.cls) = true := by decide +kernel
theorem c_X3_isFlatBetween {l : Launch} {G : GX} (hl : l.stackTraces = false) : ∀ as X K KX, w_X3_isFlatBetween (gT G) as X K KX → CT l G yX3_isFlatBetween (.code yX3_isFlatBetween cX3_isFlatBetween 5 (some .boolean)) 0 0 0 0 as X K KX := fun as X K KX h => CT_of (M := M_X3_isFlatBetween (gT G)) (own := RX3) (ini := false) (T := T_X3_isFlatBetween (gT G)) (B := B_X3_isFlatBetween) (by decide +kernel) hl rfl (fun h => absurd h (by decide)) rfl tab_X3 k_X3_isFlatBetween rfl (Or.inl rfl) rfl
  trivial (gd_use h).1 (gd_use h).2
theorem se_X0_yX1_isFlatBetween_X1_isFlatBetween : gw (.selects RX0 yX1_isFlatBetween yX1_isFlatBetween) = true := by decide +kernel
theorem in_X1_isFlatBetween : gw (.instanceMethod yX1_isFlatBetween) = true := by decide +kernel
theorem se_X1_yX1_isFlatBetween_X1_isFlatBetween : gw (.selects RX1 yX1_isFlatBetween yX1_isFlatBetween) = true := by decide +kernel
theorem se_X2_yX1_isFlatBetween_X1_isFlatBetween : gw (.selects RX2 yX1_isFlatBetween yX1_isFlatBetween) = true := by decide +kernel
theorem se_X3_yX1_isFlatBetween_X3_isFlatBetween : gw (.selects RX3 yX1_isFlatBetween yX3_isFlatBetween) = true := by decide +kernel
theorem in_X3_isFlatBetween : gw (.instanceMethod yX3_isFlatBetween) = true := by decide +kernel
theorem se_X6_yX1_isFlatBetween_X1_isFlatBetween : gw (.selects RX6 yX1_isFlatBetween yX1_isFlatBetween) = true := by decide +kernel
theorem sm_yX1_isFlatBetween : gw (.sameMethod RX1 RX1 "isFlatBetween" "(II)Z") = true := by decide +kernel
theorem ml_X5_108 : gw (.methodLink RX5 108 yX1_isFlatBetween) = true := by decide +kernel
theorem py_X1_isFlatBetween : plainY yX1_isFlatBetween 2 = true := by decide +kernel
def B_X5_finish : List (Nat × List (Nat × Instr × Nat)) := [(0, [(0, .aload_n 0, 1), (1, .getfield 59, 3), (4, .ifCond .ne 19, 3), (7, .aload_n 0, 1), (8, .getfield 73, 3), (11, .iload_n 1, 1), (12, .iload_n 2, 1), (13, .invokevirtual 108, 3), (16, .ifCond .eq 7, 3), (19, .iconst 1, 1), (20, .goto 4, 3)]),
  (23, [(23, .iconst 0, 1)]),
  (24, [(24, .istore_n 3, 1), (25, .iload_n 3, 1), (26, .ifCond .eq 24, 3), (29, .aload_n 0, 1), (30, .aload_n 0, 1), (31, .getfield 73, 3), (34, .getfield 35, 3), (37, .bipush 13, 2), (39, .iaload, 1), (40, .i2l, 1), (41, .aload_n 0, 1), (42, .getfield 50, 3), (45, .i2l, 1), (46, .ladd, 1), (47, .putfield 41, 3)]),
  (50, [(50, .iload_n 3, 1), (51, .ireturn, 1)])]
def T_X5_finish (tb : Nat → Option (Nat × Nat)) : List (Nat × IV) := [(432, ivD tb 2 1 [(0, w_X1_isFlatBetween tb), (1, w_X1_isFlatBetween tb), (2, w_X1_isFlatBetween tb), (3, w_X3_isFlatBetween tb), (6, w_X1_isFlatBetween tb)])]
def M_X5_finish (tb : Nat → Option (Nat × Nat)) : MT := (tb, FX5, StX5, CX5, NwX5, ivOf (T_X5_finish tb), 0, 0, 2)
def r_X5_finish (tb : Nat → Option (Nat × Nat)) (K : Option AV → AX → Prop) (KX : String → AX → Prop) : PT := lfp (wpm (M_X5_finish tb) B_X5_finish K (fun _ _ _ E X _ _ => KX E X))
def w_X5_finish (tb : Nat → Option (Nat × Nat)) : WP := fun as X K KX => gd ((ini0 as).length ≤ 4) (r_X5_finish tb K KX 0 (iniL as 4) [] X 0 0)
theorem k_X5_finish : B_X5_finish.all (blkB FX5 CX5 NwX5 RX5 false cX5_finish) = true := by decide +kernel
theorem g_X5_finish : gw (.code yX5_finish cX5_finish 4 (some .boolean)) = true ∧ gw (.initialized yX5_finish.cls) = true := by decide +kernel
theorem c_X5_finish {l : Launch} {G : GX} (hl : l.stackTraces = false) : ∀ as X K KX, w_X5_finish (gT G) as X K KX → CT l G yX5_finish (.code yX5_finish cX5_finish 4 (some .boolean)) 1 24 0 0 as X K KX := fun as X K KX h => CT_of (M := M_X5_finish (gT G)) (own := RX5) (ini := false) (T := T_X5_finish (gT G)) (B := B_X5_finish) (by decide +kernel) hl rfl (fun h => absurd h (by decide)) rfl tab_X5 k_X5_finish rfl (Or.inr (Or.inl nw_X5)) rfl
  ⟨ivD_ok g_X1_isFlatBetween.1 ml_X5_108 in_X1_isFlatBetween py_X1_isFlatBetween sm_yX1_isFlatBetween ⟨⟨yX1_isFlatBetween, cX1_isFlatBetween, 3, (some .boolean), 0, 0, c_X1_isFlatBetween hl, g_X1_isFlatBetween.1, g_X1_isFlatBetween.2, in_X1_isFlatBetween, rfl, se_X0_yX1_isFlatBetween_X1_isFlatBetween⟩, ⟨yX1_isFlatBetween, cX1_isFlatBetween, 3, (some .boolean), 0, 0, c_X1_isFlatBetween hl, g_X1_isFlatBetween.1, g_X1_isFlatBetween.2, in_X1_isFlatBetween, rfl, se_X1_yX1_isFlatBetween_X1_isFlatBetween⟩, ⟨yX1_isFlatBetween, cX1_isFlatBetween, 3, (some .boolean), 0, 0, c_X1_isFlatBetween hl, g_X1_isFlatBetween.1, g_X1_isFlatBetween.2, in_X1_isFlatBetween, rfl, se_X2_yX1_isFlatBetween_X1_isFlatBetween⟩, ⟨yX3_isFlatBetween, cX3_isFlatBetween, 5, (some .boolean), 0, 0, c_X3_isFlatBetween hl, g_X3_isFlatBetween.1, g_X3_isFlatBetween.2, in_X3_isFlatBetween, rfl, se_X3_yX1_isFlatBetween_X3_isFlatBetween⟩, ⟨yX1_isFlatBetween, cX1_isFlatBetween, 3, (some .boolean), 0, 0, c_X1_isFlatBetween hl, g_X1_isFlatBetween.1, g_X1_isFlatBetween.2, in_X1_isFlatBetween, rfl, se_X6_yX1_isFlatBetween_X1_isFlatBetween⟩, trivial⟩, trivial⟩ (gd_use h).1 (gd_use h).2
theorem py_X5_finish : plainY yX5_finish 2 = true := by decide +kernel
theorem in_X5_finish : gw (.instanceMethod yX5_finish) = true := by decide +kernel
theorem se_X5_finish : gw (.selects RX5 yX5_finish yX5_finish) = true := by decide +kernel
theorem ml_X4_102 : gw (.methodLink RX4 102 yX5_finish) = true := by decide +kernel
def B_X4_close : List (Nat × List (Nat × Instr × Nat)) := [(0, [(0, .aload_n 0, 1), (1, .aload_n 0, 1), (2, .getfield 12, 3), (5, .aload_n 0, 1), (6, .getfield 44, 3), (9, .iload_n 1, 1), (10, .invokevirtual 102, 3), (13, .putfield 65, 3), (16, .aload_n 0, 1), (17, .iload_n 1, 1), (18, .putfield 47, 3), (21, .aload_n 0, 1), (22, .iconst 0, 1), (23, .putfield 40, 3), (26, .return_, 1)])]
def T_X4_close (tb : Nat → Option (Nat × Nat)) : List (Nat × IV) := [(408, ivV tb 5 0 0 2 0 0 1 (w_X5_finish tb))]
def M_X4_close (tb : Nat → Option (Nat × Nat)) : MT := (tb, FX4, StX4, CX4, NwX4, ivOf (T_X4_close tb), 0, 0, 0)
def r_X4_close (tb : Nat → Option (Nat × Nat)) (K : Option AV → AX → Prop) (KX : String → AX → Prop) : PT := lfp (wpm (M_X4_close tb) B_X4_close K (fun _ _ _ E X _ _ => KX E X))
def w_X4_close (tb : Nat → Option (Nat × Nat)) : WP := fun as X K KX => gd ((ini0 as).length ≤ 2) (r_X4_close tb K KX 0 (iniL as 2) [] X 0 0)
theorem k_X4_close : B_X4_close.all (blkB FX4 CX4 NwX4 RX4 false cX4_close) = true := by decide +kernel
theorem g_X4_close : gw (.code yX4_close cX4_close 2 none) = true ∧ gw (.initialized yX4_close.cls) = true := by decide +kernel
theorem c_X4_close {l : Launch} {G : GX} (hl : l.stackTraces = false) : ∀ as X K KX, w_X4_close (gT G) as X K KX → CT l G yX4_close (.code yX4_close cX4_close 2 none) 2 47 0 0 as X K KX := fun as X K KX h => CT_of (M := M_X4_close (gT G)) (own := RX4) (ini := false) (T := T_X4_close (gT G)) (B := B_X4_close) (by decide +kernel) hl rfl (fun h => absurd h (by decide)) rfl tab_X4 k_X4_close rfl (Or.inr (Or.inl nw_X4)) rfl
  ⟨ivV_ok (ci := 5) (c_X5_finish hl) g_X5_finish.1 g_X5_finish.2 ml_X4_102 in_X5_finish py_X5_finish rfl se_X5_finish, trivial⟩ (gd_use h).1 (gd_use h).2
theorem ml_J7_304 : gw (.methodLink RJ7 304 Lib.Math.min.name) = true := by decide +kernel
theorem ml_J7_150 : gw (.methodLink RJ7 150 arraycopyName) = true := by decide +kernel
def B_J7_copyOf_59c91 : List (Nat × List (Nat × Instr × Nat)) := [(0, [(0, .iload_n 1, 1), (1, .aload_n 0, 1), (2, .arraylength, 1), (3, .if_icmp .ne 11, 3)]),
  (14, [(14, .iload_n 1, 1), (15, .newarray .int, 2), (17, .astore_n 2, 1), (18, .aload_n 0, 1), (19, .iconst 0, 1), (20, .aload_n 2, 1), (21, .iconst 0, 1), (22, .aload_n 0, 1), (23, .arraylength, 1), (24, .iload_n 1, 1), (25, .invokestatic 304, 3), (28, .invokestatic 150, 3), (31, .aload_n 2, 1), (32, .areturn, 1)])]
def T_J7_copyOf_59c91 (tb : Nat → Option (Nat × Nat)) : List (Nat × IV) := [(1218, ivM2 (fun x y => if y < x then y else x)), (602, ivA tb)]
def M_J7_copyOf_59c91 (tb : Nat → Option (Nat × Nat)) : MT := (tb, FJ7, StJ7, CJ7, NwJ7, ivOf (T_J7_copyOf_59c91 tb), 1, 2048, 4)
def r_J7_copyOf_59c91 (tb : Nat → Option (Nat × Nat)) (K : Option AV → AX → Prop) (KX : String → AX → Prop) : PT := lfp (wpm (M_J7_copyOf_59c91 tb) B_J7_copyOf_59c91 K (fun _ _ _ E X _ _ => KX E X))
def w_J7_copyOf_59c91 (tb : Nat → Option (Nat × Nat)) : WP := fun as X K KX => gd ((ini0 as).length ≤ 3) (r_J7_copyOf_59c91 tb K KX 0 (iniL as 3) [] X 0 0)
theorem k_J7_copyOf_59c91 : B_J7_copyOf_59c91.all (blkB FJ7 CJ7 NwJ7 RJ7 false cJ7_copyOf_59c91) = true := by decide +kernel
theorem g_J7_copyOf_59c91 : gw (.code yJ7_copyOf_59c91 cJ7_copyOf_59c91 3 (some (.array .int))) = true ∧ gw (.initialized yJ7_copyOf_59c91.cls) = true := by decide +kernel
theorem c_J7_copyOf_59c91 {l : Launch} {G : GX} (hl : l.stackTraces = false) : ∀ as X K KX, w_J7_copyOf_59c91 (gT G) as X K KX → CT l G yJ7_copyOf_59c91 (.code yJ7_copyOf_59c91 cJ7_copyOf_59c91 3 (some (.array .int))) 1 48 1 2048 as X K KX := fun as X K KX h => CT_of (M := M_J7_copyOf_59c91 (gT G)) (own := RJ7) (ini := false) (T := T_J7_copyOf_59c91 (gT G)) (B := B_J7_copyOf_59c91) (by decide +kernel) hl rfl (fun h => absurd h (by decide)) rfl tab_J7 k_J7_copyOf_59c91 rfl (Or.inl rfl) rfl
  ⟨ivMin_ok ml_J7_304 rfl, ivA_ok ml_J7_150 rfl, trivial⟩ (gd_use h).1 (gd_use h).2
theorem st_J7_copyOf_59c91 : gw (.static yJ7_copyOf_59c91) = true := by decide +kernel
theorem py_J7_copyOf_59c91 : plainY yJ7_copyOf_59c91 2 = true := by decide +kernel
theorem ml_X11_329 : gw (.methodLink RX11 329 yJ7_copyOf_59c91) = true := by decide +kernel
theorem ml_X11_337 : gw (.methodLink RX11 337 Lib.MathLoose.min_long.x) = true := by decide +kernel
theorem tab_X11_X11_writeReceipt : tabB FX11 CX11 StX11 [] RX11 = true := tab_sub tab_X11 (fun _ h => by cases h)
def B_X11_writeReceipt : List (Nat × List (Nat × Instr × Nat)) := [(0, [(0, .aload_n 0, 1), (1, .getfield 46, 3), (4, .getfield 184, 3), (7, .iconst 4, 1), (8, .imul, 1), (9, .istore_n 1, 1), (10, .iload_n 1, 1), (11, .iconst 4, 1), (12, .iadd, 1), (13, .aload_n 0, 1), (14, .getfield 50, 3), (17, .arraylength, 1), (18, .if_icmp .le 21, 3), (21, .aload_n 0, 1), (22, .aload_n 0, 1), (23, .getfield 50, 3), (26, .aload_n 0, 1), (27, .getfield 50, 3), (30, .arraylength, 1), (31, .iconst 2, 1), (32, .imul, 1), (33, .invokestatic 329, 3), (36, .putfield 50, 3)]),
  (39, [(39, .aload_n 0, 1), (40, .getfield 50, 3), (43, .iload_n 1, 1), (44, .aload_n 0, 1), (45, .getfield 46, 3), (48, .getfield 177, 3), (51, .getfield 231, 3), (54, .ldc2_w 335, 3), (57, .invokestatic 337, 3), (60, .l2i, 1), (61, .iastore, 1), (62, .aload_n 0, 1), (63, .getfield 50, 3), (66, .iload_n 1, 1), (67, .iconst 1, 1), (68, .iadd, 1), (69, .aload_n 0, 1), (70, .getfield 46, 3), (73, .getfield 177, 3), (76, .getfield 283, 3), (79, .iastore, 1), (80, .aload_n 0, 1), (81, .getfield 50, 3), (84, .iload_n 1, 1), (85, .iconst 2, 1), (86, .iadd, 1), (87, .aload_n 0, 1), (88, .getfield 46, 3), (91, .getfield 177, 3), (94, .getfield 190, 3), (97, .iastore, 1), (98, .aload_n 0, 1), (99, .getfield 50, 3), (102, .iload_n 1, 1), (103, .iconst 3, 1), (104, .iadd, 1), (105, .aload_n 0, 1), (106, .getfield 46, 3), (109, .getfield 326, 3), (112, .ifCond .eq 7, 3), (115, .iconst 1, 1), (116, .goto 4, 3)]),
  (119, [(119, .iconst 0, 1)]),
  (120, [(120, .iastore, 1), (121, .return_, 1)])]
def T_X11_writeReceipt (tb : Nat → Option (Nat × Nat)) : List (Nat × IV) := [(1318, ivS 1 2048 2 1 2048 4 (w_J7_copyOf_59c91 tb)), (1350, ivML (fun x y => if y < x then y else x))]
def M_X11_writeReceipt (tb : Nat → Option (Nat × Nat)) : MT := (tb, FX11, StX11, CX11, [], ivOf (T_X11_writeReceipt tb), 1, 2048, 0)
def r_X11_writeReceipt (tb : Nat → Option (Nat × Nat)) (K : Option AV → AX → Prop) (KX : String → AX → Prop) : PT := lfp (wpm (M_X11_writeReceipt tb) B_X11_writeReceipt K (fun _ _ _ E X _ _ => KX E X))
def w_X11_writeReceipt (tb : Nat → Option (Nat × Nat)) : WP := fun as X K KX => gd ((ini0 as).length ≤ 2) (r_X11_writeReceipt tb K KX 0 (iniL as 2) [] X 0 0)
theorem k_X11_writeReceipt : B_X11_writeReceipt.all (blkB FX11 CX11 [] RX11 false cX11_writeReceipt) = true := by decide +kernel
theorem g_X11_writeReceipt : gw (.code yX11_writeReceipt cX11_writeReceipt 2 none) = true ∧ gw (.initialized yX11_writeReceipt.cls) = true := by decide +kernel
theorem c_X11_writeReceipt {l : Launch} {G : GX} (hl : l.stackTraces = false) : ∀ as X K KX, w_X11_writeReceipt (gT G) as X K KX → CT l G yX11_writeReceipt (.code yX11_writeReceipt cX11_writeReceipt 2 none) 2 70 1 2048 as X K KX := fun as X K KX h => CT_of (M := M_X11_writeReceipt (gT G)) (own := RX11) (ini := false) (T := T_X11_writeReceipt (gT G)) (B := B_X11_writeReceipt) (by decide +kernel) hl rfl (fun h => absurd h (by decide)) rfl tab_X11_X11_writeReceipt k_X11_writeReceipt rfl (Or.inl rfl) rfl
  ⟨ivS_ok (c_J7_copyOf_59c91 hl) g_J7_copyOf_59c91.1 g_J7_copyOf_59c91.2 ml_X11_329 st_J7_copyOf_59c91 py_J7_copyOf_59c91 rfl, ivMinL_ok ml_X11_337 rfl, trivial⟩ (gd_use h).1 (gd_use h).2
theorem py_X4_close : plainY yX4_close 1 = true := by decide +kernel
theorem in_X4_close : gw (.instanceMethod yX4_close) = true := by decide +kernel
theorem se_X4_close : gw (.selects RX4 yX4_close yX4_close) = true := by decide +kernel
theorem ml_X11_225 : gw (.methodLink RX11 225 yX4_close) = true := by decide +kernel
theorem py_X11_writeReceipt : plainY yX11_writeReceipt 0 = true := by decide +kernel
theorem in_X11_writeReceipt : gw (.instanceMethod yX11_writeReceipt) = true := by decide +kernel
theorem se_X11_writeReceipt : gw (.selects RX11 yX11_writeReceipt yX11_writeReceipt) = true := by decide +kernel
theorem ml_X11_228 : gw (.methodLink RX11 228 yX11_writeReceipt) = true := by decide +kernel
def B_X11_end : List (Nat × List (Nat × Instr × Nat)) := [(0, [(0, .aload_n 0, 1), (1, .invokevirtual 187, 3), (4, .iload_n 1, 1), (5, .iconst 0, 1), (6, .bipush 99, 2), (8, .invokestatic 82, 3), (11, .invokestatic 86, 3), (14, .aload_n 0, 1), (15, .getfield 46, 3), (18, .iload_n 1, 1), (19, .invokevirtual 225, 3), (22, .aload_n 0, 1), (23, .invokevirtual 228, 3), (26, .aload_n 0, 1), (27, .getfield 46, 3), (30, .getfield 177, 3), (33, .getfield 231, 3), (36, .lreturn, 1)])]
def T_X11_end (tb : Nat → Option (Nat × Nat)) : List (Nat × IV) := [(748, ivV tb 11 3 2060 0 1 6 0 (w_X11_demandHired tb)), (330, ivS 3 2060 3 0 0 1 (w_X11_isFrom tb)), (346, ivS 3 2060 1 1 6 0 (w_X11_demand tb)), (900, ivV tb 4 3 2060 1 0 0 0 (w_X4_close tb)), (912, ivV tb 11 3 2060 0 1 2048 0 (w_X11_writeReceipt tb))]
def M_X11_end (tb : Nat → Option (Nat × Nat)) : MT := (tb, FX11, StX11, CX11, NwX11, ivOf (T_X11_end tb), 3, 2060, 3)
def r_X11_end (tb : Nat → Option (Nat × Nat)) (K : Option AV → AX → Prop) (KX : String → AX → Prop) : PT := lfp (wpm (M_X11_end tb) B_X11_end K (fun _ _ _ E X _ _ => KX E X))
def w_X11_end (tb : Nat → Option (Nat × Nat)) : WP := fun as X K KX => gd ((ini0 as).length ≤ 2) (r_X11_end tb K KX 0 (iniL as 2) [] X 0 0)
theorem k_X11_end : B_X11_end.all (blkB FX11 CX11 NwX11 RX11 false cX11_end) = true := by decide +kernel
theorem g_X11_end : gw (.code yX11_end cX11_end 2 (some .long)) = true ∧ gw (.initialized yX11_end.cls) = true := by decide +kernel
theorem c_X11_end {l : Launch} {G : GX} (hl : l.stackTraces = false) : ∀ as X K KX, w_X11_end (gT G) as X K KX → CT l G yX11_end (.code yX11_end cX11_end 2 (some .long)) 8 121 3 2060 as X K KX := fun as X K KX h => CT_of (M := M_X11_end (gT G)) (own := RX11) (ini := false) (T := T_X11_end (gT G)) (B := B_X11_end) (by decide +kernel) hl rfl (fun h => absurd h (by decide)) rfl tab_X11 k_X11_end rfl (Or.inr (Or.inr ⟨by decide, by decide⟩)) rfl
  ⟨ivV_ok (ci := 11) (c_X11_demandHired hl) g_X11_demandHired.1 g_X11_demandHired.2 ml_X11_187 in_X11_demandHired py_X11_demandHired rfl se_X11_demandHired, ivS_ok (c_X11_isFrom hl) g_X11_isFrom.1 g_X11_isFrom.2 ml_X11_82 st_X11_isFrom py_X11_isFrom rfl, ivS_ok (c_X11_demand hl) g_X11_demand.1 g_X11_demand.2 ml_X11_86 st_X11_demand py_X11_demand rfl, ivV_ok (ci := 4) (c_X4_close hl) g_X4_close.1 g_X4_close.2 ml_X11_225 in_X4_close py_X4_close rfl se_X4_close, ivV_ok (ci := 11) (c_X11_writeReceipt hl) g_X11_writeReceipt.1 g_X11_writeReceipt.2 ml_X11_228 in_X11_writeReceipt py_X11_writeReceipt rfl se_X11_writeReceipt, trivial⟩ (gd_use h).1 (gd_use h).2
def B_X11_pay : List (Nat × List (Nat × Instr × Nat)) := [(0, [(0, .aload_n 0, 1), (1, .invokevirtual 76, 3), (4, .aload_n 0, 1), (5, .getfield 147, 3), (8, .ifCond .le 17, 3), (11, .aload_n 0, 1), (12, .getfield 46, 3), (15, .getfield 235, 3), (18, .ifCond .ne 7, 3), (21, .iconst 1, 1), (22, .goto 4, 3)]),
  (25, [(25, .iconst 0, 1)]),
  (26, [(26, .invokestatic 193, 3), (29, .lload_n 1, 1), (30, .aload_n 0, 1), (31, .getfield 46, 3), (34, .getfield 177, 3), (37, .getfield 231, 3), (40, .lcmp, 1), (41, .ifCond .lt 7, 3), (44, .iconst 1, 1), (45, .goto 4, 3)]),
  (48, [(48, .iconst 0, 1)]),
  (49, [(49, .invokestatic 86, 3), (52, .aload_n 0, 1), (53, .getfield 46, 3), (56, .iconst 1, 1), (57, .putfield 235, 3), (60, .lload_n 1, 1), (61, .aload_n 0, 1), (62, .getfield 46, 3), (65, .getfield 177, 3), (68, .getfield 231, 3), (71, .lsub, 1), (72, .lreturn, 1)])]
def T_X11_pay (tb : Nat → Option (Nat × Nat)) : List (Nat × IV) := [(304, ivV tb 11 3 18 0 1 6 0 (w_X11_refuseWhileHired tb)), (774, ivS 3 18 1 1 6 0 (w_X11_demandState tb)), (346, ivS 3 18 1 1 6 0 (w_X11_demand tb))]
def M_X11_pay (tb : Nat → Option (Nat × Nat)) : MT := (tb, FX11, StX11, CX11, NwX11, ivOf (T_X11_pay tb), 3, 18, 3)
def r_X11_pay (tb : Nat → Option (Nat × Nat)) (K : Option AV → AX → Prop) (KX : String → AX → Prop) : PT := lfp (wpm (M_X11_pay tb) B_X11_pay K (fun _ _ _ E X _ _ => KX E X))
def w_X11_pay (tb : Nat → Option (Nat × Nat)) : WP := fun as X K KX => gd ((ini0 as).length ≤ 3) (r_X11_pay tb K KX 0 (iniL as 3) [] X 0 0)
theorem k_X11_pay : B_X11_pay.all (blkB FX11 CX11 NwX11 RX11 false cX11_pay) = true := by decide +kernel
theorem g_X11_pay : gw (.code yX11_pay cX11_pay 3 (some .long)) = true ∧ gw (.initialized yX11_pay.cls) = true := by decide +kernel
theorem c_X11_pay {l : Launch} {G : GX} (hl : l.stackTraces = false) : ∀ as X K KX, w_X11_pay (gT G) as X K KX → CT l G yX11_pay (.code yX11_pay cX11_pay 3 (some .long)) 8 121 3 18 as X K KX := fun as X K KX h => CT_of (M := M_X11_pay (gT G)) (own := RX11) (ini := false) (T := T_X11_pay (gT G)) (B := B_X11_pay) (by decide +kernel) hl rfl (fun h => absurd h (by decide)) rfl tab_X11 k_X11_pay rfl (Or.inr (Or.inr ⟨by decide, by decide⟩)) rfl
  ⟨ivV_ok (ci := 11) (c_X11_refuseWhileHired hl) g_X11_refuseWhileHired.1 g_X11_refuseWhileHired.2 ml_X11_76 in_X11_refuseWhileHired py_X11_refuseWhileHired rfl se_X11_refuseWhileHired, ivS_ok (c_X11_demandState hl) g_X11_demandState.1 g_X11_demandState.2 ml_X11_193 st_X11_demandState py_X11_demandState rfl, ivS_ok (c_X11_demand hl) g_X11_demand.1 g_X11_demand.2 ml_X11_86 st_X11_demand py_X11_demand rfl, trivial⟩ (gd_use h).1 (gd_use h).2
def B_X11_fare : List (Nat × List (Nat × Instr × Nat)) := [(0, [(0, .aload_n 0, 1), (1, .getfield 147, 3), (4, .ifCond .le 7, 3), (7, .iconst 1, 1), (8, .goto 4, 3)]),
  (11, [(11, .iconst 0, 1)]),
  (12, [(12, .invokestatic 102, 3), (15, .aload_n 0, 1), (16, .getfield 46, 3), (19, .getfield 177, 3), (22, .getfield 231, 3), (25, .lreturn, 1)])]
def T_X11_fare (tb : Nat → Option (Nat × Nat)) : List (Nat × IV) := [(410, ivS 1 6 1 1 6 0 (w_X11_demandSuch tb))]
def M_X11_fare (tb : Nat → Option (Nat × Nat)) : MT := (tb, FX11, StX11, CX11, NwX11, ivOf (T_X11_fare tb), 1, 6, 3)
def r_X11_fare (tb : Nat → Option (Nat × Nat)) (K : Option AV → AX → Prop) (KX : String → AX → Prop) : PT := lfp (wpm (M_X11_fare tb) B_X11_fare K (fun _ _ _ E X _ _ => KX E X))
def w_X11_fare (tb : Nat → Option (Nat × Nat)) : WP := fun as X K KX => gd ((ini0 as).length ≤ 1) (r_X11_fare tb K KX 0 (iniL as 1) [] X 0 0)
theorem k_X11_fare : B_X11_fare.all (blkB FX11 CX11 NwX11 RX11 false cX11_fare) = true := by decide +kernel
theorem g_X11_fare : gw (.code yX11_fare cX11_fare 1 (some .long)) = true ∧ gw (.initialized yX11_fare.cls) = true := by decide +kernel
theorem c_X11_fare {l : Launch} {G : GX} (hl : l.stackTraces = false) : ∀ as X K KX, w_X11_fare (gT G) as X K KX → CT l G yX11_fare (.code yX11_fare cX11_fare 1 (some .long)) 7 101 1 6 as X K KX := fun as X K KX h => CT_of (M := M_X11_fare (gT G)) (own := RX11) (ini := false) (T := T_X11_fare (gT G)) (B := B_X11_fare) (by decide +kernel) hl rfl (fun h => absurd h (by decide)) rfl tab_X11 k_X11_fare rfl (Or.inr (Or.inr ⟨by decide, by decide⟩)) rfl
  ⟨ivS_ok (c_X11_demandSuch hl) g_X11_demandSuch.1 g_X11_demandSuch.2 ml_X11_102 st_X11_demandSuch py_X11_demandSuch rfl, trivial⟩ (gd_use h).1 (gd_use h).2
def B_X7_timesCut : List (Nat × List (Nat × Instr × Nat)) := [(0, [(0, .aload_n 0, 1), (1, .getfield 16, 3), (4, .astore_n 2, 1), (5, .aload_n 2, 1), (6, .iconst 0, 1), (7, .invokestatic 23, 3), (10, .iconst 0, 1), (11, .istore_n 3, 1), (12, .bipush 19, 2), (14, .istore 4, 2)]),
  (16, [(16, .iload 4, 2), (18, .ifCond .lt 90, 3), (21, .aload_n 2, 1), (22, .aload_n 0, 1), (23, .getfield 19, 3), (26, .iconst 2, 1), (27, .invokestatic 51, 3), (30, .iload_n 3, 1), (31, .iconst 2, 1), (32, .imul, 1), (33, .istore_n 3, 1), (34, .iload_n 1, 1), (35, .iload 4, 2), (37, .ishr, 1), (38, .iconst 1, 1), (39, .iand, 1), (40, .iconst 1, 1), (41, .if_icmp .ne 16, 3), (44, .aload_n 2, 1), (45, .aload_n 0, 1), (46, .getfield 9, 3), (49, .aload_n 0, 1), (50, .getfield 19, 3), (53, .iconst 1, 1), (54, .invokestatic 39, 3)]),
  (57, [(57, .iconst 0, 1), (58, .istore 5, 2)]),
  (60, [(60, .iload 5, 2), (62, .iconst 2, 1), (63, .if_icmp .ge 39, 3), (66, .aload_n 2, 1), (67, .aload_n 0, 1), (68, .getfield 13, 3), (71, .aload_n 0, 1), (72, .getfield 19, 3), (75, .invokestatic 43, 3), (78, .ifCond .lt 24, 3), (81, .aload_n 2, 1), (82, .aload_n 0, 1), (83, .getfield 13, 3), (86, .aload_n 0, 1), (87, .getfield 19, 3), (90, .invokestatic 47, 3), (93, .iinc 3 1, 3), (96, .iinc 5 1, 3), (99, .goto (-39), 3)]),
  (102, [(102, .iinc 4 (-1), 3), (105, .goto (-89), 3)]),
  (108, [(108, .iload_n 3, 1), (109, .ireturn, 1)])]
def T_X7_timesCut (tb : Nat → Option (Nat × Nat)) : List (Nat × IV) := [(94, ivS 0 0 2 0 0 0 (w_J7_fill_53178 tb)), (206, ivS 0 0 3 0 0 0 (w_X7_multiply tb)), (158, ivS 0 0 4 0 0 0 (w_X7_addTimes tb)), (174, ivS 0 0 3 0 0 1 (w_X7_compare tb)), (190, ivS 0 0 3 0 0 0 (w_X7_subtract tb))]
def M_X7_timesCut (tb : Nat → Option (Nat × Nat)) : MT := (tb, FX7, StX7, CX7, NwX7, ivOf (T_X7_timesCut tb), 0, 0, 1)
def r_X7_timesCut (tb : Nat → Option (Nat × Nat)) (K : Option AV → AX → Prop) (KX : String → AX → Prop) : PT := lfp (wpm (M_X7_timesCut tb) B_X7_timesCut K (fun _ _ _ E X _ _ => KX E X))
def w_X7_timesCut (tb : Nat → Option (Nat × Nat)) : WP := fun as X K KX => gd ((ini0 as).length ≤ 6) (r_X7_timesCut tb K KX 0 (iniL as 6) [] X 0 0)
theorem k_X7_timesCut : B_X7_timesCut.all (blkB FX7 CX7 NwX7 RX7 false cX7_timesCut) = true := by decide +kernel
theorem g_X7_timesCut : gw (.code yX7_timesCut cX7_timesCut 6 (some .int)) = true ∧ gw (.initialized yX7_timesCut.cls) = true := by decide +kernel
theorem c_X7_timesCut {l : Launch} {G : GX} (hl : l.stackTraces = false) : ∀ as X K KX, w_X7_timesCut (gT G) as X K KX → CT l G yX7_timesCut (.code yX7_timesCut cX7_timesCut 6 (some .int)) 2 48 0 0 as X K KX := fun as X K KX h => CT_of (M := M_X7_timesCut (gT G)) (own := RX7) (ini := false) (T := T_X7_timesCut (gT G)) (B := B_X7_timesCut) (by decide +kernel) hl rfl (fun h => absurd h (by decide)) rfl tab_X7 k_X7_timesCut rfl (Or.inl rfl) rfl
  ⟨ivS_ok (c_J7_fill_53178 hl) g_J7_fill_53178.1 g_J7_fill_53178.2 ml_X7_23 st_J7_fill_53178 py_J7_fill_53178 rfl, ivS_ok (c_X7_multiply hl) g_X7_multiply.1 g_X7_multiply.2 ml_X7_51 st_X7_multiply py_X7_multiply rfl, ivS_ok (c_X7_addTimes hl) g_X7_addTimes.1 g_X7_addTimes.2 ml_X7_39 st_X7_addTimes py_X7_addTimes rfl, ivS_ok (c_X7_compare hl) g_X7_compare.1 g_X7_compare.2 ml_X7_43 st_X7_compare py_X7_compare rfl, ivS_ok (c_X7_subtract hl) g_X7_subtract.1 g_X7_subtract.2 ml_X7_47 st_X7_subtract py_X7_subtract rfl, trivial⟩ (gd_use h).1 (gd_use h).2
theorem py_X7_timesCut : plainY yX7_timesCut 1 = true := by decide +kernel
theorem in_X7_timesCut : gw (.instanceMethod yX7_timesCut) = true := by decide +kernel
theorem se_X7_timesCut : gw (.selects RX7 yX7_timesCut yX7_timesCut) = true := by decide +kernel
theorem ml_X11_243 : gw (.methodLink RX11 243 yX7_timesCut) = true := by decide +kernel
def B_X11_part : List (Nat × List (Nat × Instr × Nat)) := [(0, [(0, .aload_n 0, 1), (1, .getfield 147, 3), (4, .ifCond .le 7, 3), (7, .iconst 1, 1), (8, .goto 4, 3)]),
  (11, [(11, .iconst 0, 1)]),
  (12, [(12, .invokestatic 102, 3), (15, .iload_n 1, 1), (16, .iconst 1, 1), (17, .ldc 238, 2), (19, .invokestatic 82, 3), (22, .invokestatic 86, 3), (25, .aload_n 0, 1), (26, .getfield 46, 3), (29, .getfield 177, 3), (32, .getfield 239, 3), (35, .iload_n 1, 1), (36, .invokevirtual 243, 3), (39, .ireturn, 1)])]
def T_X11_part (tb : Nat → Option (Nat × Nat)) : List (Nat × IV) := [(410, ivS 2 12 1 1 6 0 (w_X11_demandSuch tb)), (330, ivS 2 12 3 0 0 1 (w_X11_isFrom tb)), (346, ivS 2 12 1 1 6 0 (w_X11_demand tb)), (972, ivV tb 7 2 12 1 0 0 1 (w_X7_timesCut tb))]
def M_X11_part (tb : Nat → Option (Nat × Nat)) : MT := (tb, FX11, StX11, CX11, NwX11, ivOf (T_X11_part tb), 2, 12, 1)
def r_X11_part (tb : Nat → Option (Nat × Nat)) (K : Option AV → AX → Prop) (KX : String → AX → Prop) : PT := lfp (wpm (M_X11_part tb) B_X11_part K (fun _ _ _ E X _ _ => KX E X))
def w_X11_part (tb : Nat → Option (Nat × Nat)) : WP := fun as X K KX => gd ((ini0 as).length ≤ 2) (r_X11_part tb K KX 0 (iniL as 2) [] X 0 0)
theorem k_X11_part : B_X11_part.all (blkB FX11 CX11 NwX11 RX11 false cX11_part) = true := by decide +kernel
theorem g_X11_part : gw (.code yX11_part cX11_part 2 (some .int)) = true ∧ gw (.initialized yX11_part.cls) = true := by decide +kernel
theorem c_X11_part {l : Launch} {G : GX} (hl : l.stackTraces = false) : ∀ as X K KX, w_X11_part (gT G) as X K KX → CT l G yX11_part (.code yX11_part cX11_part 2 (some .int)) 7 101 2 12 as X K KX := fun as X K KX h => CT_of (M := M_X11_part (gT G)) (own := RX11) (ini := false) (T := T_X11_part (gT G)) (B := B_X11_part) (by decide +kernel) hl rfl (fun h => absurd h (by decide)) rfl tab_X11 k_X11_part rfl (Or.inr (Or.inr ⟨by decide, by decide⟩)) rfl
  ⟨ivS_ok (c_X11_demandSuch hl) g_X11_demandSuch.1 g_X11_demandSuch.2 ml_X11_102 st_X11_demandSuch py_X11_demandSuch rfl, ivS_ok (c_X11_isFrom hl) g_X11_isFrom.1 g_X11_isFrom.2 ml_X11_82 st_X11_isFrom py_X11_isFrom rfl, ivS_ok (c_X11_demand hl) g_X11_demand.1 g_X11_demand.2 ml_X11_86 st_X11_demand py_X11_demand rfl, ivV_ok (ci := 7) (c_X7_timesCut hl) g_X7_timesCut.1 g_X7_timesCut.2 ml_X11_243 in_X7_timesCut py_X7_timesCut rfl se_X7_timesCut, trivial⟩ (gd_use h).1 (gd_use h).2
theorem ml_X5_116 : gw (.methodLink RX5 116 Lib.MathLoose.min_long.x) = true := by decide +kernel
def B_X5_wholeMillimetres : List (Nat × List (Nat × Instr × Nat)) := [(0, [(0, .aload_n 0, 1), (1, .getfield 25, 3), (4, .iconst 1, 1), (5, .if_icmp .ge 5, 3), (8, .iconst 0, 1), (9, .ireturn, 1)]),
  (10, [(10, .aload_n 0, 1), (11, .getfield 31, 3), (14, .aload_n 0, 1), (15, .getfield 25, 3), (18, .i2l, 1), (19, .ldiv, 1), (20, .ldc2_w 114, 3), (23, .invokestatic 116, 3), (26, .l2i, 1), (27, .ireturn, 1)])]
def T_X5_wholeMillimetres (tb : Nat → Option (Nat × Nat)) : List (Nat × IV) := [(466, ivML (fun x y => if y < x then y else x))]
def M_X5_wholeMillimetres (tb : Nat → Option (Nat × Nat)) : MT := (tb, FX5, StX5, CX5, NwX5, ivOf (T_X5_wholeMillimetres tb), 0, 0, 1)
def r_X5_wholeMillimetres (tb : Nat → Option (Nat × Nat)) (K : Option AV → AX → Prop) (KX : String → AX → Prop) : PT := lfp (wpm (M_X5_wholeMillimetres tb) B_X5_wholeMillimetres K (fun _ _ _ E X _ _ => KX E X))
def w_X5_wholeMillimetres (tb : Nat → Option (Nat × Nat)) : WP := fun as X K KX => gd ((ini0 as).length ≤ 1) (r_X5_wholeMillimetres tb K KX 0 (iniL as 1) [] X 0 0)
theorem k_X5_wholeMillimetres : B_X5_wholeMillimetres.all (blkB FX5 CX5 NwX5 RX5 false cX5_wholeMillimetres) = true := by decide +kernel
theorem g_X5_wholeMillimetres : gw (.code yX5_wholeMillimetres cX5_wholeMillimetres 1 (some .int)) = true ∧ gw (.initialized yX5_wholeMillimetres.cls) = true := by decide +kernel
theorem c_X5_wholeMillimetres {l : Launch} {G : GX} (hl : l.stackTraces = false) : ∀ as X K KX, w_X5_wholeMillimetres (gT G) as X K KX → CT l G yX5_wholeMillimetres (.code yX5_wholeMillimetres cX5_wholeMillimetres 1 (some .int)) 1 23 0 0 as X K KX := fun as X K KX h => CT_of (M := M_X5_wholeMillimetres (gT G)) (own := RX5) (ini := false) (T := T_X5_wholeMillimetres (gT G)) (B := B_X5_wholeMillimetres) (by decide +kernel) hl rfl (fun h => absurd h (by decide)) rfl tab_X5 k_X5_wholeMillimetres rfl (Or.inr (Or.inl nw_X5)) rfl
  ⟨ivMinL_ok ml_X5_116 rfl, trivial⟩ (gd_use h).1 (gd_use h).2
theorem py_X5_wholeMillimetres : plainY yX5_wholeMillimetres 0 = true := by decide +kernel
theorem in_X5_wholeMillimetres : gw (.instanceMethod yX5_wholeMillimetres) = true := by decide +kernel
theorem se_X5_wholeMillimetres : gw (.selects RX5 yX5_wholeMillimetres yX5_wholeMillimetres) = true := by decide +kernel
theorem ml_X4_129 : gw (.methodLink RX4 129 yX5_wholeMillimetres) = true := by decide +kernel
theorem ml_X4_137 : gw (.methodLink RX4 137 yX5_minuteOfDay) = true := by decide +kernel
def B_X4_tell : List (Nat × List (Nat × Instr × Nat)) := [(0, [(0, .iload_n 1, 1), (1, .tableswitch 248 0 16 #[83, 88, 101, 109, 117, 125, 133, 141, 149, 172, 183, 191, 199, 212, 217, 222, 235], 83)]),
  (84, [(84, .aload_n 0, 1), (85, .getfield 32, 3), (88, .ireturn, 1)]),
  (89, [(89, .aload_n 0, 1), (90, .getfield 40, 3), (93, .ifCond .eq 7, 3), (96, .iconst 1, 1), (97, .goto 4, 3)]),
  (100, [(100, .iconst 0, 1)]),
  (101, [(101, .ireturn, 1)]),
  (102, [(102, .aload_n 0, 1), (103, .getfield 12, 3), (106, .getfield 71, 3), (109, .ireturn, 1)]),
  (110, [(110, .aload_n 0, 1), (111, .getfield 12, 3), (114, .getfield 120, 3), (117, .ireturn, 1)]),
  (118, [(118, .aload_n 0, 1), (119, .getfield 12, 3), (122, .getfield 123, 3), (125, .ireturn, 1)]),
  (126, [(126, .aload_n 0, 1), (127, .getfield 12, 3), (130, .getfield 126, 3), (133, .ireturn, 1)]),
  (134, [(134, .aload_n 0, 1), (135, .getfield 12, 3), (138, .invokevirtual 129, 3), (141, .ireturn, 1)]),
  (142, [(142, .aload_n 0, 1), (143, .getfield 12, 3), (146, .getfield 80, 3), (149, .ireturn, 1)]),
  (150, [(150, .aload_n 0, 1), (151, .getfield 40, 3), (154, .ifCond .eq 17, 3), (157, .aload_n 0, 1), (158, .getfield 12, 3), (161, .getfield 83, 3), (164, .ifCond .eq 7, 3), (167, .iconst 1, 1), (168, .goto 4, 3)]),
  (171, [(171, .iconst 0, 1)]),
  (172, [(172, .ireturn, 1)]),
  (173, [(173, .aload_n 0, 1), (174, .getfield 12, 3), (177, .getfield 133, 3), (180, .getfield 136, 3), (183, .ireturn, 1)]),
  (184, [(184, .aload_n 0, 1), (185, .getfield 12, 3), (188, .getfield 95, 3), (191, .ireturn, 1)]),
  (192, [(192, .aload_n 0, 1), (193, .getfield 12, 3), (196, .invokevirtual 137, 3), (199, .ireturn, 1)]),
  (200, [(200, .aload_n 0, 1), (201, .getfield 62, 3), (204, .ifCond .eq 7, 3), (207, .iconst 1, 1), (208, .goto 4, 3)]),
  (211, [(211, .iconst 0, 1)]),
  (212, [(212, .ireturn, 1)]),
  (213, [(213, .aload_n 0, 1), (214, .getfield 44, 3), (217, .ireturn, 1)]),
  (218, [(218, .aload_n 0, 1), (219, .getfield 47, 3), (222, .ireturn, 1)]),
  (223, [(223, .aload_n 0, 1), (224, .getfield 65, 3), (227, .ifCond .eq 7, 3), (230, .iconst 1, 1), (231, .goto 4, 3)]),
  (234, [(234, .iconst 0, 1)]),
  (235, [(235, .ireturn, 1)]),
  (236, [(236, .aload_n 0, 1), (237, .getfield 68, 3), (240, .ifCond .eq 7, 3), (243, .iconst 1, 1), (244, .goto 4, 3)]),
  (247, [(247, .iconst 0, 1)]),
  (248, [(248, .ireturn, 1)]),
  (249, [(249, .iconst (-1), 1), (250, .ireturn, 1)])]
def T_X4_tell (tb : Nat → Option (Nat × Nat)) : List (Nat × IV) := [(516, ivV tb 5 0 0 0 0 0 1 (w_X5_wholeMillimetres tb)), (548, ivV tb 5 0 0 0 0 0 1 (w_X5_minuteOfDay tb))]
def M_X4_tell (tb : Nat → Option (Nat × Nat)) : MT := (tb, FX4, StX4, CX4, NwX4, ivOf (T_X4_tell tb), 0, 0, 1)
def r_X4_tell (tb : Nat → Option (Nat × Nat)) (K : Option AV → AX → Prop) (KX : String → AX → Prop) : PT := lfp (wpm (M_X4_tell tb) B_X4_tell K (fun _ _ _ E X _ _ => KX E X))
def w_X4_tell (tb : Nat → Option (Nat × Nat)) : WP := fun as X K KX => gd ((ini0 as).length ≤ 2) (r_X4_tell tb K KX 0 (iniL as 2) [] X 0 0)
theorem k_X4_tell : B_X4_tell.all (blkB FX4 CX4 NwX4 RX4 false cX4_tell) = true := by decide +kernel
theorem g_X4_tell : gw (.code yX4_tell cX4_tell 2 (some .int)) = true ∧ gw (.initialized yX4_tell.cls) = true := by decide +kernel
theorem c_X4_tell {l : Launch} {G : GX} (hl : l.stackTraces = false) : ∀ as X K KX, w_X4_tell (gT G) as X K KX → CT l G yX4_tell (.code yX4_tell cX4_tell 2 (some .int)) 2 43 0 0 as X K KX := fun as X K KX h => CT_of (M := M_X4_tell (gT G)) (own := RX4) (ini := false) (T := T_X4_tell (gT G)) (B := B_X4_tell) (by decide +kernel) hl rfl (fun h => absurd h (by decide)) rfl tab_X4 k_X4_tell rfl (Or.inr (Or.inl nw_X4)) rfl
  ⟨ivV_ok (ci := 5) (c_X5_wholeMillimetres hl) g_X5_wholeMillimetres.1 g_X5_wholeMillimetres.2 ml_X4_129 in_X5_wholeMillimetres py_X5_wholeMillimetres rfl se_X5_wholeMillimetres, ivV_ok (ci := 5) (c_X5_minuteOfDay hl) g_X5_minuteOfDay.1 g_X5_minuteOfDay.2 ml_X4_137 in_X5_minuteOfDay py_X5_minuteOfDay rfl se_X5_minuteOfDay, trivial⟩ (gd_use h).1 (gd_use h).2
theorem py_X4_tell : plainY yX4_tell 1 = true := by decide +kernel
theorem in_X4_tell : gw (.instanceMethod yX4_tell) = true := by decide +kernel
theorem se_X4_tell : gw (.selects RX4 yX4_tell yX4_tell) = true := by decide +kernel
theorem ml_X11_248 : gw (.methodLink RX11 248 yX4_tell) = true := by decide +kernel
def B_X11_about : List (Nat × List (Nat × Instr × Nat)) := [(0, [(0, .aload_n 0, 1), (1, .getfield 147, 3), (4, .ifCond .le 17, 3), (7, .iload_n 1, 1), (8, .iconst 0, 1), (9, .bipush 16, 2), (11, .invokestatic 82, 3), (14, .ifCond .eq 7, 3), (17, .iconst 1, 1), (18, .goto 4, 3)]),
  (21, [(21, .iconst 0, 1)]),
  (22, [(22, .invokestatic 102, 3), (25, .aload_n 0, 1), (26, .getfield 46, 3), (29, .iload_n 1, 1), (30, .invokevirtual 248, 3), (33, .ireturn, 1)])]
def T_X11_about (tb : Nat → Option (Nat × Nat)) : List (Nat × IV) := [(330, ivS 1 6 3 0 0 1 (w_X11_isFrom tb)), (410, ivS 1 6 1 1 6 0 (w_X11_demandSuch tb)), (992, ivV tb 4 1 6 1 0 0 1 (w_X4_tell tb))]
def M_X11_about (tb : Nat → Option (Nat × Nat)) : MT := (tb, FX11, StX11, CX11, NwX11, ivOf (T_X11_about tb), 1, 6, 1)
def r_X11_about (tb : Nat → Option (Nat × Nat)) (K : Option AV → AX → Prop) (KX : String → AX → Prop) : PT := lfp (wpm (M_X11_about tb) B_X11_about K (fun _ _ _ E X _ _ => KX E X))
def w_X11_about (tb : Nat → Option (Nat × Nat)) : WP := fun as X K KX => gd ((ini0 as).length ≤ 2) (r_X11_about tb K KX 0 (iniL as 2) [] X 0 0)
theorem k_X11_about : B_X11_about.all (blkB FX11 CX11 NwX11 RX11 false cX11_about) = true := by decide +kernel
theorem g_X11_about : gw (.code yX11_about cX11_about 2 (some .int)) = true ∧ gw (.initialized yX11_about.cls) = true := by decide +kernel
theorem c_X11_about {l : Launch} {G : GX} (hl : l.stackTraces = false) : ∀ as X K KX, w_X11_about (gT G) as X K KX → CT l G yX11_about (.code yX11_about cX11_about 2 (some .int)) 7 101 1 6 as X K KX := fun as X K KX h => CT_of (M := M_X11_about (gT G)) (own := RX11) (ini := false) (T := T_X11_about (gT G)) (B := B_X11_about) (by decide +kernel) hl rfl (fun h => absurd h (by decide)) rfl tab_X11 k_X11_about rfl (Or.inr (Or.inr ⟨by decide, by decide⟩)) rfl
  ⟨ivS_ok (c_X11_isFrom hl) g_X11_isFrom.1 g_X11_isFrom.2 ml_X11_82 st_X11_isFrom py_X11_isFrom rfl, ivS_ok (c_X11_demandSuch hl) g_X11_demandSuch.1 g_X11_demandSuch.2 ml_X11_102 st_X11_demandSuch py_X11_demandSuch rfl, ivV_ok (ci := 4) (c_X4_tell hl) g_X4_tell.1 g_X4_tell.2 ml_X11_248 in_X4_tell py_X4_tell rfl se_X4_tell, trivial⟩ (gd_use h).1 (gd_use h).2
def B_X11_dark : List (Nat × List (Nat × Instr × Nat)) := [(0, [(0, .aload_n 0, 1), (1, .getfield 147, 3), (4, .ifCond .le 27, 3), (7, .iload_n 1, 1), (8, .iconst 0, 1), (9, .aload_n 0, 1), (10, .getfield 46, 3), (13, .getfield 177, 3), (16, .getfield 251, 3), (19, .iconst 1, 1), (20, .isub, 1), (21, .invokestatic 82, 3), (24, .ifCond .eq 7, 3), (27, .iconst 1, 1), (28, .goto 4, 3)]),
  (31, [(31, .iconst 0, 1)]),
  (32, [(32, .invokestatic 102, 3), (35, .aload_n 0, 1), (36, .getfield 46, 3), (39, .getfield 254, 3), (42, .iload_n 1, 1), (43, .saload, 1), (44, .ireturn, 1)])]
def T_X11_dark (tb : Nat → Option (Nat × Nat)) : List (Nat × IV) := [(330, ivS 1 6 3 0 0 1 (w_X11_isFrom tb)), (410, ivS 1 6 1 1 6 0 (w_X11_demandSuch tb))]
def M_X11_dark (tb : Nat → Option (Nat × Nat)) : MT := (tb, FX11, StX11, CX11, NwX11, ivOf (T_X11_dark tb), 1, 6, 1)
def r_X11_dark (tb : Nat → Option (Nat × Nat)) (K : Option AV → AX → Prop) (KX : String → AX → Prop) : PT := lfp (wpm (M_X11_dark tb) B_X11_dark K (fun _ _ _ E X _ _ => KX E X))
def w_X11_dark (tb : Nat → Option (Nat × Nat)) : WP := fun as X K KX => gd ((ini0 as).length ≤ 2) (r_X11_dark tb K KX 0 (iniL as 2) [] X 0 0)
theorem k_X11_dark : B_X11_dark.all (blkB FX11 CX11 NwX11 RX11 false cX11_dark) = true := by decide +kernel
theorem g_X11_dark : gw (.code yX11_dark cX11_dark 2 (some .int)) = true ∧ gw (.initialized yX11_dark.cls) = true := by decide +kernel
theorem c_X11_dark {l : Launch} {G : GX} (hl : l.stackTraces = false) : ∀ as X K KX, w_X11_dark (gT G) as X K KX → CT l G yX11_dark (.code yX11_dark cX11_dark 2 (some .int)) 7 101 1 6 as X K KX := fun as X K KX h => CT_of (M := M_X11_dark (gT G)) (own := RX11) (ini := false) (T := T_X11_dark (gT G)) (B := B_X11_dark) (by decide +kernel) hl rfl (fun h => absurd h (by decide)) rfl tab_X11 k_X11_dark rfl (Or.inr (Or.inr ⟨by decide, by decide⟩)) rfl
  ⟨ivS_ok (c_X11_isFrom hl) g_X11_isFrom.1 g_X11_isFrom.2 ml_X11_82 st_X11_isFrom py_X11_isFrom rfl, ivS_ok (c_X11_demandSuch hl) g_X11_demandSuch.1 g_X11_demandSuch.2 ml_X11_102 st_X11_demandSuch py_X11_demandSuch rfl, trivial⟩ (gd_use h).1 (gd_use h).2
def B_X11_receipt : List (Nat × List (Nat × Instr × Nat)) := [(0, [(0, .aload_n 0, 1), (1, .getfield 46, 3), (4, .getfield 258, 3), (7, .ifCond .eq 12, 3), (10, .aload_n 0, 1), (11, .getfield 147, 3), (14, .iconst 1, 1), (15, .isub, 1), (16, .goto 7, 3)]),
  (19, [(19, .aload_n 0, 1), (20, .getfield 147, 3)]),
  (23, [(23, .istore_n 3, 1), (24, .iload_n 1, 1), (25, .iconst 0, 1), (26, .iload_n 3, 1), (27, .iconst 1, 1), (28, .isub, 1), (29, .invokestatic 82, 3), (32, .ifCond .eq 16, 3), (35, .iload_n 2, 1), (36, .iconst 0, 1), (37, .iconst 3, 1), (38, .invokestatic 82, 3), (41, .ifCond .eq 7, 3), (44, .iconst 1, 1), (45, .goto 4, 3)]),
  (48, [(48, .iconst 0, 1)]),
  (49, [(49, .invokestatic 102, 3), (52, .aload_n 0, 1), (53, .getfield 50, 3), (56, .iload_n 1, 1), (57, .iconst 4, 1), (58, .imul, 1), (59, .iload_n 2, 1), (60, .iadd, 1), (61, .iaload, 1), (62, .ireturn, 1)])]
def T_X11_receipt (tb : Nat → Option (Nat × Nat)) : List (Nat × IV) := [(330, ivS 1 6 3 0 0 1 (w_X11_isFrom tb)), (410, ivS 1 6 1 1 6 0 (w_X11_demandSuch tb))]
def M_X11_receipt (tb : Nat → Option (Nat × Nat)) : MT := (tb, FX11, StX11, CX11, NwX11, ivOf (T_X11_receipt tb), 1, 6, 1)
def r_X11_receipt (tb : Nat → Option (Nat × Nat)) (K : Option AV → AX → Prop) (KX : String → AX → Prop) : PT := lfp (wpm (M_X11_receipt tb) B_X11_receipt K (fun _ _ _ E X _ _ => KX E X))
def w_X11_receipt (tb : Nat → Option (Nat × Nat)) : WP := fun as X K KX => gd ((ini0 as).length ≤ 4) (r_X11_receipt tb K KX 0 (iniL as 4) [] X 0 0)
theorem k_X11_receipt : B_X11_receipt.all (blkB FX11 CX11 NwX11 RX11 false cX11_receipt) = true := by decide +kernel
theorem g_X11_receipt : gw (.code yX11_receipt cX11_receipt 4 (some .int)) = true ∧ gw (.initialized yX11_receipt.cls) = true := by decide +kernel
theorem c_X11_receipt {l : Launch} {G : GX} (hl : l.stackTraces = false) : ∀ as X K KX, w_X11_receipt (gT G) as X K KX → CT l G yX11_receipt (.code yX11_receipt cX11_receipt 4 (some .int)) 7 101 1 6 as X K KX := fun as X K KX h => CT_of (M := M_X11_receipt (gT G)) (own := RX11) (ini := false) (T := T_X11_receipt (gT G)) (B := B_X11_receipt) (by decide +kernel) hl rfl (fun h => absurd h (by decide)) rfl tab_X11 k_X11_receipt rfl (Or.inr (Or.inr ⟨by decide, by decide⟩)) rfl
  ⟨ivS_ok (c_X11_isFrom hl) g_X11_isFrom.1 g_X11_isFrom.2 ml_X11_82 st_X11_isFrom py_X11_isFrom rfl, ivS_ok (c_X11_demandSuch hl) g_X11_demandSuch.1 g_X11_demandSuch.2 ml_X11_102 st_X11_demandSuch py_X11_demandSuch rfl, trivial⟩ (gd_use h).1 (gd_use h).2
theorem ml_X4_109 : gw (.methodLink RX4 109 yX5_start) = true := by decide +kernel
theorem ml_X4_116 : gw (.methodLink RX4 116 yX5_charge) = true := by decide +kernel
def B_X4_repeat : List (Nat × List (Nat × Instr × Nat)) := [(0, [(0, .aload_n 1, 1), (1, .aload_n 0, 1), (2, .getfield 36, 3), (5, .aload_n 0, 1), (6, .getfield 12, 3), (9, .getfield 106, 3), (12, .iload 4, 2), (14, .invokevirtual 109, 3), (17, .iconst 0, 1), (18, .istore 5, 2), (20, .iconst 0, 1), (21, .istore 6, 2)]),
  (23, [(23, .iload 6, 2), (25, .aload_n 0, 1), (26, .getfield 12, 3), (29, .getfield 71, 3), (32, .if_icmp .gt 79, 3)]),
  (35, [(35, .iload 5, 2), (37, .aload_n 0, 1), (38, .getfield 12, 3), (41, .getfield 95, 3), (44, .if_icmp .ge 32, 3), (47, .aload_n 0, 1), (48, .getfield 22, 3), (51, .iload 5, 2), (53, .iaload, 1), (54, .iload 6, 2), (56, .if_icmp .ne 20, 3), (59, .aload_n 1, 1), (60, .aload_n 0, 1), (61, .getfield 28, 3), (64, .iload 5, 2), (66, .aaload, 1), (67, .invokevirtual 98, 3), (70, .iinc 5 1, 3), (73, .goto (-38), 3)]),
  (76, [(76, .iload 6, 2), (78, .aload_n 0, 1), (79, .getfield 12, 3), (82, .getfield 71, 3), (85, .if_icmp .ge 20, 3), (88, .aload_n 1, 1), (89, .aload_n 2, 1), (90, .iload 6, 2), (92, .invokevirtual 74, 3), (95, .iconst 0, 1), (96, .invokestatic 86, 3), (99, .iload_n 3, 1), (100, .imul, 1), (101, .invokevirtual 92, 3), (104, .pop, 1)]),
  (105, [(105, .iinc 6 1, 3), (108, .goto (-85), 3)]),
  (111, [(111, .aload_n 1, 1), (112, .aload_n 0, 1), (113, .getfield 12, 3), (116, .getfield 113, 3), (119, .invokevirtual 116, 3), (122, .aload_n 1, 1), (123, .aload_n 0, 1), (124, .getfield 44, 3), (127, .aload_n 0, 1), (128, .getfield 47, 3), (131, .invokevirtual 102, 3), (134, .pop, 1), (135, .return_, 1)])]
def T_X4_repeat (tb : Nat → Option (Nat × Nat)) : List (Nat × IV) := [(436, ivV tb 5 0 0 3 0 0 0 (w_X5_start tb)), (392, ivV tb 5 0 0 1 0 0 0 (w_X5_takeByHand tb)), (296, ivV tb 8 0 0 1 0 0 1 (w_X8_ofSecond tb)), (346, ivM2 (fun x y => if x < y then y else x)), (368, ivV tb 5 0 0 1 0 0 1 (w_X5_tick tb)), (464, ivV tb 5 0 0 1 0 0 0 (w_X5_charge tb)), (408, ivV tb 5 0 0 2 0 0 1 (w_X5_finish tb))]
def M_X4_repeat (tb : Nat → Option (Nat × Nat)) : MT := (tb, FX4, StX4, CX4, NwX4, ivOf (T_X4_repeat tb), 0, 0, 0)
def r_X4_repeat (tb : Nat → Option (Nat × Nat)) (K : Option AV → AX → Prop) (KX : String → AX → Prop) : PT := lfp (wpm (M_X4_repeat tb) B_X4_repeat K (fun _ _ _ E X _ _ => KX E X))
def w_X4_repeat (tb : Nat → Option (Nat × Nat)) : WP := fun as X K KX => gd ((ini0 as).length ≤ 7) (r_X4_repeat tb K KX 0 (iniL as 7) [] X 0 0)
theorem k_X4_repeat : B_X4_repeat.all (blkB FX4 CX4 NwX4 RX4 false cX4_repeat) = true := by decide +kernel
theorem g_X4_repeat : gw (.code yX4_repeat cX4_repeat 7 none) = true ∧ gw (.initialized yX4_repeat.cls) = true := by decide +kernel
theorem c_X4_repeat {l : Launch} {G : GX} (hl : l.stackTraces = false) : ∀ as X K KX, w_X4_repeat (gT G) as X K KX → CT l G yX4_repeat (.code yX4_repeat cX4_repeat 7 none) 5 120 0 0 as X K KX := fun as X K KX h => CT_of (M := M_X4_repeat (gT G)) (own := RX4) (ini := false) (T := T_X4_repeat (gT G)) (B := B_X4_repeat) (by decide +kernel) hl rfl (fun h => absurd h (by decide)) rfl tab_X4 k_X4_repeat rfl (Or.inr (Or.inl nw_X4)) rfl
  ⟨ivV_ok (ci := 5) (c_X5_start hl) g_X5_start.1 g_X5_start.2 ml_X4_109 in_X5_start py_X5_start rfl se_X5_start, ivV_ok (ci := 5) (c_X5_takeByHand hl) g_X5_takeByHand.1 g_X5_takeByHand.2 ml_X4_98 in_X5_takeByHand py_X5_takeByHand rfl se_X5_takeByHand, ivV_ok (ci := 8) (c_X8_ofSecond hl) g_X8_ofSecond.1 g_X8_ofSecond.2 ml_X4_74 in_X8_ofSecond py_X8_ofSecond rfl se_X8_ofSecond, ivMax_ok ml_X4_86 rfl, ivV_ok (ci := 5) (c_X5_tick hl) g_X5_tick.1 g_X5_tick.2 ml_X4_92 in_X5_tick py_X5_tick rfl se_X5_tick, ivV_ok (ci := 5) (c_X5_charge hl) g_X5_charge.1 g_X5_charge.2 ml_X4_116 in_X5_charge py_X5_charge rfl se_X5_charge, ivV_ok (ci := 5) (c_X5_finish hl) g_X5_finish.1 g_X5_finish.2 ml_X4_102 in_X5_finish py_X5_finish rfl se_X5_finish, trivial⟩ (gd_use h).1 (gd_use h).2
theorem py_X4_repeat : plainY yX4_repeat 4 = true := by decide +kernel
theorem in_X4_repeat : gw (.instanceMethod yX4_repeat) = true := by decide +kernel
theorem se_X4_repeat : gw (.selects RX4 yX4_repeat yX4_repeat) = true := by decide +kernel
theorem ml_X11_261 : gw (.methodLink RX11 261 yX4_repeat) = true := by decide +kernel
def B_X11_again : List (Nat × List (Nat × Instr × Nat)) := [(0, [(0, .aload_n 0, 1), (1, .invokevirtual 76, 3), (4, .aload_n 0, 1), (5, .getfield 147, 3), (8, .ifCond .le 7, 3), (11, .iconst 1, 1), (12, .goto 4, 3)]),
  (15, [(15, .iconst 0, 1)]),
  (16, [(16, .invokestatic 193, 3), (19, .aload_n 0, 1), (20, .getfield 46, 3), (23, .aload_n 0, 1), (24, .getfield 63, 3), (27, .aload_n 0, 1), (28, .getfield 19, 3), (31, .aload_n 0, 1), (32, .getfield 7, 3), (35, .aload_n 0, 1), (36, .getfield 13, 3), (39, .invokevirtual 261, 3), (42, .aload_n 0, 1), (43, .getfield 63, 3), (46, .getfield 231, 3), (49, .lreturn, 1)])]
def T_X11_again (tb : Nat → Option (Nat × Nat)) : List (Nat × IV) := [(304, ivV tb 11 2 12 0 1 6 0 (w_X11_refuseWhileHired tb)), (774, ivS 2 12 1 1 6 0 (w_X11_demandState tb)), (1044, ivV tb 4 2 12 4 0 0 0 (w_X4_repeat tb))]
def M_X11_again (tb : Nat → Option (Nat × Nat)) : MT := (tb, FX11, StX11, CX11, NwX11, ivOf (T_X11_again tb), 2, 12, 3)
def r_X11_again (tb : Nat → Option (Nat × Nat)) (K : Option AV → AX → Prop) (KX : String → AX → Prop) : PT := lfp (wpm (M_X11_again tb) B_X11_again K (fun _ _ _ E X _ _ => KX E X))
def w_X11_again (tb : Nat → Option (Nat × Nat)) : WP := fun as X K KX => gd ((ini0 as).length ≤ 1) (r_X11_again tb K KX 0 (iniL as 1) [] X 0 0)
theorem k_X11_again : B_X11_again.all (blkB FX11 CX11 NwX11 RX11 false cX11_again) = true := by decide +kernel
theorem g_X11_again : gw (.code yX11_again cX11_again 1 (some .long)) = true ∧ gw (.initialized yX11_again.cls) = true := by decide +kernel
theorem c_X11_again {l : Launch} {G : GX} (hl : l.stackTraces = false) : ∀ as X K KX, w_X11_again (gT G) as X K KX → CT l G yX11_again (.code yX11_again cX11_again 1 (some .long)) 8 146 2 12 as X K KX := fun as X K KX h => CT_of (M := M_X11_again (gT G)) (own := RX11) (ini := false) (T := T_X11_again (gT G)) (B := B_X11_again) (by decide +kernel) hl rfl (fun h => absurd h (by decide)) rfl tab_X11 k_X11_again rfl (Or.inr (Or.inr ⟨by decide, by decide⟩)) rfl
  ⟨ivV_ok (ci := 11) (c_X11_refuseWhileHired hl) g_X11_refuseWhileHired.1 g_X11_refuseWhileHired.2 ml_X11_76 in_X11_refuseWhileHired py_X11_refuseWhileHired rfl se_X11_refuseWhileHired, ivS_ok (c_X11_demandState hl) g_X11_demandState.1 g_X11_demandState.2 ml_X11_193 st_X11_demandState py_X11_demandState rfl, ivV_ok (ci := 4) (c_X4_repeat hl) g_X4_repeat.1 g_X4_repeat.2 ml_X11_261 in_X4_repeat py_X4_repeat rfl se_X4_repeat, trivial⟩ (gd_use h).1 (gd_use h).2
def B_X10_add : List (Nat × List (Nat × Instr × Nat)) := [(0, [(0, .aload_n 0, 1), (1, .getfield 9, 3), (4, .aload_n 0, 1), (5, .getfield 18, 3), (8, .iload_n 1, 1), (9, .iastore, 1), (10, .aload_n 0, 1), (11, .getfield 15, 3), (14, .aload_n 0, 1), (15, .getfield 18, 3), (18, .iload_n 2, 1), (19, .iastore, 1), (20, .aload_n 0, 1), (21, .dup, 1), (22, .getfield 18, 3), (25, .iconst 1, 1), (26, .iadd, 1), (27, .putfield 18, 3), (30, .aload_n 0, 1), (31, .dup, 1), (32, .getfield 22, 3), (35, .iload_n 2, 1), (36, .iadd, 1), (37, .putfield 22, 3), (40, .return_, 1)])]
def T_X10_add (tb : Nat → Option (Nat × Nat)) : List (Nat × IV) := []
def M_X10_add (tb : Nat → Option (Nat × Nat)) : MT := (tb, FX10, StX10, CX10, NwX10, ivOf (T_X10_add tb), 0, 0, 0)
def r_X10_add (tb : Nat → Option (Nat × Nat)) (K : Option AV → AX → Prop) (KX : String → AX → Prop) : PT := lfp (wpm (M_X10_add tb) B_X10_add K (fun _ _ _ E X _ _ => KX E X))
def w_X10_add (tb : Nat → Option (Nat × Nat)) : WP := fun as X K KX => gd ((ini0 as).length ≤ 3) (r_X10_add tb K KX 0 (iniL as 3) [] X 0 0)
theorem k_X10_add : B_X10_add.all (blkB FX10 CX10 NwX10 RX10 false cX10_add) = true := by decide +kernel
theorem g_X10_add : gw (.code yX10_add cX10_add 3 none) = true ∧ gw (.initialized yX10_add.cls) = true := by decide +kernel
theorem c_X10_add {l : Launch} {G : GX} (hl : l.stackTraces = false) : ∀ as X K KX, w_X10_add (gT G) as X K KX → CT l G yX10_add (.code yX10_add cX10_add 3 none) 0 0 0 0 as X K KX := fun as X K KX h => CT_of (M := M_X10_add (gT G)) (own := RX10) (ini := false) (T := T_X10_add (gT G)) (B := B_X10_add) (by decide +kernel) hl rfl (fun h => absurd h (by decide)) rfl tab_X10 k_X10_add rfl (Or.inl rfl) rfl
  trivial (gd_use h).1 (gd_use h).2
