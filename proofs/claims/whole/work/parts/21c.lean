theorem se_X0_yX1_kindNumber_X0_kindNumber : gw (.selects RX0 yX1_kindNumber yX0_kindNumber) = true := by decide +kernel
theorem in_X0_kindNumber : gw (.instanceMethod yX0_kindNumber) = true := by decide +kernel
theorem se_X1_yX1_kindNumber_X1_kindNumber : gw (.selects RX1 yX1_kindNumber yX1_kindNumber) = true := by decide +kernel
theorem in_X1_kindNumber : gw (.instanceMethod yX1_kindNumber) = true := by decide +kernel
theorem se_X2_yX1_kindNumber_X2_kindNumber : gw (.selects RX2 yX1_kindNumber yX2_kindNumber) = true := by decide +kernel
theorem in_X2_kindNumber : gw (.instanceMethod yX2_kindNumber) = true := by decide +kernel
theorem se_X3_yX1_kindNumber_X3_kindNumber : gw (.selects RX3 yX1_kindNumber yX3_kindNumber) = true := by decide +kernel
theorem in_X3_kindNumber : gw (.instanceMethod yX3_kindNumber) = true := by decide +kernel
theorem se_X6_yX1_kindNumber_X6_kindNumber : gw (.selects RX6 yX1_kindNumber yX6_kindNumber) = true := by decide +kernel
theorem in_X6_kindNumber : gw (.instanceMethod yX6_kindNumber) = true := by decide +kernel
theorem sm_yX1_kindNumber : gw (.sameMethod RX1 RX1 "kindNumber" "()I") = true := by decide +kernel
theorem ml_X11_319 : gw (.methodLink RX11 319 yX1_kindNumber) = true := by decide +kernel
theorem py_X1_kindNumber : plainY yX1_kindNumber 0 = true := by decide +kernel
theorem tab_X11_X11_kindHeld : tabB FX11 CX11 StX11 [] RX11 = true := tab_sub tab_X11 (fun _ h => by cases h)
def B_X11_kindHeld : List (Nat × List (Nat × Instr × Nat)) := [(0, [(0, .aload_n 0, 1), (1, .getfield 29, 3), (4, .iload_n 1, 1), (5, .iaload, 1), (6, .lookupswitch 43 #[(1, 26), (2, 41)], 26)]),
  (32, [(32, .aload_n 0, 1), (33, .getfield 25, 3), (36, .aload_n 0, 1), (37, .getfield 33, 3), (40, .iload_n 1, 1), (41, .iaload, 1), (42, .aaload, 1), (43, .invokevirtual 319, 3), (46, .ireturn, 1)]),
  (47, [(47, .iconst 5, 1), (48, .ireturn, 1)]),
  (49, [(49, .iconst (-1), 1), (50, .ireturn, 1)])]
def T_X11_kindHeld (tb : Nat → Option (Nat × Nat)) : List (Nat × IV) := [(1276, ivD tb 0 1 [(0, w_X0_kindNumber tb), (1, w_X1_kindNumber tb), (2, w_X2_kindNumber tb), (3, w_X3_kindNumber tb), (6, w_X6_kindNumber tb)])]
def M_X11_kindHeld (tb : Nat → Option (Nat × Nat)) : MT := (tb, FX11, StX11, CX11, [], ivOf (T_X11_kindHeld tb), 0, 0, 1)
def r_X11_kindHeld (tb : Nat → Option (Nat × Nat)) (K : Option AV → AX → Prop) (KX : String → AX → Prop) : PT := lfp (wpm (M_X11_kindHeld tb) B_X11_kindHeld K (fun _ _ _ E X _ _ => KX E X))
def w_X11_kindHeld (tb : Nat → Option (Nat × Nat)) : WP := fun as X K KX => gd ((ini0 as).length ≤ 2) (r_X11_kindHeld tb K KX 0 (iniL as 2) [] X 0 0)
theorem k_X11_kindHeld : B_X11_kindHeld.all (blkB FX11 CX11 [] RX11 false cX11_kindHeld) = true := by decide +kernel
theorem g_X11_kindHeld : gw (.code yX11_kindHeld cX11_kindHeld 2 (some .int)) = true ∧ gw (.initialized yX11_kindHeld.cls) = true := by decide +kernel
theorem c_X11_kindHeld {l : Launch} {G : GX} (hl : l.stackTraces = false) : ∀ as X K KX, w_X11_kindHeld (gT G) as X K KX → CT l G yX11_kindHeld (.code yX11_kindHeld cX11_kindHeld 2 (some .int)) 1 20 0 0 as X K KX := fun as X K KX h => CT_of (M := M_X11_kindHeld (gT G)) (own := RX11) (ini := false) (T := T_X11_kindHeld (gT G)) (B := B_X11_kindHeld) (by decide +kernel) hl rfl (fun h => absurd h (by decide)) rfl tab_X11_X11_kindHeld k_X11_kindHeld rfl (Or.inl rfl) rfl
  ⟨ivD_ok g_X1_kindNumber.1 ml_X11_319 in_X1_kindNumber py_X1_kindNumber sm_yX1_kindNumber ⟨⟨yX0_kindNumber, cX0_kindNumber, 1, (some .int), 0, 0, c_X0_kindNumber hl, g_X0_kindNumber.1, g_X0_kindNumber.2, in_X0_kindNumber, rfl, se_X0_yX1_kindNumber_X0_kindNumber⟩, ⟨yX1_kindNumber, cX1_kindNumber, 1, (some .int), 0, 0, c_X1_kindNumber hl, g_X1_kindNumber.1, g_X1_kindNumber.2, in_X1_kindNumber, rfl, se_X1_yX1_kindNumber_X1_kindNumber⟩, ⟨yX2_kindNumber, cX2_kindNumber, 1, (some .int), 0, 0, c_X2_kindNumber hl, g_X2_kindNumber.1, g_X2_kindNumber.2, in_X2_kindNumber, rfl, se_X2_yX1_kindNumber_X2_kindNumber⟩, ⟨yX3_kindNumber, cX3_kindNumber, 1, (some .int), 0, 0, c_X3_kindNumber hl, g_X3_kindNumber.1, g_X3_kindNumber.2, in_X3_kindNumber, rfl, se_X3_yX1_kindNumber_X3_kindNumber⟩, ⟨yX6_kindNumber, cX6_kindNumber, 1, (some .int), 0, 0, c_X6_kindNumber hl, g_X6_kindNumber.1, g_X6_kindNumber.2, in_X6_kindNumber, rfl, se_X6_yX1_kindNumber_X6_kindNumber⟩, trivial⟩, trivial⟩ (gd_use h).1 (gd_use h).2
theorem py_X11_kindHeld : plainY yX11_kindHeld 1 = true := by decide +kernel
theorem in_X11_kindHeld : gw (.instanceMethod yX11_kindHeld) = true := by decide +kernel
theorem se_X11_kindHeld : gw (.selects RX11 yX11_kindHeld yX11_kindHeld) = true := by decide +kernel
theorem ml_X11_143 : gw (.methodLink RX11 143 yX11_kindHeld) = true := by decide +kernel
def B_X11_slot : List (Nat × List (Nat × Instr × Nat)) := [(0, [(0, .iload_n 1, 1), (1, .bipush 12, 2), (3, .invokestatic 91, 3), (6, .iload_n 2, 1), (7, .iconst 0, 1), (8, .iconst 2, 1), (9, .invokestatic 82, 3), (12, .invokestatic 86, 3), (15, .iload_n 2, 1), (16, .iconst 1, 1), (17, .if_icmp .ne 17, 3), (20, .iload_n 3, 1), (21, .iconst 0, 1), (22, .aload_n 0, 1), (23, .getfield 121, 3), (26, .iconst 1, 1), (27, .isub, 1), (28, .invokestatic 82, 3), (31, .ifCond .eq 7, 3)]),
  (34, [(34, .iconst 1, 1), (35, .goto 4, 3)]),
  (38, [(38, .iconst 0, 1)]),
  (39, [(39, .invokestatic 102, 3), (42, .iload_n 2, 1), (43, .iconst 2, 1), (44, .if_icmp .ne 20, 3), (47, .iload_n 3, 1), (48, .iconst 0, 1), (49, .aload_n 0, 1), (50, .getfield 39, 3), (53, .getfield 140, 3), (56, .iconst 1, 1), (57, .isub, 1), (58, .invokestatic 82, 3), (61, .ifCond .eq 7, 3)]),
  (64, [(64, .iconst 1, 1), (65, .goto 4, 3)]),
  (68, [(68, .iconst 0, 1)]),
  (69, [(69, .invokestatic 102, 3), (72, .aload_n 0, 1), (73, .iload_n 1, 1), (74, .invokevirtual 143, 3), (77, .istore 4, 2), (79, .aload_n 0, 1), (80, .getfield 29, 3), (83, .iload_n 1, 1), (84, .iload_n 2, 1), (85, .iastore, 1), (86, .aload_n 0, 1), (87, .getfield 33, 3), (90, .iload_n 1, 1), (91, .iload_n 3, 1), (92, .iastore, 1), (93, .iload 4, 2), (95, .ireturn, 1)])]
def T_X11_slot (tb : Nat → Option (Nat × Nat)) : List (Nat × IV) := [(366, ivS 4 24 2 1 6 0 (w_X11_demandPlace tb)), (330, ivS 4 24 3 0 0 1 (w_X11_isFrom tb)), (346, ivS 4 24 1 1 6 0 (w_X11_demand tb)), (410, ivS 4 24 1 1 6 0 (w_X11_demandSuch tb)), (572, ivV tb 11 4 24 1 0 0 1 (w_X11_kindHeld tb))]
def M_X11_slot (tb : Nat → Option (Nat × Nat)) : MT := (tb, FX11, StX11, CX11, NwX11, ivOf (T_X11_slot tb), 4, 24, 1)
def r_X11_slot (tb : Nat → Option (Nat × Nat)) (K : Option AV → AX → Prop) (KX : String → AX → Prop) : PT := lfp (wpm (M_X11_slot tb) B_X11_slot K (fun _ _ _ E X _ _ => KX E X))
def w_X11_slot (tb : Nat → Option (Nat × Nat)) : WP := fun as X K KX => gd ((ini0 as).length ≤ 5) (r_X11_slot tb K KX 0 (iniL as 5) [] X 0 0)
theorem k_X11_slot : B_X11_slot.all (blkB FX11 CX11 NwX11 RX11 false cX11_slot) = true := by decide +kernel
theorem g_X11_slot : gw (.code yX11_slot cX11_slot 5 (some .int)) = true ∧ gw (.initialized yX11_slot.cls) = true := by decide +kernel
theorem c_X11_slot {l : Launch} {G : GX} (hl : l.stackTraces = false) : ∀ as X K KX, w_X11_slot (gT G) as X K KX → CT l G yX11_slot (.code yX11_slot cX11_slot 5 (some .int)) 7 102 4 24 as X K KX := fun as X K KX h => CT_of (M := M_X11_slot (gT G)) (own := RX11) (ini := false) (T := T_X11_slot (gT G)) (B := B_X11_slot) (by decide +kernel) hl rfl (fun h => absurd h (by decide)) rfl tab_X11 k_X11_slot rfl (Or.inr (Or.inr ⟨by decide, by decide⟩)) rfl
  ⟨ivS_ok (c_X11_demandPlace hl) g_X11_demandPlace.1 g_X11_demandPlace.2 ml_X11_91 st_X11_demandPlace py_X11_demandPlace rfl, ivS_ok (c_X11_isFrom hl) g_X11_isFrom.1 g_X11_isFrom.2 ml_X11_82 st_X11_isFrom py_X11_isFrom rfl, ivS_ok (c_X11_demand hl) g_X11_demand.1 g_X11_demand.2 ml_X11_86 st_X11_demand py_X11_demand rfl, ivS_ok (c_X11_demandSuch hl) g_X11_demandSuch.1 g_X11_demandSuch.2 ml_X11_102 st_X11_demandSuch py_X11_demandSuch rfl, ivV_ok (ci := 11) (c_X11_kindHeld hl) g_X11_kindHeld.1 g_X11_kindHeld.2 ml_X11_143 in_X11_kindHeld py_X11_kindHeld rfl se_X11_kindHeld, trivial⟩ (gd_use h).1 (gd_use h).2
def B_X11_kind : List (Nat × List (Nat × Instr × Nat)) := [(0, [(0, .iload_n 1, 1), (1, .bipush 12, 2), (3, .invokestatic 91, 3), (6, .aload_n 0, 1), (7, .iload_n 1, 1), (8, .invokevirtual 143, 3), (11, .ireturn, 1)])]
def T_X11_kind (tb : Nat → Option (Nat × Nat)) : List (Nat × IV) := [(366, ivS 1 6 2 1 6 0 (w_X11_demandPlace tb)), (572, ivV tb 11 1 6 1 0 0 1 (w_X11_kindHeld tb))]
def M_X11_kind (tb : Nat → Option (Nat × Nat)) : MT := (tb, FX11, StX11, CX11, NwX11, ivOf (T_X11_kind tb), 1, 6, 1)
def r_X11_kind (tb : Nat → Option (Nat × Nat)) (K : Option AV → AX → Prop) (KX : String → AX → Prop) : PT := lfp (wpm (M_X11_kind tb) B_X11_kind K (fun _ _ _ E X _ _ => KX E X))
def w_X11_kind (tb : Nat → Option (Nat × Nat)) : WP := fun as X K KX => gd ((ini0 as).length ≤ 2) (r_X11_kind tb K KX 0 (iniL as 2) [] X 0 0)
theorem k_X11_kind : B_X11_kind.all (blkB FX11 CX11 NwX11 RX11 false cX11_kind) = true := by decide +kernel
theorem g_X11_kind : gw (.code yX11_kind cX11_kind 2 (some .int)) = true ∧ gw (.initialized yX11_kind.cls) = true := by decide +kernel
theorem c_X11_kind {l : Launch} {G : GX} (hl : l.stackTraces = false) : ∀ as X K KX, w_X11_kind (gT G) as X K KX → CT l G yX11_kind (.code yX11_kind cX11_kind 2 (some .int)) 7 102 1 6 as X K KX := fun as X K KX h => CT_of (M := M_X11_kind (gT G)) (own := RX11) (ini := false) (T := T_X11_kind (gT G)) (B := B_X11_kind) (by decide +kernel) hl rfl (fun h => absurd h (by decide)) rfl tab_X11 k_X11_kind rfl (Or.inr (Or.inr ⟨by decide, by decide⟩)) rfl
  ⟨ivS_ok (c_X11_demandPlace hl) g_X11_demandPlace.1 g_X11_demandPlace.2 ml_X11_91 st_X11_demandPlace py_X11_demandPlace rfl, ivV_ok (ci := 11) (c_X11_kindHeld hl) g_X11_kindHeld.1 g_X11_kindHeld.2 ml_X11_143 in_X11_kindHeld py_X11_kindHeld rfl se_X11_kindHeld, trivial⟩ (gd_use h).1 (gd_use h).2
def B_X9_makeWhole : List (Nat × List (Nat × Instr × Nat)) := [(0, [(0, .aload_n 0, 1), (1, .getfield 9, 3), (4, .iload_n 1, 1), (5, .iconst 1, 1), (6, .bastore, 1), (7, .aload_n 0, 1), (8, .getfield 15, 3), (11, .iload_n 1, 1), (12, .iload_n 2, 1), (13, .iastore, 1), (14, .return_, 1)])]
def T_X9_makeWhole (tb : Nat → Option (Nat × Nat)) : List (Nat × IV) := []
def M_X9_makeWhole (tb : Nat → Option (Nat × Nat)) : MT := (tb, FX9, StX9, CX9, NwX9, ivOf (T_X9_makeWhole tb), 0, 0, 0)
def r_X9_makeWhole (tb : Nat → Option (Nat × Nat)) (K : Option AV → AX → Prop) (KX : String → AX → Prop) : PT := lfp (wpm (M_X9_makeWhole tb) B_X9_makeWhole K (fun _ _ _ E X _ _ => KX E X))
def w_X9_makeWhole (tb : Nat → Option (Nat × Nat)) : WP := fun as X K KX => gd ((ini0 as).length ≤ 3) (r_X9_makeWhole tb K KX 0 (iniL as 3) [] X 0 0)
theorem k_X9_makeWhole : B_X9_makeWhole.all (blkB FX9 CX9 NwX9 RX9 false cX9_makeWhole) = true := by decide +kernel
theorem g_X9_makeWhole : gw (.code yX9_makeWhole cX9_makeWhole 3 none) = true ∧ gw (.initialized yX9_makeWhole.cls) = true := by decide +kernel
theorem c_X9_makeWhole {l : Launch} {G : GX} (hl : l.stackTraces = false) : ∀ as X K KX, w_X9_makeWhole (gT G) as X K KX → CT l G yX9_makeWhole (.code yX9_makeWhole cX9_makeWhole 3 none) 0 0 0 0 as X K KX := fun as X K KX h => CT_of (M := M_X9_makeWhole (gT G)) (own := RX9) (ini := false) (T := T_X9_makeWhole (gT G)) (B := B_X9_makeWhole) (by decide +kernel) hl rfl (fun h => absurd h (by decide)) rfl tab_X9 k_X9_makeWhole rfl (Or.inl rfl) rfl
  trivial (gd_use h).1 (gd_use h).2
theorem py_X9_makeWhole : plainY yX9_makeWhole 2 = true := by decide +kernel
theorem in_X9_makeWhole : gw (.instanceMethod yX9_makeWhole) = true := by decide +kernel
theorem se_X9_makeWhole : gw (.selects RX9 yX9_makeWhole yX9_makeWhole) = true := by decide +kernel
theorem ml_X9_23 : gw (.methodLink RX9 23 yX9_makeWhole) = true := by decide +kernel
def B_X9_add : List (Nat × List (Nat × Instr × Nat)) := [(0, [(0, .aload_n 0, 1), (1, .aload_n 0, 1), (2, .getfield 19, 3), (5, .iload_n 1, 1), (6, .invokevirtual 23, 3), (9, .aload_n 0, 1), (10, .dup, 1), (11, .getfield 19, 3), (14, .iconst 1, 1), (15, .iadd, 1), (16, .putfield 19, 3), (19, .aload_n 0, 1), (20, .getfield 19, 3), (23, .iconst 1, 1), (24, .isub, 1), (25, .ireturn, 1)])]
def T_X9_add (tb : Nat → Option (Nat × Nat)) : List (Nat × IV) := [(92, ivV tb 9 0 0 2 0 0 0 (w_X9_makeWhole tb))]
def M_X9_add (tb : Nat → Option (Nat × Nat)) : MT := (tb, FX9, StX9, CX9, NwX9, ivOf (T_X9_add tb), 0, 0, 1)
def r_X9_add (tb : Nat → Option (Nat × Nat)) (K : Option AV → AX → Prop) (KX : String → AX → Prop) : PT := lfp (wpm (M_X9_add tb) B_X9_add K (fun _ _ _ E X _ _ => KX E X))
def w_X9_add (tb : Nat → Option (Nat × Nat)) : WP := fun as X K KX => gd ((ini0 as).length ≤ 2) (r_X9_add tb K KX 0 (iniL as 2) [] X 0 0)
theorem k_X9_add : B_X9_add.all (blkB FX9 CX9 NwX9 RX9 false cX9_add) = true := by decide +kernel
theorem g_X9_add : gw (.code yX9_add cX9_add 2 (some .int)) = true ∧ gw (.initialized yX9_add.cls) = true := by decide +kernel
theorem c_X9_add {l : Launch} {G : GX} (hl : l.stackTraces = false) : ∀ as X K KX, w_X9_add (gT G) as X K KX → CT l G yX9_add (.code yX9_add cX9_add 2 (some .int)) 1 22 0 0 as X K KX := fun as X K KX h => CT_of (M := M_X9_add (gT G)) (own := RX9) (ini := false) (T := T_X9_add (gT G)) (B := B_X9_add) (by decide +kernel) hl rfl (fun h => absurd h (by decide)) rfl tab_X9 k_X9_add rfl (Or.inl rfl) rfl
  ⟨ivV_ok (ci := 9) (c_X9_makeWhole hl) g_X9_makeWhole.1 g_X9_makeWhole.2 ml_X9_23 in_X9_makeWhole py_X9_makeWhole rfl se_X9_makeWhole, trivial⟩ (gd_use h).1 (gd_use h).2
theorem py_X9_add : plainY yX9_add 1 = true := by decide +kernel
theorem in_X9_add : gw (.instanceMethod yX9_add) = true := by decide +kernel
theorem se_X9_add : gw (.selects RX9 yX9_add yX9_add) = true := by decide +kernel
theorem ml_X11_150 : gw (.methodLink RX11 150 yX9_add) = true := by decide +kernel
theorem tab_X11_X11_seal : tabB FX11 CX11 StX11 [] RX11 = true := tab_sub tab_X11 (fun _ h => by cases h)
def B_X11_seal : List (Nat × List (Nat × Instr × Nat)) := [(0, [(0, .aload_n 0, 1), (1, .getfield 39, 3), (4, .getfield 140, 3), (7, .bipush 40, 2), (9, .if_icmp .lt 5, 3), (12, .iconst (-1), 1), (13, .ireturn, 1)]),
  (14, [(14, .aload_n 0, 1), (15, .getfield 39, 3), (18, .aload_n 0, 1), (19, .getfield 147, 3), (22, .invokevirtual 150, 3), (25, .ireturn, 1)])]
def T_X11_seal (tb : Nat → Option (Nat × Nat)) : List (Nat × IV) := [(600, ivV tb 9 0 0 1 0 0 1 (w_X9_add tb))]
def M_X11_seal (tb : Nat → Option (Nat × Nat)) : MT := (tb, FX11, StX11, CX11, [], ivOf (T_X11_seal tb), 0, 0, 1)
def r_X11_seal (tb : Nat → Option (Nat × Nat)) (K : Option AV → AX → Prop) (KX : String → AX → Prop) : PT := lfp (wpm (M_X11_seal tb) B_X11_seal K (fun _ _ _ E X _ _ => KX E X))
def w_X11_seal (tb : Nat → Option (Nat × Nat)) : WP := fun as X K KX => gd ((ini0 as).length ≤ 1) (r_X11_seal tb K KX 0 (iniL as 1) [] X 0 0)
theorem k_X11_seal : B_X11_seal.all (blkB FX11 CX11 [] RX11 false cX11_seal) = true := by decide +kernel
theorem g_X11_seal : gw (.code yX11_seal cX11_seal 1 (some .int)) = true ∧ gw (.initialized yX11_seal.cls) = true := by decide +kernel
theorem c_X11_seal {l : Launch} {G : GX} (hl : l.stackTraces = false) : ∀ as X K KX, w_X11_seal (gT G) as X K KX → CT l G yX11_seal (.code yX11_seal cX11_seal 1 (some .int)) 2 43 0 0 as X K KX := fun as X K KX h => CT_of (M := M_X11_seal (gT G)) (own := RX11) (ini := false) (T := T_X11_seal (gT G)) (B := B_X11_seal) (by decide +kernel) hl rfl (fun h => absurd h (by decide)) rfl tab_X11_X11_seal k_X11_seal rfl (Or.inl rfl) rfl
  ⟨ivV_ok (ci := 9) (c_X9_add hl) g_X9_add.1 g_X9_add.2 ml_X11_150 in_X9_add py_X9_add rfl se_X9_add, trivial⟩ (gd_use h).1 (gd_use h).2
theorem tab_X11_X11_breakSeal : tabB FX11 CX11 StX11 [] RX11 = true := tab_sub tab_X11 (fun _ h => by cases h)
def B_X11_breakSeal : List (Nat × List (Nat × Instr × Nat)) := [(0, [(0, .aload_n 0, 1), (1, .getfield 39, 3), (4, .getfield 156, 3), (7, .iload_n 1, 1), (8, .baload, 1), (9, .istore_n 2, 1), (10, .aload_n 0, 1), (11, .getfield 39, 3), (14, .getfield 156, 3), (17, .iload_n 1, 1), (18, .iconst 0, 1), (19, .bastore, 1), (20, .aload_n 0, 1), (21, .getfield 46, 3), (24, .getfield 258, 3), (27, .ifCond .eq 22, 3), (30, .iload_n 1, 1), (31, .aload_n 0, 1), (32, .getfield 46, 3), (35, .getfield 323, 3), (38, .if_icmp .ge 11, 3), (41, .aload_n 0, 1), (42, .getfield 46, 3), (45, .iconst 0, 1), (46, .putfield 326, 3)]),
  (49, [(49, .iload_n 2, 1), (50, .ireturn, 1)])]
def T_X11_breakSeal (tb : Nat → Option (Nat × Nat)) : List (Nat × IV) := []
def M_X11_breakSeal (tb : Nat → Option (Nat × Nat)) : MT := (tb, FX11, StX11, CX11, [], ivOf (T_X11_breakSeal tb), 0, 0, 2)
def r_X11_breakSeal (tb : Nat → Option (Nat × Nat)) (K : Option AV → AX → Prop) (KX : String → AX → Prop) : PT := lfp (wpm (M_X11_breakSeal tb) B_X11_breakSeal K (fun _ _ _ E X _ _ => KX E X))
def w_X11_breakSeal (tb : Nat → Option (Nat × Nat)) : WP := fun as X K KX => gd ((ini0 as).length ≤ 3) (r_X11_breakSeal tb K KX 0 (iniL as 3) [] X 0 0)
theorem k_X11_breakSeal : B_X11_breakSeal.all (blkB FX11 CX11 [] RX11 false cX11_breakSeal) = true := by decide +kernel
theorem g_X11_breakSeal : gw (.code yX11_breakSeal cX11_breakSeal 3 (some .boolean)) = true ∧ gw (.initialized yX11_breakSeal.cls) = true := by decide +kernel
theorem c_X11_breakSeal {l : Launch} {G : GX} (hl : l.stackTraces = false) : ∀ as X K KX, w_X11_breakSeal (gT G) as X K KX → CT l G yX11_breakSeal (.code yX11_breakSeal cX11_breakSeal 3 (some .boolean)) 0 0 0 0 as X K KX := fun as X K KX h => CT_of (M := M_X11_breakSeal (gT G)) (own := RX11) (ini := false) (T := T_X11_breakSeal (gT G)) (B := B_X11_breakSeal) (by decide +kernel) hl rfl (fun h => absurd h (by decide)) rfl tab_X11_X11_breakSeal k_X11_breakSeal rfl (Or.inl rfl) rfl
  trivial (gd_use h).1 (gd_use h).2
theorem py_X11_breakSeal : plainY yX11_breakSeal 1 = true := by decide +kernel
theorem in_X11_breakSeal : gw (.instanceMethod yX11_breakSeal) = true := by decide +kernel
theorem se_X11_breakSeal : gw (.selects RX11 yX11_breakSeal yX11_breakSeal) = true := by decide +kernel
theorem ml_X11_153 : gw (.methodLink RX11 153 yX11_breakSeal) = true := by decide +kernel
def B_X11_breaks : List (Nat × List (Nat × Instr × Nat)) := [(0, [(0, .iload_n 1, 1), (1, .aload_n 0, 1), (2, .getfield 39, 3), (5, .getfield 140, 3), (8, .invokestatic 91, 3), (11, .aload_n 0, 1), (12, .iload_n 1, 1), (13, .invokevirtual 153, 3), (16, .ireturn, 1)])]
def T_X11_breaks (tb : Nat → Option (Nat × Nat)) : List (Nat × IV) := [(366, ivS 1 6 2 1 6 0 (w_X11_demandPlace tb)), (612, ivV tb 11 1 6 1 0 0 1 (w_X11_breakSeal tb))]
def M_X11_breaks (tb : Nat → Option (Nat × Nat)) : MT := (tb, FX11, StX11, CX11, NwX11, ivOf (T_X11_breaks tb), 1, 6, 2)
def r_X11_breaks (tb : Nat → Option (Nat × Nat)) (K : Option AV → AX → Prop) (KX : String → AX → Prop) : PT := lfp (wpm (M_X11_breaks tb) B_X11_breaks K (fun _ _ _ E X _ _ => KX E X))
def w_X11_breaks (tb : Nat → Option (Nat × Nat)) : WP := fun as X K KX => gd ((ini0 as).length ≤ 2) (r_X11_breaks tb K KX 0 (iniL as 2) [] X 0 0)
theorem k_X11_breaks : B_X11_breaks.all (blkB FX11 CX11 NwX11 RX11 false cX11_breaks) = true := by decide +kernel
theorem g_X11_breaks : gw (.code yX11_breaks cX11_breaks 2 (some .boolean)) = true ∧ gw (.initialized yX11_breaks.cls) = true := by decide +kernel
theorem c_X11_breaks {l : Launch} {G : GX} (hl : l.stackTraces = false) : ∀ as X K KX, w_X11_breaks (gT G) as X K KX → CT l G yX11_breaks (.code yX11_breaks cX11_breaks 2 (some .boolean)) 7 102 1 6 as X K KX := fun as X K KX h => CT_of (M := M_X11_breaks (gT G)) (own := RX11) (ini := false) (T := T_X11_breaks (gT G)) (B := B_X11_breaks) (by decide +kernel) hl rfl (fun h => absurd h (by decide)) rfl tab_X11 k_X11_breaks rfl (Or.inr (Or.inr ⟨by decide, by decide⟩)) rfl
  ⟨ivS_ok (c_X11_demandPlace hl) g_X11_demandPlace.1 g_X11_demandPlace.2 ml_X11_91 st_X11_demandPlace py_X11_demandPlace rfl, ivV_ok (ci := 11) (c_X11_breakSeal hl) g_X11_breakSeal.1 g_X11_breakSeal.2 ml_X11_153 in_X11_breakSeal py_X11_breakSeal rfl se_X11_breakSeal, trivial⟩ (gd_use h).1 (gd_use h).2
def B_X11_blow : List (Nat × List (Nat × Instr × Nat)) := [(0, [(0, .iload_n 1, 1), (1, .bipush 12, 2), (3, .invokestatic 91, 3), (6, .aload_n 0, 1), (7, .getfield 29, 3), (10, .iload_n 1, 1), (11, .iaload, 1), (12, .ifCond .eq 7, 3), (15, .iconst 1, 1), (16, .goto 4, 3)]),
  (19, [(19, .iconst 0, 1)]),
  (20, [(20, .invokestatic 102, 3), (23, .aload_n 0, 1), (24, .getfield 29, 3), (27, .iload_n 1, 1), (28, .iaload, 1), (29, .iconst 2, 1), (30, .if_icmp .ne 7, 3), (33, .iconst 1, 1), (34, .goto 4, 3)]),
  (37, [(37, .iconst 0, 1)]),
  (38, [(38, .invokestatic 86, 3), (41, .aload_n 0, 1), (42, .aload_n 0, 1), (43, .getfield 33, 3), (46, .iload_n 1, 1), (47, .iaload, 1), (48, .invokevirtual 153, 3), (51, .ireturn, 1)])]
def T_X11_blow (tb : Nat → Option (Nat × Nat)) : List (Nat × IV) := [(366, ivS 3 18 2 1 6 0 (w_X11_demandPlace tb)), (410, ivS 3 18 1 1 6 0 (w_X11_demandSuch tb)), (346, ivS 3 18 1 1 6 0 (w_X11_demand tb)), (612, ivV tb 11 3 18 1 0 0 1 (w_X11_breakSeal tb))]
def M_X11_blow (tb : Nat → Option (Nat × Nat)) : MT := (tb, FX11, StX11, CX11, NwX11, ivOf (T_X11_blow tb), 3, 18, 2)
def r_X11_blow (tb : Nat → Option (Nat × Nat)) (K : Option AV → AX → Prop) (KX : String → AX → Prop) : PT := lfp (wpm (M_X11_blow tb) B_X11_blow K (fun _ _ _ E X _ _ => KX E X))
def w_X11_blow (tb : Nat → Option (Nat × Nat)) : WP := fun as X K KX => gd ((ini0 as).length ≤ 2) (r_X11_blow tb K KX 0 (iniL as 2) [] X 0 0)
theorem k_X11_blow : B_X11_blow.all (blkB FX11 CX11 NwX11 RX11 false cX11_blow) = true := by decide +kernel
theorem g_X11_blow : gw (.code yX11_blow cX11_blow 2 (some .boolean)) = true ∧ gw (.initialized yX11_blow.cls) = true := by decide +kernel
theorem c_X11_blow {l : Launch} {G : GX} (hl : l.stackTraces = false) : ∀ as X K KX, w_X11_blow (gT G) as X K KX → CT l G yX11_blow (.code yX11_blow cX11_blow 2 (some .boolean)) 7 102 3 18 as X K KX := fun as X K KX h => CT_of (M := M_X11_blow (gT G)) (own := RX11) (ini := false) (T := T_X11_blow (gT G)) (B := B_X11_blow) (by decide +kernel) hl rfl (fun h => absurd h (by decide)) rfl tab_X11 k_X11_blow rfl (Or.inr (Or.inr ⟨by decide, by decide⟩)) rfl
  ⟨ivS_ok (c_X11_demandPlace hl) g_X11_demandPlace.1 g_X11_demandPlace.2 ml_X11_91 st_X11_demandPlace py_X11_demandPlace rfl, ivS_ok (c_X11_demandSuch hl) g_X11_demandSuch.1 g_X11_demandSuch.2 ml_X11_102 st_X11_demandSuch py_X11_demandSuch rfl, ivS_ok (c_X11_demand hl) g_X11_demand.1 g_X11_demand.2 ml_X11_86 st_X11_demand py_X11_demand rfl, ivV_ok (ci := 11) (c_X11_breakSeal hl) g_X11_breakSeal.1 g_X11_breakSeal.2 ml_X11_153 in_X11_breakSeal py_X11_breakSeal rfl se_X11_breakSeal, trivial⟩ (gd_use h).1 (gd_use h).2
theorem ml_X11_160 : gw (.methodLink RX11 160 yX9_makeWhole) = true := by decide +kernel
def B_X11_sets : List (Nat × List (Nat × Instr × Nat)) := [(0, [(0, .iload_n 1, 1), (1, .aload_n 0, 1), (2, .getfield 39, 3), (5, .getfield 140, 3), (8, .invokestatic 91, 3), (11, .aload_n 0, 1), (12, .getfield 39, 3), (15, .getfield 156, 3), (18, .iload_n 1, 1), (19, .baload, 1), (20, .ifCond .eq 5, 3), (23, .iconst 0, 1), (24, .ireturn, 1)]),
  (25, [(25, .aload_n 0, 1), (26, .getfield 39, 3), (29, .iload_n 1, 1), (30, .aload_n 0, 1), (31, .getfield 147, 3), (34, .invokevirtual 160, 3), (37, .iconst 1, 1), (38, .ireturn, 1)])]
def T_X11_sets (tb : Nat → Option (Nat × Nat)) : List (Nat × IV) := [(366, ivS 1 6 2 1 6 0 (w_X11_demandPlace tb)), (640, ivV tb 9 1 6 2 0 0 0 (w_X9_makeWhole tb))]
def M_X11_sets (tb : Nat → Option (Nat × Nat)) : MT := (tb, FX11, StX11, CX11, NwX11, ivOf (T_X11_sets tb), 1, 6, 2)
def r_X11_sets (tb : Nat → Option (Nat × Nat)) (K : Option AV → AX → Prop) (KX : String → AX → Prop) : PT := lfp (wpm (M_X11_sets tb) B_X11_sets K (fun _ _ _ E X _ _ => KX E X))
def w_X11_sets (tb : Nat → Option (Nat × Nat)) : WP := fun as X K KX => gd ((ini0 as).length ≤ 2) (r_X11_sets tb K KX 0 (iniL as 2) [] X 0 0)
theorem k_X11_sets : B_X11_sets.all (blkB FX11 CX11 NwX11 RX11 false cX11_sets) = true := by decide +kernel
theorem g_X11_sets : gw (.code yX11_sets cX11_sets 2 (some .boolean)) = true ∧ gw (.initialized yX11_sets.cls) = true := by decide +kernel
theorem c_X11_sets {l : Launch} {G : GX} (hl : l.stackTraces = false) : ∀ as X K KX, w_X11_sets (gT G) as X K KX → CT l G yX11_sets (.code yX11_sets cX11_sets 2 (some .boolean)) 7 102 1 6 as X K KX := fun as X K KX h => CT_of (M := M_X11_sets (gT G)) (own := RX11) (ini := false) (T := T_X11_sets (gT G)) (B := B_X11_sets) (by decide +kernel) hl rfl (fun h => absurd h (by decide)) rfl tab_X11 k_X11_sets rfl (Or.inr (Or.inr ⟨by decide, by decide⟩)) rfl
  ⟨ivS_ok (c_X11_demandPlace hl) g_X11_demandPlace.1 g_X11_demandPlace.2 ml_X11_91 st_X11_demandPlace py_X11_demandPlace rfl, ivV_ok (ci := 9) (c_X9_makeWhole hl) g_X9_makeWhole.1 g_X9_makeWhole.2 ml_X11_160 in_X9_makeWhole py_X9_makeWhole rfl se_X9_makeWhole, trivial⟩ (gd_use h).1 (gd_use h).2
def B_X11_since : List (Nat × List (Nat × Instr × Nat)) := [(0, [(0, .iload_n 1, 1), (1, .aload_n 0, 1), (2, .getfield 39, 3), (5, .getfield 140, 3), (8, .invokestatic 91, 3), (11, .aload_n 0, 1), (12, .getfield 39, 3), (15, .getfield 156, 3), (18, .iload_n 1, 1), (19, .baload, 1), (20, .ifCond .eq 15, 3), (23, .aload_n 0, 1), (24, .getfield 39, 3), (27, .getfield 163, 3), (30, .iload_n 1, 1), (31, .iaload, 1), (32, .goto 4, 3)]),
  (35, [(35, .iconst (-1), 1)]),
  (36, [(36, .ireturn, 1)])]
def T_X11_since (tb : Nat → Option (Nat × Nat)) : List (Nat × IV) := [(366, ivS 1 6 2 1 6 0 (w_X11_demandPlace tb))]
def M_X11_since (tb : Nat → Option (Nat × Nat)) : MT := (tb, FX11, StX11, CX11, NwX11, ivOf (T_X11_since tb), 1, 6, 1)
def r_X11_since (tb : Nat → Option (Nat × Nat)) (K : Option AV → AX → Prop) (KX : String → AX → Prop) : PT := lfp (wpm (M_X11_since tb) B_X11_since K (fun _ _ _ E X _ _ => KX E X))
def w_X11_since (tb : Nat → Option (Nat × Nat)) : WP := fun as X K KX => gd ((ini0 as).length ≤ 2) (r_X11_since tb K KX 0 (iniL as 2) [] X 0 0)
theorem k_X11_since : B_X11_since.all (blkB FX11 CX11 NwX11 RX11 false cX11_since) = true := by decide +kernel
theorem g_X11_since : gw (.code yX11_since cX11_since 2 (some .int)) = true ∧ gw (.initialized yX11_since.cls) = true := by decide +kernel
theorem c_X11_since {l : Launch} {G : GX} (hl : l.stackTraces = false) : ∀ as X K KX, w_X11_since (gT G) as X K KX → CT l G yX11_since (.code yX11_since cX11_since 2 (some .int)) 7 102 1 6 as X K KX := fun as X K KX h => CT_of (M := M_X11_since (gT G)) (own := RX11) (ini := false) (T := T_X11_since (gT G)) (B := B_X11_since) (by decide +kernel) hl rfl (fun h => absurd h (by decide)) rfl tab_X11 k_X11_since rfl (Or.inr (Or.inr ⟨by decide, by decide⟩)) rfl
  ⟨ivS_ok (c_X11_demandPlace hl) g_X11_demandPlace.1 g_X11_demandPlace.2 ml_X11_91 st_X11_demandPlace py_X11_demandPlace rfl, trivial⟩ (gd_use h).1 (gd_use h).2
def B_X11_demandBeginning : List (Nat × List (Nat × Instr × Nat)) := [(0, [(0, .iload_n 0, 1), (1, .iconst 0, 1), (2, .bipush 99, 2), (4, .invokestatic 82, 3), (7, .ifCond .eq 28, 3), (10, .iload_n 1, 1), (11, .iconst 0, 1), (12, .sipush 1439, 3), (15, .invokestatic 82, 3), (18, .ifCond .eq 17, 3), (21, .iload_n 2, 1), (22, .iconst 0, 1), (23, .bipush 59, 2), (25, .invokestatic 82, 3), (28, .ifCond .eq 7, 3), (31, .iconst 1, 1), (32, .goto 4, 3)]),
  (35, [(35, .iconst 0, 1)]),
  (36, [(36, .invokestatic 86, 3), (39, .return_, 1)])]
def T_X11_demandBeginning (tb : Nat → Option (Nat × Nat)) : List (Nat × IV) := [(330, ivS 1 6 3 0 0 1 (w_X11_isFrom tb)), (346, ivS 1 6 1 1 6 0 (w_X11_demand tb))]
def M_X11_demandBeginning (tb : Nat → Option (Nat × Nat)) : MT := (tb, FX11, StX11, CX11, NwX11, ivOf (T_X11_demandBeginning tb), 1, 6, 0)
def r_X11_demandBeginning (tb : Nat → Option (Nat × Nat)) (K : Option AV → AX → Prop) (KX : String → AX → Prop) : PT := lfp (wpm (M_X11_demandBeginning tb) B_X11_demandBeginning K (fun _ _ _ E X _ _ => KX E X))
def w_X11_demandBeginning (tb : Nat → Option (Nat × Nat)) : WP := fun as X K KX => gd ((ini0 as).length ≤ 3) (r_X11_demandBeginning tb K KX 0 (iniL as 3) [] X 0 0)
theorem k_X11_demandBeginning : B_X11_demandBeginning.all (blkB FX11 CX11 NwX11 RX11 false cX11_demandBeginning) = true := by decide +kernel
theorem g_X11_demandBeginning : gw (.code yX11_demandBeginning cX11_demandBeginning 3 none) = true ∧ gw (.initialized yX11_demandBeginning.cls) = true := by decide +kernel
theorem c_X11_demandBeginning {l : Launch} {G : GX} (hl : l.stackTraces = false) : ∀ as X K KX, w_X11_demandBeginning (gT G) as X K KX → CT l G yX11_demandBeginning (.code yX11_demandBeginning cX11_demandBeginning 3 none) 7 101 1 6 as X K KX := fun as X K KX h => CT_of (M := M_X11_demandBeginning (gT G)) (own := RX11) (ini := false) (T := T_X11_demandBeginning (gT G)) (B := B_X11_demandBeginning) (by decide +kernel) hl rfl (fun h => absurd h (by decide)) rfl tab_X11 k_X11_demandBeginning rfl (Or.inr (Or.inr ⟨by decide, by decide⟩)) rfl
  ⟨ivS_ok (c_X11_isFrom hl) g_X11_isFrom.1 g_X11_isFrom.2 ml_X11_82 st_X11_isFrom py_X11_isFrom rfl, ivS_ok (c_X11_demand hl) g_X11_demand.1 g_X11_demand.2 ml_X11_86 st_X11_demand py_X11_demand rfl, trivial⟩ (gd_use h).1 (gd_use h).2
def B_X11_tariffHeld : List (Nat × List (Nat × Instr × Nat)) := [(0, [(0, .aload_n 0, 1), (1, .getfield 29, 3), (4, .iload_n 1, 1), (5, .iaload, 1), (6, .ifCond .eq 7, 3), (9, .iconst 1, 1), (10, .goto 4, 3)]),
  (13, [(13, .iconst 0, 1)]),
  (14, [(14, .invokestatic 102, 3), (17, .aload_n 0, 1), (18, .getfield 29, 3), (21, .iload_n 1, 1), (22, .iaload, 1), (23, .iconst 1, 1), (24, .if_icmp .ne 7, 3), (27, .iconst 1, 1), (28, .goto 4, 3)]),
  (31, [(31, .iconst 0, 1)]),
  (32, [(32, .invokestatic 86, 3), (35, .aload_n 0, 1), (36, .getfield 25, 3), (39, .aload_n 0, 1), (40, .getfield 33, 3), (43, .iload_n 1, 1), (44, .iaload, 1), (45, .aaload, 1), (46, .areturn, 1)])]
def T_X11_tariffHeld (tb : Nat → Option (Nat × Nat)) : List (Nat × IV) := [(410, ivS 2 12 1 1 6 0 (w_X11_demandSuch tb)), (346, ivS 2 12 1 1 6 0 (w_X11_demand tb))]
def M_X11_tariffHeld (tb : Nat → Option (Nat × Nat)) : MT := (tb, FX11, StX11, CX11, NwX11, ivOf (T_X11_tariffHeld tb), 2, 12, 4)
def r_X11_tariffHeld (tb : Nat → Option (Nat × Nat)) (K : Option AV → AX → Prop) (KX : String → AX → Prop) : PT := lfp (wpm (M_X11_tariffHeld tb) B_X11_tariffHeld K (fun _ _ _ E X _ _ => KX E X))
def w_X11_tariffHeld (tb : Nat → Option (Nat × Nat)) : WP := fun as X K KX => gd ((ini0 as).length ≤ 2) (r_X11_tariffHeld tb K KX 0 (iniL as 2) [] X 0 0)
theorem k_X11_tariffHeld : B_X11_tariffHeld.all (blkB FX11 CX11 NwX11 RX11 false cX11_tariffHeld) = true := by decide +kernel
theorem g_X11_tariffHeld : gw (.code yX11_tariffHeld cX11_tariffHeld 2 (some (.object "FareClock$Day"))) = true ∧ gw (.initialized yX11_tariffHeld.cls) = true := by decide +kernel
theorem c_X11_tariffHeld {l : Launch} {G : GX} (hl : l.stackTraces = false) : ∀ as X K KX, w_X11_tariffHeld (gT G) as X K KX → CT l G yX11_tariffHeld (.code yX11_tariffHeld cX11_tariffHeld 2 (some (.object "FareClock$Day"))) 7 101 2 12 as X K KX := fun as X K KX h => CT_of (M := M_X11_tariffHeld (gT G)) (own := RX11) (ini := false) (T := T_X11_tariffHeld (gT G)) (B := B_X11_tariffHeld) (by decide +kernel) hl rfl (fun h => absurd h (by decide)) rfl tab_X11 k_X11_tariffHeld rfl (Or.inr (Or.inr ⟨by decide, by decide⟩)) rfl
  ⟨ivS_ok (c_X11_demandSuch hl) g_X11_demandSuch.1 g_X11_demandSuch.2 ml_X11_102 st_X11_demandSuch py_X11_demandSuch rfl, ivS_ok (c_X11_demand hl) g_X11_demand.1 g_X11_demand.2 ml_X11_86 st_X11_demand py_X11_demand rfl, trivial⟩ (gd_use h).1 (gd_use h).2
def B_X9_areWhole : List (Nat × List (Nat × Instr × Nat)) := [(0, [(0, .iconst 0, 1), (1, .istore_n 1, 1)]),
  (2, [(2, .iload_n 1, 1), (3, .aload_n 0, 1), (4, .getfield 19, 3), (7, .if_icmp .ge 20, 3), (10, .aload_n 0, 1), (11, .getfield 9, 3), (14, .iload_n 1, 1), (15, .baload, 1), (16, .ifCond .ne 5, 3), (19, .iconst 0, 1), (20, .ireturn, 1)]),
  (21, [(21, .iinc 1 1, 3), (24, .goto (-22), 3)]),
  (27, [(27, .iconst 1, 1), (28, .ireturn, 1)])]
def T_X9_areWhole (tb : Nat → Option (Nat × Nat)) : List (Nat × IV) := []
def M_X9_areWhole (tb : Nat → Option (Nat × Nat)) : MT := (tb, FX9, StX9, CX9, NwX9, ivOf (T_X9_areWhole tb), 0, 0, 2)
def r_X9_areWhole (tb : Nat → Option (Nat × Nat)) (K : Option AV → AX → Prop) (KX : String → AX → Prop) : PT := lfp (wpm (M_X9_areWhole tb) B_X9_areWhole K (fun _ _ _ E X _ _ => KX E X))
def w_X9_areWhole (tb : Nat → Option (Nat × Nat)) : WP := fun as X K KX => gd ((ini0 as).length ≤ 2) (r_X9_areWhole tb K KX 0 (iniL as 2) [] X 0 0)
theorem k_X9_areWhole : B_X9_areWhole.all (blkB FX9 CX9 NwX9 RX9 false cX9_areWhole) = true := by decide +kernel
theorem g_X9_areWhole : gw (.code yX9_areWhole cX9_areWhole 2 (some .boolean)) = true ∧ gw (.initialized yX9_areWhole.cls) = true := by decide +kernel
theorem c_X9_areWhole {l : Launch} {G : GX} (hl : l.stackTraces = false) : ∀ as X K KX, w_X9_areWhole (gT G) as X K KX → CT l G yX9_areWhole (.code yX9_areWhole cX9_areWhole 2 (some .boolean)) 0 0 0 0 as X K KX := fun as X K KX h => CT_of (M := M_X9_areWhole (gT G)) (own := RX9) (ini := false) (T := T_X9_areWhole (gT G)) (B := B_X9_areWhole) (by decide +kernel) hl rfl (fun h => absurd h (by decide)) rfl tab_X9 k_X9_areWhole rfl (Or.inl rfl) rfl
  trivial (gd_use h).1 (gd_use h).2
theorem py_X9_areWhole : plainY yX9_areWhole 0 = true := by decide +kernel
theorem in_X9_areWhole : gw (.instanceMethod yX9_areWhole) = true := by decide +kernel
theorem se_X9_areWhole : gw (.selects RX9 yX9_areWhole yX9_areWhole) = true := by decide +kernel
theorem ml_X4_58 : gw (.methodLink RX4 58 yX9_areWhole) = true := by decide +kernel
def B_X4_open : List (Nat × List (Nat × Instr × Nat)) := [(0, [(0, .aload_n 0, 1), (1, .aload_n 2, 1), (2, .putfield 36, 3), (5, .aload_n 0, 1), (6, .iload_n 1, 1), (7, .putfield 32, 3), (10, .aload_n 0, 1), (11, .iconst 1, 1), (12, .putfield 40, 3), (15, .aload_n 0, 1), (16, .iload_n 3, 1), (17, .putfield 44, 3), (20, .aload_n 0, 1), (21, .iconst (-1), 1), (22, .putfield 47, 3), (25, .aload_n 0, 1), (26, .aload 4, 2), (28, .getfield 50, 3), (31, .putfield 55, 3), (34, .aload_n 0, 1), (35, .aload 4, 2), (37, .invokevirtual 58, 3), (40, .putfield 62, 3), (43, .aload_n 0, 1), (44, .iconst 0, 1), (45, .putfield 65, 3), (48, .aload_n 0, 1), (49, .iconst 0, 1), (50, .putfield 68, 3), (53, .return_, 1)])]
def T_X4_open (tb : Nat → Option (Nat × Nat)) : List (Nat × IV) := [(232, ivV tb 9 0 0 0 0 0 1 (w_X9_areWhole tb))]
def M_X4_open (tb : Nat → Option (Nat × Nat)) : MT := (tb, FX4, StX4, CX4, NwX4, ivOf (T_X4_open tb), 0, 0, 0)
def r_X4_open (tb : Nat → Option (Nat × Nat)) (K : Option AV → AX → Prop) (KX : String → AX → Prop) : PT := lfp (wpm (M_X4_open tb) B_X4_open K (fun _ _ _ E X _ _ => KX E X))
def w_X4_open (tb : Nat → Option (Nat × Nat)) : WP := fun as X K KX => gd ((ini0 as).length ≤ 5) (r_X4_open tb K KX 0 (iniL as 5) [] X 0 0)
theorem k_X4_open : B_X4_open.all (blkB FX4 CX4 NwX4 RX4 false cX4_open) = true := by decide +kernel
theorem g_X4_open : gw (.code yX4_open cX4_open 5 none) = true ∧ gw (.initialized yX4_open.cls) = true := by decide +kernel
theorem c_X4_open {l : Launch} {G : GX} (hl : l.stackTraces = false) : ∀ as X K KX, w_X4_open (gT G) as X K KX → CT l G yX4_open (.code yX4_open cX4_open 5 none) 1 21 0 0 as X K KX := fun as X K KX h => CT_of (M := M_X4_open (gT G)) (own := RX4) (ini := false) (T := T_X4_open (gT G)) (B := B_X4_open) (by decide +kernel) hl rfl (fun h => absurd h (by decide)) rfl tab_X4 k_X4_open rfl (Or.inr (Or.inl nw_X4)) rfl
  ⟨ivV_ok (ci := 9) (c_X9_areWhole hl) g_X9_areWhole.1 g_X9_areWhole.2 ml_X4_58 in_X9_areWhole py_X9_areWhole rfl se_X9_areWhole, trivial⟩ (gd_use h).1 (gd_use h).2
theorem ml_X7_23 : gw (.methodLink RX7 23 yJ7_fill_53178) = true := by decide +kernel
def B_X7_empty : List (Nat × List (Nat × Instr × Nat)) := [(0, [(0, .aload_n 0, 1), (1, .getfield 9, 3), (4, .iconst 0, 1), (5, .invokestatic 23, 3), (8, .aload_n 0, 1), (9, .getfield 13, 3), (12, .iconst 0, 1), (13, .invokestatic 23, 3), (16, .aload_n 0, 1), (17, .getfield 13, 3), (20, .iconst 0, 1), (21, .iconst 1, 1), (22, .iastore, 1), (23, .aload_n 0, 1), (24, .iconst 2, 1), (25, .putfield 19, 3), (28, .return_, 1)])]
def T_X7_empty (tb : Nat → Option (Nat × Nat)) : List (Nat × IV) := [(94, ivS 0 0 2 0 0 0 (w_J7_fill_53178 tb))]
def M_X7_empty (tb : Nat → Option (Nat × Nat)) : MT := (tb, FX7, StX7, CX7, NwX7, ivOf (T_X7_empty tb), 0, 0, 0)
def r_X7_empty (tb : Nat → Option (Nat × Nat)) (K : Option AV → AX → Prop) (KX : String → AX → Prop) : PT := lfp (wpm (M_X7_empty tb) B_X7_empty K (fun _ _ _ E X _ _ => KX E X))
def w_X7_empty (tb : Nat → Option (Nat × Nat)) : WP := fun as X K KX => gd ((ini0 as).length ≤ 1) (r_X7_empty tb K KX 0 (iniL as 1) [] X 0 0)
theorem k_X7_empty : B_X7_empty.all (blkB FX7 CX7 NwX7 RX7 false cX7_empty) = true := by decide +kernel
theorem g_X7_empty : gw (.code yX7_empty cX7_empty 1 none) = true ∧ gw (.initialized yX7_empty.cls) = true := by decide +kernel
theorem c_X7_empty {l : Launch} {G : GX} (hl : l.stackTraces = false) : ∀ as X K KX, w_X7_empty (gT G) as X K KX → CT l G yX7_empty (.code yX7_empty cX7_empty 1 none) 1 23 0 0 as X K KX := fun as X K KX h => CT_of (M := M_X7_empty (gT G)) (own := RX7) (ini := false) (T := T_X7_empty (gT G)) (B := B_X7_empty) (by decide +kernel) hl rfl (fun h => absurd h (by decide)) rfl tab_X7 k_X7_empty rfl (Or.inl rfl) rfl
  ⟨ivS_ok (c_J7_fill_53178 hl) g_J7_fill_53178.1 g_J7_fill_53178.2 ml_X7_23 st_J7_fill_53178 py_J7_fill_53178 rfl, trivial⟩ (gd_use h).1 (gd_use h).2
def B_X0_extraOfCall : List (Nat × List (Nat × Instr × Nat)) := [(0, [(0, .aload_n 0, 1), (1, .getfield 13, 3), (4, .bipush 14, 2), (6, .iaload, 1), (7, .ireturn, 1)])]
def T_X0_extraOfCall (tb : Nat → Option (Nat × Nat)) : List (Nat × IV) := []
def M_X0_extraOfCall (tb : Nat → Option (Nat × Nat)) : MT := (tb, FX0, StX0, CX0, NwX0, ivOf (T_X0_extraOfCall tb), 0, 0, 1)
def r_X0_extraOfCall (tb : Nat → Option (Nat × Nat)) (K : Option AV → AX → Prop) (KX : String → AX → Prop) : PT := lfp (wpm (M_X0_extraOfCall tb) B_X0_extraOfCall K (fun _ _ _ E X _ _ => KX E X))
def w_X0_extraOfCall (tb : Nat → Option (Nat × Nat)) : WP := fun as X K KX => gd ((ini0 as).length ≤ 1) (r_X0_extraOfCall tb K KX 0 (iniL as 1) [] X 0 0)
theorem k_X0_extraOfCall : B_X0_extraOfCall.all (blkB FX0 CX0 NwX0 RX0 false cX0_extraOfCall) = true := by decide +kernel
theorem g_X0_extraOfCall : gw (.code yX0_extraOfCall cX0_extraOfCall 1 (some .int)) = true ∧ gw (.initialized yX0_extraOfCall.cls) = true := by decide +kernel
theorem c_X0_extraOfCall {l : Launch} {G : GX} (hl : l.stackTraces = false) : ∀ as X K KX, w_X0_extraOfCall (gT G) as X K KX → CT l G yX0_extraOfCall (.code yX0_extraOfCall cX0_extraOfCall 1 (some .int)) 0 0 0 0 as X K KX := fun as X K KX h => CT_of (M := M_X0_extraOfCall (gT G)) (own := RX0) (ini := false) (T := T_X0_extraOfCall (gT G)) (B := B_X0_extraOfCall) (by decide +kernel) hl rfl (fun h => absurd h (by decide)) rfl tab_X0 k_X0_extraOfCall rfl (Or.inl rfl) rfl
  trivial (gd_use h).1 (gd_use h).2
def B_X1_extraOfCall : List (Nat × List (Nat × Instr × Nat)) := [(0, [(0, .iconst 0, 1), (1, .ireturn, 1)])]
def T_X1_extraOfCall (tb : Nat → Option (Nat × Nat)) : List (Nat × IV) := []
def M_X1_extraOfCall (tb : Nat → Option (Nat × Nat)) : MT := (tb, FX1, StX1, CX1, NwX1, ivOf (T_X1_extraOfCall tb), 0, 0, 1)
def r_X1_extraOfCall (tb : Nat → Option (Nat × Nat)) (K : Option AV → AX → Prop) (KX : String → AX → Prop) : PT := lfp (wpm (M_X1_extraOfCall tb) B_X1_extraOfCall K (fun _ _ _ E X _ _ => KX E X))
def w_X1_extraOfCall (tb : Nat → Option (Nat × Nat)) : WP := fun as X K KX => gd ((ini0 as).length ≤ 1) (r_X1_extraOfCall tb K KX 0 (iniL as 1) [] X 0 0)
theorem k_X1_extraOfCall : B_X1_extraOfCall.all (blkB FX1 CX1 NwX1 RX1 false cX1_extraOfCall) = true := by decide +kernel
theorem g_X1_extraOfCall : gw (.code yX1_extraOfCall cX1_extraOfCall 1 (some .int)) = true ∧ gw (.initialized yX1_extraOfCall.cls) = true := by decide +kernel
theorem c_X1_extraOfCall {l : Launch} {G : GX} (hl : l.stackTraces = false) : ∀ as X K KX, w_X1_extraOfCall (gT G) as X K KX → CT l G yX1_extraOfCall (.code yX1_extraOfCall cX1_extraOfCall 1 (some .int)) 0 0 0 0 as X K KX := fun as X K KX h => CT_of (M := M_X1_extraOfCall (gT G)) (own := RX1) (ini := false) (T := T_X1_extraOfCall (gT G)) (B := B_X1_extraOfCall) (by decide +kernel) hl rfl (fun h => absurd h (by decide)) rfl tab_X1 k_X1_extraOfCall rfl (Or.inl rfl) rfl
  trivial (gd_use h).1 (gd_use h).2
def B_X5_charge : List (Nat × List (Nat × Instr × Nat)) := [(0, [(0, .aload_n 0, 1), (1, .dup, 1), (2, .getfield 50, 3), (5, .iload_n 1, 1), (6, .iadd, 1), (7, .putfield 50, 3), (10, .aload_n 0, 1), (11, .dup, 1), (12, .getfield 41, 3), (15, .iload_n 1, 1), (16, .i2l, 1), (17, .ladd, 1), (18, .putfield 41, 3), (21, .return_, 1)])]
def T_X5_charge (tb : Nat → Option (Nat × Nat)) : List (Nat × IV) := []
def M_X5_charge (tb : Nat → Option (Nat × Nat)) : MT := (tb, FX5, StX5, CX5, NwX5, ivOf (T_X5_charge tb), 0, 0, 0)
def r_X5_charge (tb : Nat → Option (Nat × Nat)) (K : Option AV → AX → Prop) (KX : String → AX → Prop) : PT := lfp (wpm (M_X5_charge tb) B_X5_charge K (fun _ _ _ E X _ _ => KX E X))
def w_X5_charge (tb : Nat → Option (Nat × Nat)) : WP := fun as X K KX => gd ((ini0 as).length ≤ 2) (r_X5_charge tb K KX 0 (iniL as 2) [] X 0 0)
theorem k_X5_charge : B_X5_charge.all (blkB FX5 CX5 NwX5 RX5 false cX5_charge) = true := by decide +kernel
theorem g_X5_charge : gw (.code yX5_charge cX5_charge 2 none) = true ∧ gw (.initialized yX5_charge.cls) = true := by decide +kernel
theorem c_X5_charge {l : Launch} {G : GX} (hl : l.stackTraces = false) : ∀ as X K KX, w_X5_charge (gT G) as X K KX → CT l G yX5_charge (.code yX5_charge cX5_charge 2 none) 0 0 0 0 as X K KX := fun as X K KX h => CT_of (M := M_X5_charge (gT G)) (own := RX5) (ini := false) (T := T_X5_charge (gT G)) (B := B_X5_charge) (by decide +kernel) hl rfl (fun h => absurd h (by decide)) rfl tab_X5 k_X5_charge rfl (Or.inr (Or.inl nw_X5)) rfl
  trivial (gd_use h).1 (gd_use h).2
theorem se_X0_yX1_extraOfCall_X0_extraOfCall : gw (.selects RX0 yX1_extraOfCall yX0_extraOfCall) = true := by decide +kernel
theorem in_X0_extraOfCall : gw (.instanceMethod yX0_extraOfCall) = true := by decide +kernel
theorem se_X1_yX1_extraOfCall_X1_extraOfCall : gw (.selects RX1 yX1_extraOfCall yX1_extraOfCall) = true := by decide +kernel
theorem in_X1_extraOfCall : gw (.instanceMethod yX1_extraOfCall) = true := by decide +kernel
theorem se_X2_yX1_extraOfCall_X1_extraOfCall : gw (.selects RX2 yX1_extraOfCall yX1_extraOfCall) = true := by decide +kernel
theorem se_X3_yX1_extraOfCall_X1_extraOfCall : gw (.selects RX3 yX1_extraOfCall yX1_extraOfCall) = true := by decide +kernel
theorem se_X6_yX1_extraOfCall_X1_extraOfCall : gw (.selects RX6 yX1_extraOfCall yX1_extraOfCall) = true := by decide +kernel
theorem sm_yX1_extraOfCall : gw (.sameMethod RX1 RX1 "extraOfCall" "()I") = true := by decide +kernel
theorem ml_X5_80 : gw (.methodLink RX5 80 yX1_extraOfCall) = true := by decide +kernel
theorem py_X1_extraOfCall : plainY yX1_extraOfCall 0 = true := by decide +kernel
theorem py_X5_charge : plainY yX5_charge 1 = true := by decide +kernel
theorem in_X5_charge : gw (.instanceMethod yX5_charge) = true := by decide +kernel
theorem se_X5_charge : gw (.selects RX5 yX5_charge yX5_charge) = true := by decide +kernel
theorem ml_X5_84 : gw (.methodLink RX5 84 yX5_charge) = true := by decide +kernel
def B_X5_take : List (Nat × List (Nat × Instr × Nat)) := [(0, [(0, .aload_n 0, 1), (1, .aload_n 1, 1), (2, .putfield 73, 3), (5, .iconst 1, 1), (6, .aload_n 1, 1), (7, .getfield 77, 3), (10, .ishl, 1), (11, .istore_n 2, 1), (12, .aload_n 0, 1), (13, .getfield 56, 3), (16, .iload_n 2, 1), (17, .iand, 1), (18, .ifCond .ne 21, 3), (21, .aload_n 0, 1), (22, .dup, 1), (23, .getfield 56, 3), (26, .iload_n 2, 1), (27, .ior, 1), (28, .putfield 56, 3), (31, .aload_n 0, 1), (32, .aload_n 1, 1), (33, .invokevirtual 80, 3), (36, .invokevirtual 84, 3)]),
  (39, [(39, .return_, 1)])]
def T_X5_take (tb : Nat → Option (Nat × Nat)) : List (Nat × IV) := [(320, ivD tb 0 1 [(0, w_X0_extraOfCall tb), (1, w_X1_extraOfCall tb), (2, w_X1_extraOfCall tb), (3, w_X1_extraOfCall tb), (6, w_X1_extraOfCall tb)]), (336, ivV tb 5 0 0 1 0 0 0 (w_X5_charge tb))]
def M_X5_take (tb : Nat → Option (Nat × Nat)) : MT := (tb, FX5, StX5, CX5, NwX5, ivOf (T_X5_take tb), 0, 0, 0)
def r_X5_take (tb : Nat → Option (Nat × Nat)) (K : Option AV → AX → Prop) (KX : String → AX → Prop) : PT := lfp (wpm (M_X5_take tb) B_X5_take K (fun _ _ _ E X _ _ => KX E X))
def w_X5_take (tb : Nat → Option (Nat × Nat)) : WP := fun as X K KX => gd ((ini0 as).length ≤ 3) (r_X5_take tb K KX 0 (iniL as 3) [] X 0 0)
theorem k_X5_take : B_X5_take.all (blkB FX5 CX5 NwX5 RX5 false cX5_take) = true := by decide +kernel
theorem g_X5_take : gw (.code yX5_take cX5_take 3 none) = true ∧ gw (.initialized yX5_take.cls) = true := by decide +kernel
theorem c_X5_take {l : Launch} {G : GX} (hl : l.stackTraces = false) : ∀ as X K KX, w_X5_take (gT G) as X K KX → CT l G yX5_take (.code yX5_take cX5_take 3 none) 1 21 0 0 as X K KX := fun as X K KX h => CT_of (M := M_X5_take (gT G)) (own := RX5) (ini := false) (T := T_X5_take (gT G)) (B := B_X5_take) (by decide +kernel) hl rfl (fun h => absurd h (by decide)) rfl tab_X5 k_X5_take rfl (Or.inr (Or.inl nw_X5)) rfl
  ⟨ivD_ok g_X1_extraOfCall.1 ml_X5_80 in_X1_extraOfCall py_X1_extraOfCall sm_yX1_extraOfCall ⟨⟨yX0_extraOfCall, cX0_extraOfCall, 1, (some .int), 0, 0, c_X0_extraOfCall hl, g_X0_extraOfCall.1, g_X0_extraOfCall.2, in_X0_extraOfCall, rfl, se_X0_yX1_extraOfCall_X0_extraOfCall⟩, ⟨yX1_extraOfCall, cX1_extraOfCall, 1, (some .int), 0, 0, c_X1_extraOfCall hl, g_X1_extraOfCall.1, g_X1_extraOfCall.2, in_X1_extraOfCall, rfl, se_X1_yX1_extraOfCall_X1_extraOfCall⟩, ⟨yX1_extraOfCall, cX1_extraOfCall, 1, (some .int), 0, 0, c_X1_extraOfCall hl, g_X1_extraOfCall.1, g_X1_extraOfCall.2, in_X1_extraOfCall, rfl, se_X2_yX1_extraOfCall_X1_extraOfCall⟩, ⟨yX1_extraOfCall, cX1_extraOfCall, 1, (some .int), 0, 0, c_X1_extraOfCall hl, g_X1_extraOfCall.1, g_X1_extraOfCall.2, in_X1_extraOfCall, rfl, se_X3_yX1_extraOfCall_X1_extraOfCall⟩, ⟨yX1_extraOfCall, cX1_extraOfCall, 1, (some .int), 0, 0, c_X1_extraOfCall hl, g_X1_extraOfCall.1, g_X1_extraOfCall.2, in_X1_extraOfCall, rfl, se_X6_yX1_extraOfCall_X1_extraOfCall⟩, trivial⟩, ivV_ok (ci := 5) (c_X5_charge hl) g_X5_charge.1 g_X5_charge.2 ml_X5_84 in_X5_charge py_X5_charge rfl se_X5_charge, trivial⟩ (gd_use h).1 (gd_use h).2
theorem py_X7_empty : plainY yX7_empty 0 = true := by decide +kernel
theorem in_X7_empty : gw (.instanceMethod yX7_empty) = true := by decide +kernel
theorem se_X7_empty : gw (.selects RX7 yX7_empty yX7_empty) = true := by decide +kernel
theorem ml_X5_18 : gw (.methodLink RX5 18 yX7_empty) = true := by decide +kernel
theorem py_X5_take : plainY yX5_take 1 = true := by decide +kernel
theorem in_X5_take : gw (.instanceMethod yX5_take) = true := by decide +kernel
theorem se_X5_take : gw (.selects RX5 yX5_take yX5_take) = true := by decide +kernel
theorem ml_X5_69 : gw (.methodLink RX5 69 yX5_take) = true := by decide +kernel
def B_X5_start : List (Nat × List (Nat × Instr × Nat)) := [(0, [(0, .aload_n 0, 1), (1, .getfield 12, 3), (4, .invokevirtual 18, 3), (7, .aload_n 0, 1), (8, .iload_n 2, 1), (9, .putfield 21, 3), (12, .aload_n 0, 1), (13, .iload_n 3, 1), (14, .putfield 25, 3), (17, .aload_n 0, 1), (18, .iconst 0, 1), (19, .putfield 28, 3), (22, .aload_n 0, 1), (23, .lconst 0, 1), (24, .putfield 31, 3), (27, .aload_n 0, 1), (28, .aload_n 1, 1), (29, .getfield 35, 3), (32, .iconst 0, 1), (33, .iaload, 1), (34, .i2l, 1), (35, .putfield 41, 3), (38, .aload_n 0, 1), (39, .iconst 0, 1), (40, .putfield 44, 3), (43, .aload_n 0, 1), (44, .aload_n 1, 1), (45, .getfield 35, 3), (48, .iconst 1, 1), (49, .iaload, 1), (50, .iconst 1, 1), (51, .isub, 1), (52, .putfield 47, 3), (55, .aload_n 0, 1), (56, .iconst 0, 1), (57, .putfield 50, 3), (60, .aload_n 0, 1), (61, .iconst 0, 1), (62, .putfield 53, 3), (65, .aload_n 0, 1), (66, .iconst 0, 1), (67, .putfield 56, 3), (70, .aload_n 0, 1), (71, .iconst 0, 1), (72, .putfield 59, 3), (75, .aload_n 0, 1), (76, .iconst 0, 1), (77, .putfield 62, 3), (80, .aload_n 0, 1), (81, .iconst 1, 1), (82, .putfield 65, 3), (85, .aload_n 0, 1), (86, .aload_n 1, 1), (87, .invokevirtual 69, 3), (90, .return_, 1)])]
def T_X5_start (tb : Nat → Option (Nat × Nat)) : List (Nat × IV) := [(72, ivV tb 7 0 0 0 0 0 0 (w_X7_empty tb)), (276, ivV tb 5 0 0 1 0 0 0 (w_X5_take tb))]
def M_X5_start (tb : Nat → Option (Nat × Nat)) : MT := (tb, FX5, StX5, CX5, NwX5, ivOf (T_X5_start tb), 0, 0, 0)
def r_X5_start (tb : Nat → Option (Nat × Nat)) (K : Option AV → AX → Prop) (KX : String → AX → Prop) : PT := lfp (wpm (M_X5_start tb) B_X5_start K (fun _ _ _ E X _ _ => KX E X))
def w_X5_start (tb : Nat → Option (Nat × Nat)) : WP := fun as X K KX => gd ((ini0 as).length ≤ 4) (r_X5_start tb K KX 0 (iniL as 4) [] X 0 0)
theorem k_X5_start : B_X5_start.all (blkB FX5 CX5 NwX5 RX5 false cX5_start) = true := by decide +kernel
theorem g_X5_start : gw (.code yX5_start cX5_start 4 none) = true ∧ gw (.initialized yX5_start.cls) = true := by decide +kernel
theorem c_X5_start {l : Launch} {G : GX} (hl : l.stackTraces = false) : ∀ as X K KX, w_X5_start (gT G) as X K KX → CT l G yX5_start (.code yX5_start cX5_start 4 none) 2 43 0 0 as X K KX := fun as X K KX h => CT_of (M := M_X5_start (gT G)) (own := RX5) (ini := false) (T := T_X5_start (gT G)) (B := B_X5_start) (by decide +kernel) hl rfl (fun h => absurd h (by decide)) rfl tab_X5 k_X5_start rfl (Or.inr (Or.inl nw_X5)) rfl
  ⟨ivV_ok (ci := 7) (c_X7_empty hl) g_X7_empty.1 g_X7_empty.2 ml_X5_18 in_X7_empty py_X7_empty rfl se_X7_empty, ivV_ok (ci := 5) (c_X5_take hl) g_X5_take.1 g_X5_take.2 ml_X5_69 in_X5_take py_X5_take rfl se_X5_take, trivial⟩ (gd_use h).1 (gd_use h).2
theorem st_X11_demandBeginning : gw (.static yX11_demandBeginning) = true := by decide +kernel
theorem py_X11_demandBeginning : plainY yX11_demandBeginning 3 = true := by decide +kernel
theorem ml_X11_166 : gw (.methodLink RX11 166 yX11_demandBeginning) = true := by decide +kernel
theorem py_X11_tariffHeld : plainY yX11_tariffHeld 1 = true := by decide +kernel
theorem in_X11_tariffHeld : gw (.instanceMethod yX11_tariffHeld) = true := by decide +kernel
theorem se_X11_tariffHeld : gw (.selects RX11 yX11_tariffHeld yX11_tariffHeld) = true := by decide +kernel
theorem ml_X11_169 : gw (.methodLink RX11 169 yX11_tariffHeld) = true := by decide +kernel
theorem py_X4_open : plainY yX4_open 4 = true := by decide +kernel
theorem in_X4_open : gw (.instanceMethod yX4_open) = true := by decide +kernel
theorem se_X4_open : gw (.selects RX4 yX4_open yX4_open) = true := by decide +kernel
theorem ml_X11_173 : gw (.methodLink RX11 173 yX4_open) = true := by decide +kernel
theorem py_X5_start : plainY yX5_start 3 = true := by decide +kernel
theorem in_X5_start : gw (.instanceMethod yX5_start) = true := by decide +kernel
theorem se_X5_start : gw (.selects RX5 yX5_start yX5_start) = true := by decide +kernel
theorem ml_X11_180 : gw (.methodLink RX11 180 yX5_start) = true := by decide +kernel
def B_X11_hire : List (Nat × List (Nat × Instr × Nat)) := [(0, [(0, .aload_n 0, 1), (1, .invokevirtual 76, 3), (4, .iload_n 1, 1), (5, .bipush 12, 2), (7, .invokestatic 91, 3), (10, .iload_n 2, 1), (11, .iload_n 3, 1), (12, .iload 4, 2), (14, .invokestatic 166, 3), (17, .aload_n 0, 1), (18, .iload_n 1, 1), (19, .invokevirtual 169, 3), (22, .astore 5, 2), (24, .aload_n 0, 1), (25, .getfield 147, 3), (28, .sipush 4000, 3), (31, .if_icmp .lt 5, 3), (34, .iconst (-1), 1), (35, .ireturn, 1)]),
  (36, [(36, .aload_n 0, 1), (37, .getfield 46, 3), (40, .aload_n 0, 1), (41, .getfield 147, 3), (44, .aload 5, 2), (46, .iload_n 2, 1), (47, .aload_n 0, 1), (48, .getfield 39, 3), (51, .invokevirtual 173, 3), (54, .aload_n 0, 1), (55, .getfield 46, 3), (58, .getfield 177, 3), (61, .aload 5, 2), (63, .iload_n 3, 1), (64, .bipush 60, 2), (66, .imul, 1), (67, .iload 4, 2), (69, .iadd, 1), (70, .aload_n 0, 1), (71, .getfield 13, 3), (74, .invokevirtual 180, 3), (77, .aload_n 0, 1), (78, .dup, 1), (79, .getfield 147, 3), (82, .iconst 1, 1), (83, .iadd, 1), (84, .putfield 147, 3), (87, .aload_n 0, 1), (88, .getfield 46, 3), (91, .getfield 184, 3), (94, .ireturn, 1)])]
def T_X11_hire (tb : Nat → Option (Nat × Nat)) : List (Nat × IV) := [(304, ivV tb 11 5 30 0 1 6 0 (w_X11_refuseWhileHired tb)), (366, ivS 5 30 2 1 6 0 (w_X11_demandPlace tb)), (666, ivS 5 30 3 1 6 0 (w_X11_demandBeginning tb)), (676, ivV tb 11 5 30 1 2 12 4 (w_X11_tariffHeld tb)), (692, ivV tb 4 5 30 4 0 0 0 (w_X4_open tb)), (720, ivV tb 5 5 30 3 0 0 0 (w_X5_start tb))]
def M_X11_hire (tb : Nat → Option (Nat × Nat)) : MT := (tb, FX11, StX11, CX11, NwX11, ivOf (T_X11_hire tb), 5, 30, 1)
def r_X11_hire (tb : Nat → Option (Nat × Nat)) (K : Option AV → AX → Prop) (KX : String → AX → Prop) : PT := lfp (wpm (M_X11_hire tb) B_X11_hire K (fun _ _ _ E X _ _ => KX E X))
def w_X11_hire (tb : Nat → Option (Nat × Nat)) : WP := fun as X K KX => gd ((ini0 as).length ≤ 6) (r_X11_hire tb K KX 0 (iniL as 6) [] X 0 0)
theorem k_X11_hire : B_X11_hire.all (blkB FX11 CX11 NwX11 RX11 false cX11_hire) = true := by decide +kernel
theorem g_X11_hire : gw (.code yX11_hire cX11_hire 6 (some .int)) = true ∧ gw (.initialized yX11_hire.cls) = true := by decide +kernel
theorem c_X11_hire {l : Launch} {G : GX} (hl : l.stackTraces = false) : ∀ as X K KX, w_X11_hire (gT G) as X K KX → CT l G yX11_hire (.code yX11_hire cX11_hire 6 (some .int)) 8 123 5 30 as X K KX := fun as X K KX h => CT_of (M := M_X11_hire (gT G)) (own := RX11) (ini := false) (T := T_X11_hire (gT G)) (B := B_X11_hire) (by decide +kernel) hl rfl (fun h => absurd h (by decide)) rfl tab_X11 k_X11_hire rfl (Or.inr (Or.inr ⟨by decide, by decide⟩)) rfl
  ⟨ivV_ok (ci := 11) (c_X11_refuseWhileHired hl) g_X11_refuseWhileHired.1 g_X11_refuseWhileHired.2 ml_X11_76 in_X11_refuseWhileHired py_X11_refuseWhileHired rfl se_X11_refuseWhileHired, ivS_ok (c_X11_demandPlace hl) g_X11_demandPlace.1 g_X11_demandPlace.2 ml_X11_91 st_X11_demandPlace py_X11_demandPlace rfl, ivS_ok (c_X11_demandBeginning hl) g_X11_demandBeginning.1 g_X11_demandBeginning.2 ml_X11_166 st_X11_demandBeginning py_X11_demandBeginning rfl, ivV_ok (ci := 11) (c_X11_tariffHeld hl) g_X11_tariffHeld.1 g_X11_tariffHeld.2 ml_X11_169 in_X11_tariffHeld py_X11_tariffHeld rfl se_X11_tariffHeld, ivV_ok (ci := 4) (c_X4_open hl) g_X4_open.1 g_X4_open.2 ml_X11_173 in_X4_open py_X4_open rfl se_X4_open, ivV_ok (ci := 5) (c_X5_start hl) g_X5_start.1 g_X5_start.2 ml_X11_180 in_X5_start py_X5_start rfl se_X5_start, trivial⟩ (gd_use h).1 (gd_use h).2
