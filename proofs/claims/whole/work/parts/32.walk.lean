/-! the law's walk: out of the pure part -/
def x0X (L : Nat) (xs : Nat → Int32) : AX := (fun i => if i < 4 then (1, g0L L i) else (0, 0), fun i => g0V xs i, fun _ _ => 0, fun _ _ => none, 4)
def k1K : Option AV → AX → Prop := fun v _ => v = some (vI 1)
def kxF : String → AX → Prop := fun _ _ => False
def lawStart (L : Nat) (xs : Nat → Int32) : Prop :=
  wpb (M_L_law (fun _ => none)) (fun pc L st X k z => pc = 23 ∧ (∀ i s, tb0 i = some s → xS X i = s) ∧ r_L_law tb0 k1K kxF 23 L st X k z) k1K (fun _ _ _ _ _ _ => False) ((lk B_L_law 0).getD []) (iniL [vR (some 0)] 8) [] (x0X L xs) 0 0
theorem lvl_same {G G' : GX} (h : ∀ v, cv G v = cv G' v) : ∀ (L : LT) (i : Nat), lvl G i L = lvl G' i L
  | [], _ => rfl
  | none :: t, i => by rw [lvl, lvl, lvl_same h t]
  | some v :: t, i => by rw [lvl, lvl, lvl_same h t, h v]
section Walk
variable {p : Program} {l : Launch} {e : Env} {s : State} {m : MethodId} {below : List Frame} {meth : Method} {c : Code} {b L : Nat} {xs : Nat → Int32}
theorem law_ret {G : GX} (hG : gB G = s.heap.size) (hx : p.tables.exec = Jvm.exec) (hb : c.code = code) (hr : meth.sig.returnType = ret) (hlocks : meth.locks = false) {tb : Nat → Option (Nat × Nat)} {pc len : Nat} {ins : Instr} (hd : decode code pc = .ok (ins, len)) (hlen : len = ilen ins ∨ isSw ins = true) {L' : LT} {st : List AV} {X : AX} {k z : Nat} (h : retF (M_L_law tb) ins L' st X k1K) :
    Ws G p l e room_1 s m #[Value.ref b] below meth c 8 (lw_Z below #[Value.ref b] s) pc L' st X k z := by
  intro H locs ls hR hq hL hk hz
  unfold retF at h
  split at h
  · rename_i e1; exact absurd (show (2 : Nat) = 0 from e1) (by decide)
  · rename_i e1; exact absurd (show (2 : Nat) = 5 from e1) (by decide)
  · rename_i v e1; exact absurd (show (2 : Nat) = 1 from e1) (by decide)
  · rename_i v e1
    have hv : v = 1 := Sum.inl.inj (Option.some.inj (show (some (vI v) : Option AV) = some (vI 1) from h.2))
    subst hv
    have hl : len = 1 := hlen.elim id (fun q => by cases q)
    subst hl
    refine va_forget (fun q hq' => by rw [← hG]; exact hq q hq') ?_
    refine W.widen (k := 601024) (n := 7293034) hk hz ?_
    refine W.base ?_
    exact lw_ret (Drawn.sameBut.refl s.drawn lw_cs) hx hb hr hlocks hd
  · rename_i v e1; exact absurd (show (2 : Nat) = 3 from e1) (by decide)
  · rename_i v e1; exact absurd (show (2 : Nat) = 4 from e1) (by decide)
  · exact h.elim
set_option maxHeartbeats 4000000 in
theorem law_Ws {G : GX} (hl : l.stackTraces = false) (hG : gB G = s.heap.size) (hr : meth.sig.returnType = ret) (C : Cx G (M_L_law (gT G)) RL false p l room_1 s m #[Value.ref b] meth c code 8) {P : PT}
    (hP : ∀ pc L st X k z, P pc L st X k z → Ws G p l e room_1 s m #[Value.ref b] below meth c 8 (lw_Z below #[Value.ref b] s) pc L st X k z) {pc : Nat} {bl : List (Nat × Instr × Nat)} (hbl : lk B_L_law pc = some bl) {L' : LT} {st : List AV} {X : AX} {k z : Nat}
    (h : wpb (M_L_law (gT G)) P k1K (fun _ _ _ _ _ _ => False) bl L' st X k z) : Ws G p l e room_1 s m #[Value.ref b] below meth c 8 (lw_Z below #[Value.ref b] s) pc L' st X k z := by
  obtain ⟨⟨hx, hb, hml, hown⟩, hts, hGk, hlocks, -⟩ := id C
  have hb2 := List.all_eq_true.mp k_L_law (pc, bl) (lk_mem hbl)
  simp only [blkB, Bool.and_eq_true, decide_eq_true_eq] at hb2
  exact wpb_ok C tab_L (T_L_law (gT G)) rfl (v_L_law hl) hP (fun pc ins len L st X k z hd hll hr' => law_ret hG hx hb hr hlocks hd hll hr') (fun pc idx E L st X k z hd hn hst hnb hg => (gd_use hg).2 _ (Nat.le_refl _) |>.elim) (fun pc L E X k z hE => hE.elim) bl hb2.1.1 hb2.1.2 pc hb2.2 L' st X k z h
set_option maxHeartbeats 4000000 in
theorem whole_of (hl : l.stackTraces = false) (C0 : lw_At p s m meth c b L xs) (h : lawStart L xs) : W p l e room_1 s m #[Value.ref b] below meth c s.heap [] 0 0 (lw_Z below #[Value.ref b] s) (entryFrame m ([Value.ref b] : List Value).toArray 8) := by
  obtain ⟨hx, hb, hr, hml, hown, hts, hX, hbl, hlocks, hgv⟩ := id C0
  obtain ⟨D, A, S, hS0, hS4, hGk⟩ := ground hts hX hbl hgv
  have hgw : ∀ w, gw w = true → w.before #[Value.ref b] s = true := fun w h => by
    simp only [gw, Bool.and_eq_true, decide_eq_true_eq] at h
    exact hts w h.1
  have hRn : Rp (D, A, s.heap.size, S, g0L L, g0V xs, s.heap, fun _ => none) (x0X L xs) s.heap := by
    refine ⟨⟨Nat.le_refl _, rfl, rfl, fun q _ => rfl⟩, fun i hi => ?_, fun i hi => ⟨?_, hS4 i hi, fun j _ => rfl⟩, fun i h1 h2 => ?_, fun i s h => (by cases h), fun i ci h => ?_⟩
    · have hi : 4 ≤ i := hi
      show (if i < 4 then _ else _) = _
      rw [if_neg (by omega)]
    · show (if i < 4 then _ else _) = _
      rw [if_pos hi]
    · have h2 : i < 4 := h2
      omega
    · have h : (if i < 4 then (1, g0L L i) else (0, 0)) = (ci + 10, 1) := h
      split at h
      · have := congrArg Prod.fst h; simp at this
      · have := congrArg Prod.fst h; simp at this
  have hC : ∀ tb, Cx (D, A, s.heap.size, S, g0L L, g0V xs, s.heap, tb) (M_L_law tb) RL false p l room_1 s m #[Value.ref b] meth c code 8 := fun tb =>
    ⟨⟨hx, hb, hml, hown⟩, hgw, hGk tb, hlocks, fun _ _ => rfl, ⟨rfl, rfl⟩, rfl, hl, fun h => by cases h⟩
  rw [lg_entry_eq]
  have e0 : ([Value.ref b] : List Value) = ([vR (some 0)] : List AV).map (cv (D, A, s.heap.size, S, g0L L, g0V xs, s.heap, fun _ => none)) := by
    show [Value.ref b] = [Value.ref (S 0)]
    rw [hS0]
  have hLh := lh_entry (D, A, s.heap.size, S, g0L L, g0V xs, s.heap, fun _ => none) [vR (some 0)] (n := 8) (by decide)
  rw [← e0] at hLh
  refine law_Ws (G := (D, A, s.heap.size, S, g0L L, g0V xs, s.heap, fun _ => none)) hl rfl hr (hC _) (P := fun pc L st X k z => pc = 23 ∧ (∀ i s, tb0 i = some s → xS X i = s) ∧ r_L_law tb0 k1K kxF 23 L st X k z) (fun pc L' st X k z hPX => ?_) (pc := 0) (bl := (lk B_L_law 0).getD []) (by rfl) h s.heap [] _ hRn (fun q hq => by cases hq) hLh (Nat.zero_le _) (Nat.zero_le _)
  obtain ⟨rfl, hsh, hr1⟩ := hPX
  intro H locs ls hR hq hL hk hz
  have hR1 : Rp (D, A, s.heap.size, S, g0L L, g0V xs, s.heap, tb0) X H := ⟨hR.1, hR.2.1, hR.2.2.1, hR.2.2.2.1, hsh, hR.2.2.2.2.2⟩
  have hcv : ∀ v, cv (D, A, s.heap.size, S, g0L L, g0V xs, s.heap, fun _ => none) v = cv (D, A, s.heap.size, S, g0L L, g0V xs, s.heap, tb0) v := fun v => by
    rcases v with x | x | x | x
    · rfl
    · rfl
    · rfl
    · cases x <;> rfl
  have hL1 : Lh (D, A, s.heap.size, S, g0L L, g0V xs, s.heap, tb0) ls 8 L' := ⟨hL.1, by rw [← lvl_same hcv]; exact hL.2⟩
  have est : st.map (cv (D, A, s.heap.size, S, g0L L, g0V xs, s.heap, fun _ => none)) = st.map (cv (D, A, s.heap.size, S, g0L L, g0V xs, s.heap, tb0)) := List.map_congr_left fun v _ => hcv v
  rw [est]
  refine hr1 (Ws (D, A, s.heap.size, S, g0L L, g0V xs, s.heap, tb0) p l e room_1 s m #[Value.ref b] below meth c 8 (lw_Z below #[Value.ref b] s)) (fun pc2 L2 st2 X2 k2 z2 ⟨P0, hP0, hw⟩ => ?_) H locs ls hR1 hq hL1 hk hz
  unfold wpm at hw
  split at hw
  · rename_i bl hbl2
    exact law_Ws (G := (D, A, s.heap.size, S, g0L L, g0V xs, s.heap, tb0)) hl rfl hr (hC tb0) hP0 hbl2 hw
  · exact hw.elim
end Walk
