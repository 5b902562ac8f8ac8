/-! what 'stp' asks is enough: a row an instruction -/
def lvl (G : GX) : Nat → LT → List (Nat × Value)
  | _, [] => []
  | i, none :: t => lvl G (i + 1) t
  | i, some v :: t => (i, cv G v) :: lvl G (i + 1) t
theorem lvl_mem {G : GX} : ∀ {L : LT} {i : Nat} {q : Nat × Value}, q ∈ lvl G i L ↔ ∃ (j : Nat) (v : AV), L[j]? = some (some v) ∧ q = (i + j, cv G v)
  | [], i, q => by simp [lvl]
  | none :: t, i, q => by
    rw [lvl, lvl_mem (L := t)]
    constructor
    · rintro ⟨j, v, h1, h2⟩
      exact ⟨j + 1, v, by simpa using h1, by rw [h2]; congr 1; omega⟩
    · rintro ⟨j, v, h1, h2⟩
      cases j with
      | zero => simp at h1
      | succ j => exact ⟨j, v, by simpa using h1, by rw [h2]; congr 1; omega⟩
  | some w :: t, i, q => by
    rw [lvl, List.mem_cons, lvl_mem (L := t)]
    constructor
    · rintro (h | ⟨j, v, h1, h2⟩)
      · exact ⟨0, w, by simp, by simpa using h⟩
      · exact ⟨j + 1, v, by simpa using h1, by rw [h2]; congr 1; omega⟩
    · rintro ⟨j, v, h1, h2⟩
      cases j with
      | zero =>
        have e : w = v := by simpa using h1
        subst e
        exact Or.inl (by simpa using h2)
      | succ j => exact Or.inr ⟨j, v, by simpa using h1, by rw [h2]; congr 1; omega⟩
def Lh (G : GX) (ls : Array Slot) (nL : Nat) (L : LT) : Prop := L.length = nL ∧ lv_has ls nL (lvl G 0 L)
theorem Lh.at {G : GX} {ls : Array Slot} {nL : Nat} {L : LT} (h : Lh G ls nL L) {i : Nat} {v : AV} (hv : L.getD i none = some v) : ls[i]? = some (.val (cv G v)) := by
  have h1 : L[i]? = some (some v) := by
    rw [List.getD_eq_getElem?_getD] at hv
    cases hi : L[i]? with
    | none => rw [hi] at hv; cases hv
    | some w => rw [hi] at hv; simpa using hv
  exact h.2.2.2 (i, cv G v) (lvl_mem.mpr ⟨i, v, h1, by simp⟩)
theorem cv_cat2 {G : GX} {v : AV} : (cv G v).category = 2 ↔ is2 (some v) = true := by
  rcases v with x | x | x | r
  · simp [cv, is2, Value.category]
  · simp [cv, is2, Value.category]
  · simp [cv, is2, Value.category]
  · cases r <;> simp [cv, rv, va_rf, is2, Value.category]
theorem c1_cat {G : GX} {v : AV} (h : c1 v = true) : (cv G v).category = 1 := by
  rcases v with x | x | x | r
  · rfl
  · simp [c1] at h
  · rfl
  · cases r <;> rfl
theorem c1_cat2 {G : GX} {v : AV} (h : ¬ c1 v = true) : (cv G v).category = 2 := by
  rcases v with x | x | x | r
  · simp [c1] at h
  · rfl
  · simp [c1] at h
  · simp [c1] at h
theorem clr_len (L : LT) (i : Nat) : (clr L i).length = L.length := by
  cases i with
  | zero => rfl
  | succ j => simp only [clr]; split <;> simp
/-- what is left of the listed locals when the place before the written one held a long -/
theorem clr_get {L : LT} {i k : Nat} {v : AV} (h : (clr L i)[k]? = some (some v)) : L[k]? = some (some v) ∧ ¬ (k + 1 = i ∧ is2 (some v) = true) := by
  cases i with
  | zero => exact ⟨h, by omega⟩
  | succ j =>
    simp only [clr] at h
    split at h
    · rename_i h2
      by_cases hk : j = k
      · subst hk
        rw [List.getElem?_set_self'] at h
        cases hL : L[j]? with
        | none => rw [hL] at h; simp at h
        | some w => rw [hL] at h; simp at h
      · rw [List.getElem?_set_ne hk] at h
        exact ⟨h, by omega⟩
    · rename_i h2
      refine ⟨h, fun ⟨h3, h4⟩ => h2 ?_⟩
      have e : j = k := by omega
      subst e
      rw [List.getD_eq_getElem?_getD, h]
      exact h4
theorem Lh.st1 {G : GX} {ls : Array Slot} {nL : Nat} {L : LT} {i : Nat} {v : AV} (h0 : L.length = nL) (h : lv_has ls nL ((i, cv G v) :: (lvl G 0 L).filter (fun q => !(q.1 == i) && !(q.1 + 1 == i && q.2.category == 2)))) : Lh G ls nL (stL1 L i v) := by
  refine ⟨by simp [stL1, clr_len, h0], h.1, h.2.1, fun q hq => ?_⟩
  obtain ⟨k, w, h1, rfl⟩ := lvl_mem.mp hq
  rw [Nat.zero_add]
  unfold stL1 at h1
  by_cases hk : i = k
  · subst hk
    rw [List.getElem?_set_self'] at h1
    cases hL : (clr L i)[i]? with
    | none => rw [hL] at h1; simp at h1
    | some w' =>
      rw [hL] at h1
      have e : v = w := by simpa using h1
      subst e
      exact h.2.2 _ List.mem_cons_self
  · rw [List.getElem?_set_ne hk] at h1
    obtain ⟨g1, g2⟩ := clr_get h1
    refine h.2.2 (k, cv G w) (List.mem_cons_of_mem _ (List.mem_filter.mpr ⟨lvl_mem.mpr ⟨k, w, g1, by simp⟩, ?_⟩))
    simp only [Bool.and_eq_true, Bool.not_eq_true', beq_eq_false_iff_ne, ne_eq, Bool.and_eq_false_iff]
    refine ⟨fun z => hk z.symm, ?_⟩
    by_cases hk2 : k + 1 = i
    · exact Or.inr (fun z => g2 ⟨hk2, cv_cat2.mp (by simpa using z)⟩)
    · exact Or.inl hk2
theorem Lh.st2 {G : GX} {ls : Array Slot} {nL : Nat} {L : LT} {i : Nat} {v : AV} (h0 : L.length = nL) (h : lv_has ls nL ((i, cv G v) :: (lvl G 0 L).filter (fun q => !(q.1 == i) && (!(q.1 == i + 1) && !(q.1 + 1 == i && q.2.category == 2))))) : Lh G ls nL (stL2 L i v) := by
  refine ⟨by simp [stL2, clr_len, h0], h.1, h.2.1, fun q hq => ?_⟩
  obtain ⟨k, w, h1, rfl⟩ := lvl_mem.mp hq
  rw [Nat.zero_add]
  unfold stL2 at h1
  by_cases hk1 : i + 1 = k
  · subst hk1
    rw [List.getElem?_set_self'] at h1
    cases hL : ((clr L i).set i (some v))[i + 1]? with
    | none => rw [hL] at h1; simp at h1
    | some w' => rw [hL] at h1; simp at h1
  · rw [List.getElem?_set_ne hk1] at h1
    by_cases hk : i = k
    · subst hk
      rw [List.getElem?_set_self'] at h1
      cases hL : (clr L i)[i]? with
      | none => rw [hL] at h1; simp at h1
      | some w' =>
        rw [hL] at h1
        have e : v = w := by simpa using h1
        subst e
        exact h.2.2 _ List.mem_cons_self
    · rw [List.getElem?_set_ne hk] at h1
      obtain ⟨g1, g2⟩ := clr_get h1
      refine h.2.2 (k, cv G w) (List.mem_cons_of_mem _ (List.mem_filter.mpr ⟨lvl_mem.mpr ⟨k, w, g1, by simp⟩, ?_⟩))
      simp only [Bool.and_eq_true, Bool.not_eq_true', beq_eq_false_iff_ne, ne_eq, Bool.and_eq_false_iff]
      refine ⟨fun z => hk z.symm, fun z => hk1 z.symm, ?_⟩
      by_cases hk2 : k + 1 = i
      · exact Or.inr (fun z => g2 ⟨hk2, cv_cat2.mp (by simpa using z)⟩)
      · exact Or.inl hk2
theorem b2I_some {f : Int32 → Int32 → Int32} {st st' : List AV} (h : b2I f st = some st') : ∃ x y r, st = vI y :: vI x :: r ∧ st' = vI (f x y) :: r := by
  unfold b2I at h
  split at h
  · exact ⟨_, _, _, rfl, (Option.some.inj h).symm⟩
  · cases h
theorem b2L_some {f : Int64 → Int64 → Int64} {st st' : List AV} (h : b2L f st = some st') : ∃ x y r, st = vL y :: vL x :: r ∧ st' = vL (f x y) :: r := by
  unfold b2L at h
  split at h
  · exact ⟨_, _, _, rfl, (Option.some.inj h).symm⟩
  · cases h
theorem sLI_some {f : Int64 → Int32 → Int64} {st st' : List AV} (h : sLI f st = some st') : ∃ x y r, st = vI y :: vL x :: r ∧ st' = vL (f x y) :: r := by
  unfold sLI at h
  split at h
  · exact ⟨_, _, _, rfl, (Option.some.inj h).symm⟩
  · cases h
theorem o1I_some {f : Int32 → AV} {st st' : List AV} (h : o1I f st = some st') : ∃ x r, st = vI x :: r ∧ st' = f x :: r := by
  unfold o1I at h
  split at h
  · exact ⟨_, _, rfl, (Option.some.inj h).symm⟩
  · cases h
theorem o1L_some {f : Int64 → AV} {st st' : List AV} (h : o1L f st = some st') : ∃ x r, st = vL x :: r ∧ st' = f x :: r := by
  unfold o1L at h
  split at h
  · exact ⟨_, _, rfl, (Option.some.inj h).symm⟩
  · cases h
section Rows
variable {p : Program} {l : Launch} {e : Env} {R : Room} {s : State} {m : MethodId} {args : Array Value} {below : List Frame} {meth : Method} {c : Code} {H : Heap} {locs : List Loc} {cells slots : Nat} {Q : State → Prop}
variable {cc : ByteArray} {pc : Nat} {ls : Array Slot} {G : GX}
set_option maxHeartbeats 4000000 in
theorem alu_ok (hx : p.tables.exec = Jvm.exec) (hb : c.code = cc) {ins : Instr} {len : Nat} {st st' : List AV} (hd : decode cc pc = .ok (ins, len)) (hl : len = ilen ins) (h : aluF ins st = some st')
    (kk : W p l e R s m args below meth c H locs cells slots Q (F0 m (pc + len) ls (st'.map (cv G)))) : W p l e R s m args below meth c H locs cells slots Q (F0 m pc ls (st.map (cv G))) := by
  subst hl
  unfold aluF at h
  split at h
  · cases h; exact lv_iconst hx hb hd rfl kk
  · cases h; exact lv_bipush hx hb hd rfl kk
  · cases h; exact lv_sipush hx hb hd rfl kk
  · cases h; exact lv_lconst hx hb hd rfl kk
  · obtain ⟨x, y, r, rfl, rfl⟩ := b2I_some h; exact lv_iadd hx hb hd kk
  · obtain ⟨x, y, r, rfl, rfl⟩ := b2I_some h; exact lv_isub hx hb hd kk
  · obtain ⟨x, y, r, rfl, rfl⟩ := b2I_some h; exact lv_imul hx hb hd kk
  · obtain ⟨x, y, r, rfl, rfl⟩ := b2I_some h; exact lv_iand hx hb hd kk
  · obtain ⟨x, y, r, rfl, rfl⟩ := b2I_some h; exact lv_ior hx hb hd kk
  · obtain ⟨x, y, r, rfl, rfl⟩ := b2I_some h; exact lv_ishl hx hb hd kk
  · obtain ⟨x, y, r, rfl, rfl⟩ := b2I_some h; exact lv_ishr hx hb hd kk
  · obtain ⟨x, y, r, rfl, rfl⟩ := b2L_some h; exact lv_ladd hx hb hd kk
  · obtain ⟨x, y, r, rfl, rfl⟩ := b2L_some h; exact lv_lsub hx hb hd kk
  · obtain ⟨x, y, r, rfl, rfl⟩ := b2L_some h; exact lv_lmul hx hb hd kk
  · obtain ⟨x, y, r, rfl, rfl⟩ := b2L_some h; exact lv_land hx hb hd kk
  · obtain ⟨x, y, r, rfl, rfl⟩ := b2L_some h; exact lv_lor hx hb hd kk
  · obtain ⟨x, y, r, rfl, rfl⟩ := sLI_some h; exact lv_lshl hx hb hd rfl kk
  · obtain ⟨x, y, r, rfl, rfl⟩ := sLI_some h; exact lv_lshr hx hb hd rfl kk
  · obtain ⟨x, r, rfl, rfl⟩ := o1L_some h; exact lv_lneg hx hb hd kk
  · obtain ⟨x, r, rfl, rfl⟩ := o1I_some h; exact lv_i2l hx hb hd rfl kk
  · obtain ⟨x, r, rfl, rfl⟩ := o1I_some h; exact lv_i2f hx hb hd kk
  · obtain ⟨x, r, rfl, rfl⟩ := o1I_some h; exact lv_i2s hx hb hd rfl kk
  · obtain ⟨x, r, rfl, rfl⟩ := o1L_some h; exact lv_l2i hx hb hd rfl kk
  · split at h
    · cases h; exact W.lcmp hx hb hd kk
    · cases h
  · split at h
    · cases h; exact lv_f2i hx hb hd kk
    · cases h
  · split at h
    · split at h
      · rename_i h1
        cases h; exact lv_dup hx hb hd (c1_cat h1) kk
      · cases h
    · cases h
  · split at h
    · split at h
      · rename_i h1
        cases h; exact lv_pop hx hb hd (c1_cat h1) kk
      · cases h
    · cases h
  · split at h
    · split at h
      · rename_i h1
        split at h
        · rename_i h2
          cases h; exact lv_dup2_11 hx hb hd (c1_cat h1) (c1_cat h2) kk
        · cases h
      · rename_i h1
        cases h; exact lv_dup2_2 hx hb hd (c1_cat2 h1) kk
    · split at h
      · cases h
      · rename_i h1
        cases h; exact lv_dup2_2 hx hb hd (c1_cat2 h1) kk
    · cases h
  · cases h
theorem ldI_some {L : LT} {i : Nat} {st st' : List AV} (h : ldI L i st = some st') : ∃ x, L.getD i none = some (vI x) ∧ st' = vI x :: st := by
  unfold ldI at h
  split at h
  · rename_i x hx; exact ⟨x, hx, (Option.some.inj h).symm⟩
  · cases h
theorem ldL_some {L : LT} {i : Nat} {st st' : List AV} (h : ldL L i st = some st') : ∃ x, L.getD i none = some (vL x) ∧ st' = vL x :: st := by
  unfold ldL at h
  split at h
  · rename_i x hx; exact ⟨x, hx, (Option.some.inj h).symm⟩
  · cases h
theorem ldF_some {L : LT} {i : Nat} {st st' : List AV} (h : ldF L i st = some st') : ∃ x, L.getD i none = some (vF x) ∧ st' = vF x :: st := by
  unfold ldF at h
  split at h
  · rename_i x hx; exact ⟨x, hx, (Option.some.inj h).symm⟩
  · cases h
theorem ldR_some {L : LT} {i : Nat} {st st' : List AV} (h : ldR L i st = some st') : ∃ x, L.getD i none = some (vR x) ∧ st' = vR x :: st := by
  unfold ldR at h
  split at h
  · rename_i x hx; exact ⟨x, hx, (Option.some.inj h).symm⟩
  · cases h
theorem loc_ok (hx : p.tables.exec = Jvm.exec) (hb : c.code = cc) {nL : Nat} {L : LT} (hL : Lh G ls nL L) {ins : Instr} {len : Nat} {st st' : List AV} (hd : decode cc pc = .ok (ins, len)) (hl : len = ilen ins) (h : locF ins L st = some st')
    (kk : W p l e R s m args below meth c H locs cells slots Q (F0 m (pc + len) ls (st'.map (cv G)))) : W p l e R s m args below meth c H locs cells slots Q (F0 m pc ls (st.map (cv G))) := by
  subst hl
  unfold locF at h
  split at h
  · obtain ⟨x, h1, rfl⟩ := ldI_some h; exact lv_iload_n hx hb hd rfl (hL.at h1) kk
  · obtain ⟨x, h1, rfl⟩ := ldI_some h; exact lv_iload hx hb hd (hL.at h1) kk
  · obtain ⟨x, h1, rfl⟩ := ldL_some h; exact lv_lload_n hx hb hd rfl (hL.at h1) kk
  · obtain ⟨x, h1, rfl⟩ := ldL_some h; exact lv_lload hx hb hd (hL.at h1) kk
  · obtain ⟨x, h1, rfl⟩ := ldF_some h; exact lv_fload hx hb hd (hL.at h1) kk
  · obtain ⟨x, h1, rfl⟩ := ldR_some h
    cases x with
    | none => exact lv_aload_nN hx hb hd rfl (hL.at h1) kk
    | some x => exact lv_aload_n hx hb hd rfl (hL.at h1) kk
  · obtain ⟨x, h1, rfl⟩ := ldR_some h
    cases x with
    | none => exact lv_aloadN hx hb hd (hL.at h1) kk
    | some x => exact lv_aload hx hb hd (hL.at h1) kk
  · cases h
theorem s1I_some {L : LT} {i : Nat} {st : List AV} {q : LT × List AV} (h : s1I L i st = some q) : ∃ x r, st = vI x :: r ∧ i < L.length ∧ q = (stL1 L i (vI x), r) := by
  unfold s1I at h
  split at h
  · split at h
    · rename_i h1; exact ⟨_, _, rfl, h1, (Option.some.inj h).symm⟩
    · cases h
  · cases h
theorem s1F_some {L : LT} {i : Nat} {st : List AV} {q : LT × List AV} (h : s1F L i st = some q) : ∃ x r, st = vF x :: r ∧ i < L.length ∧ q = (stL1 L i (vF x), r) := by
  unfold s1F at h
  split at h
  · split at h
    · rename_i h1; exact ⟨_, _, rfl, h1, (Option.some.inj h).symm⟩
    · cases h
  · cases h
theorem s1R_some {L : LT} {i : Nat} {st : List AV} {q : LT × List AV} (h : s1R L i st = some q) : ∃ x r, st = vR x :: r ∧ i < L.length ∧ q = (stL1 L i (vR x), r) := by
  unfold s1R at h
  split at h
  · split at h
    · rename_i h1; exact ⟨_, _, rfl, h1, (Option.some.inj h).symm⟩
    · cases h
  · cases h
theorem s2L_some {L : LT} {i : Nat} {st : List AV} {q : LT × List AV} (h : s2L L i st = some q) : ∃ x r, st = vL x :: r ∧ i + 1 < L.length ∧ q = (stL2 L i (vL x), r) := by
  unfold s2L at h
  split at h
  · split at h
    · rename_i h1; exact ⟨_, _, rfl, h1, (Option.some.inj h).symm⟩
    · cases h
  · cases h
theorem sto_ok (hx : p.tables.exec = Jvm.exec) (hb : c.code = cc) {nL : Nat} {L : LT} (hL : Lh G ls nL L) {ins : Instr} {len : Nat} {st : List AV} {q : LT × List AV} (hd : decode cc pc = .ok (ins, len)) (hl : len = ilen ins) (h : stoF ins L st = some q)
    (kk : ∀ ls', Lh G ls' nL q.1 → W p l e R s m args below meth c H locs cells slots Q (F0 m (pc + len) ls' (q.2.map (cv G)))) : W p l e R s m args below meth c H locs cells slots Q (F0 m pc ls (st.map (cv G))) := by
  subst hl
  obtain ⟨hn, hh⟩ := hL
  unfold stoF at h
  split at h
  · obtain ⟨x, r, rfl, h1, rfl⟩ := s1I_some h; exact lv_istore_n hx hb hd rfl hh (by omega) rfl fun ls' h' => kk ls' (Lh.st1 hn h')
  · obtain ⟨x, r, rfl, h1, rfl⟩ := s1I_some h; exact lv_istore hx hb hd hh (by omega) rfl fun ls' h' => kk ls' (Lh.st1 hn h')
  · obtain ⟨x, r, rfl, h1, rfl⟩ := s2L_some h; exact lv_lstore_n hx hb hd rfl hh (by omega) rfl fun ls' h' => kk ls' (Lh.st2 hn h')
  · obtain ⟨x, r, rfl, h1, rfl⟩ := s2L_some h; exact lv_lstore hx hb hd hh (by omega) rfl fun ls' h' => kk ls' (Lh.st2 hn h')
  · obtain ⟨x, r, rfl, h1, rfl⟩ := s1F_some h; exact lv_fstore hx hb hd hh (by omega) rfl fun ls' h' => kk ls' (Lh.st1 hn h')
  · obtain ⟨x, r, rfl, h1, rfl⟩ := s1R_some h
    cases x with
    | none => exact lv_astore_nN hx hb hd rfl hh (by omega) rfl fun ls' h' => kk ls' (Lh.st1 hn h')
    | some x => exact lv_astore_n hx hb hd rfl hh (by omega) rfl fun ls' h' => kk ls' (Lh.st1 hn h')
  · obtain ⟨x, r, rfl, h1, rfl⟩ := s1R_some h
    cases x with
    | none => exact lv_astoreN hx hb hd hh (by omega) rfl fun ls' h' => kk ls' (Lh.st1 hn h')
    | some x => exact lv_astore hx hb hd hh (by omega) rfl fun ls' h' => kk ls' (Lh.st1 hn h')
  · rename_i i n
    split at h
    · rename_i x h0
      split at h
      · rename_i h1
        cases h
        have h2 : L[i]? = some (some (vI x)) := by
          rw [List.getD_eq_getElem?_getD] at h0
          cases hi : L[i]? with
          | none => rw [hi] at h0; cases h0
          | some w => rw [hi] at h0; simpa using h0
        obtain ⟨k, hk⟩ := List.getElem?_of_mem (lvl_mem (G := G) (i := 0).mpr ⟨i, vI x, h2, rfl⟩)
        rw [Nat.zero_add] at hk
        exact lv_iinc hx hb hd hh hk rfl (by omega) rfl fun ls' h' => kk ls' (Lh.st1 hn h')
      · cases h
    · cases h
  · cases h
theorem div_ok (hx : p.tables.exec = Jvm.exec) (hb : c.code = cc) {ins : Instr} {len : Nat} {st : List AV} {f : List AV → Prop} (hd : decode cc pc = .ok (ins, len)) (hl : len = ilen ins) (h : divF ins st f)
    (kk : ∀ st', f st' → W p l e R s m args below meth c H locs cells slots Q (F0 m (pc + len) ls (st'.map (cv G)))) : W p l e R s m args below meth c H locs cells slots Q (F0 m pc ls (st.map (cv G))) := by
  subst hl
  unfold divF at h
  split at h
  · split at h
    · exact lv_idiv hx hb hd h.1 (kk _ h.2)
    · exact h.elim
  · split at h
    · exact lv_irem hx hb hd h.1 (kk _ h.2)
    · exact h.elim
  · split at h
    · exact lv_ldiv hx hb hd h.1 (kk _ h.2)
    · exact h.elim
  · split at h
    · exact lv_lrem hx hb hd h.1 (kk _ h.2)
    · exact h.elim
  · split at h
    · exact lv_fdiv hx hb hd h.1 (kk _ h.2)
    · exact h.elim
  · split at h
    · exact lv_fmul hx hb hd h.1 (kk _ h.2)
    · exact h.elim
  · exact h.elim
end Rows
