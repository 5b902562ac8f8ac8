/-! methods with a table of handlers -/
def thrNms : List String := ["java/lang/IllegalArgumentException", "java/lang/IllegalStateException", "java/lang/IndexOutOfBoundsException", "java/util/NoSuchElementException"]
abbrev HR : Type := Nat × Nat × Nat × Nat × Nat × Nat × String
def hh1 (r : HR) : Nat × Nat × Nat × Nat := (r.1, r.2.1, r.2.2.1, r.2.2.2.2.2.1)
def killL (L : LT) (i : Nat) : LT := (clr L i).set i none
def hxF (P : PT) (pc : Nat) (L : LT) (E : String) (X : AX) (k z : Nat) : List HR → Prop
  | [] => False
  | (a, b, h, n, i, _, nm) :: t => if a ≤ pc ∧ pc < b then (if E = nm then gd (i < L.length ∧ E ∈ thrNms) (P (h + n) (killL L i) [] X k z) else gd (E ∈ thrNms ∧ nm ∈ thrNms) (hxF P pc L E X k z t)) else hxF P pc L E X k z t
def hrB (own : String) (cc : ByteArray) (r : HR) : Bool := decide (r.2.2.2.2.2.1 ≠ 0) && gw (.classLink own r.2.2.2.2.2.1 r.2.2.2.2.2.2) && ((decide (r.2.2.2.1 = 2) && decide (decode cc r.2.2.1 = .ok (.astore r.2.2.2.2.1, 2))) || (decide (r.2.2.2.1 = 1) && decide (r.2.2.2.2.1 < 4) && decide (decode cc r.2.2.1 = .ok (.astore_n (Fin.ofNat 4 r.2.2.2.2.1), 1))))
theorem Lh.kill {G : GX} {ls : Array Slot} {nL : Nat} {L : LT} {i : Nat} {v : Value} (h0 : L.length = nL) (h : lv_has ls nL ((i, v) :: (lvl G 0 L).filter (fun q => !(q.1 == i) && !(q.1 + 1 == i && q.2.category == 2)))) : Lh G ls nL (killL L i) := by
  refine ⟨by simp [killL, clr_len, h0], h.1, h.2.1, fun q hq => ?_⟩
  obtain ⟨k, w, h1, rfl⟩ := lvl_mem.mp hq
  rw [Nat.zero_add]
  unfold killL at h1
  by_cases hk : i = k
  · subst hk
    rw [List.getElem?_set_self'] at h1
    cases hL : (clr L i)[i]? with
    | none => rw [hL] at h1; simp at h1
    | some w' => rw [hL] at h1; simp at h1
  · rw [List.getElem?_set_ne hk] at h1
    obtain ⟨g1, g2⟩ := clr_get h1
    refine h.2.2 (k, cv G w) (List.mem_cons_of_mem _ (List.mem_filter.mpr ⟨lvl_mem.mpr ⟨k, w, g1, by simp⟩, ?_⟩))
    simp only [Bool.and_eq_true, Bool.not_eq_true', beq_eq_false_iff_ne, ne_eq, Bool.and_eq_false_iff]
    refine ⟨fun z => hk z.symm, ?_⟩
    by_cases hk2 : k + 1 = i
    · exact Or.inr (fun z => g2 ⟨hk2, cv_cat2.mp (by simpa using z)⟩)
    · exact Or.inl hk2
theorem nc_of {E nm : String} (h1 : E ∈ thrNms) (h2 : nm ∈ thrNms) (h : E ≠ nm) : (E, nm) ∈ lw_ncs := by
  simp only [thrNms, List.mem_cons, List.not_mem_nil, or_false] at h1 h2
  rcases h1 with rfl | rfl | rfl | rfl <;> rcases h2 with rfl | rfl | rfl | rfl <;> first | (exact absurd rfl h) | decide
theorem cc_of {E : String} (h1 : E ∈ thrNms) : (E, E) ∈ lw_casts := by
  simp only [thrNms, List.mem_cons, List.not_mem_nil, or_false] at h1
  rcases h1 with rfl | rfl | rfl | rfl <;> decide
section Hx
variable {p : Program} {l : Launch} {e : Env} {R : Room} {s : State} {m : MethodId} {args : Array Value} {below : List Frame} {meth : Method} {c : Code} {Q : State → Prop}
variable {cc : ByteArray} {G : GX} {M : MT} {own : String} {ini : Bool} {nL : Nat} {K : Option AV → AX → Prop} {KX : String → AX → Prop}
set_option maxHeartbeats 4000000 in
theorem hx_ok (C : Cx G M own ini p l R s m args meth c cc nL) {P : PT} (hP : ∀ pc L st X k z, P pc L st X k z → Ws G p l e R s m args below meth c nL Q pc L st X k z) {pc : Nat} {L : LT} {E : String} {X : AX} {k z : Nat} : ∀ (hs : List HR) (pre : List ExceptionTableEntry), c.exceptionTable.toList = pre ++ tableOf (hs.map hh1) → hs.all (hrB own cc) = true →
    (∀ z ∈ pre, covers z pc = false ∨ (z.catchType ≠ 0 ∧ ∃ nm : String, (Cond.classLink own z.catchType nm).before args s = true ∧ va_Nc E nm s)) → hxF P pc L E X k z hs → WsX G p l e R s m args below meth c nL Q pc L E X k z
  | [], _, _, _, _, h => h.elim
  | (a, b, hp, n, i, ct, nm) :: t, pre, ht, hB, hpre, h => by
    obtain ⟨⟨hx, hb, hml, hown⟩, hts, hG, -, -, -⟩ := id C
    simp only [List.all_cons, Bool.and_eq_true] at hB
    obtain ⟨hB1, hB2⟩ := hB
    simp only [hrB, Bool.and_eq_true, Bool.or_eq_true, decide_eq_true_eq] at hB1
    obtain ⟨⟨b1, b2⟩, b3⟩ := hB1
    have hrec := hx_ok C hP (pc := pc) (L := L) (E := E) (X := X) (k := k) (z := z) t (pre ++ [⟨a, b, hp, ct⟩]) (by rw [ht]; simp [tableOf, hh1]) hB2
    unfold hxF at h
    split at h
    · rename_i hcov
      split at h
      · rename_i hE
        subst hE
        obtain ⟨⟨h1, h2⟩, h3⟩ := gd_use h
        intro H locs ls rest q ce hR hq hL hk hz hc hv hcl
        refine vx_catch (name := E) hown pre ⟨a, b, hp, ct⟩ (tableOf (t.map hh1)) (by rw [ht]; simp [tableOf, hh1]) hpre (by simp [covers, hcov.1, hcov.2]) b1 (hts _ b2) (va_Nw.use rfl (hG.2.2.2.2.1 (E, E) (cc_of h2))) hc hv hcl ?_
        obtain ⟨hn, hh⟩ := hL
        rcases b3 with ⟨e1, e2⟩ | ⟨⟨e1, e3⟩, e2⟩
        · have e1 : n = 2 := e1
          subst e1
          exact lv_astore hx hb e2 hh (by omega) rfl fun ls' h' => hP _ _ _ _ _ _ h3 H locs ls' hR hq (Lh.kill hn h') hk hz
        · have e1 : n = 1 := e1
          subst e1
          exact lv_astore_n hx hb e2 (Nat.mod_eq_of_lt e3) hh (by omega) rfl fun ls' h' => hP _ _ _ _ _ _ h3 H locs ls' hR hq (Lh.kill hn h') hk hz
      · rename_i hE
        obtain ⟨⟨h1, h2⟩, h3⟩ := gd_use h
        refine hrec (fun z hz => ?_) h3
        rcases List.mem_append.mp hz with hz | hz
        · exact hpre z hz
        · have e9 : z = ⟨a, b, hp, ct⟩ := by simpa using hz
          subst e9
          exact Or.inr ⟨b1, nm, hts _ b2, hG.2.2.2.2.2.2.2.2.2 (E, nm) (nc_of h1 h2 hE)⟩
    · rename_i hcov
      refine hrec (fun z hz => ?_) h
      rcases List.mem_append.mp hz with hz | hz
      · exact hpre z hz
      · have e9 : z = ⟨a, b, hp, ct⟩ := by simpa using hz
        subst e9
        refine Or.inl ?_
        simp only [covers, Bool.and_eq_false_iff, decide_eq_false_iff_not]
        by_cases h1 : a ≤ pc
        · exact Or.inr fun h2 => hcov ⟨h1, h2⟩
        · exact Or.inl h1
set_option maxHeartbeats 4000000 in
theorem CTW_of {y : MethodName} {maxL : Nat} {ret : Option FieldType} {hs : List HR} (hy : plainName y.cls = true) (hl : l.stackTraces = false) (hown : own = y.cls) {T : List (Nat × IV)} {B : List (Nat × List (Nat × Instr × Nat))} {fr lo : Nat} (hT : mIv M = ivOf T) (hTab : tabB (mF M) (mC M) (mSt M) (mNw M) own = true)
    (hB : B.all (blkB (mF M) (mC M) (mNw M) own false cc) = true) (hH : hs.all (hrB own cc) = true) (hrt : rtB (mRt M) ret = true) (hthr : mNw M = []) (hTb : mTb M = gT G) (hIv : allL (fun q => IvOK G l { frames := fr, cells := mMc M, slots := mMs M, locals := lo } M own false q.1 q.2) T)
    {as : List AV} {X : AX} (hlen : (ini0 as).length ≤ maxL) (h : lfp (wpm M B K (fun P pc L E X k z => hxF P pc L E X k z hs)) 0 (iniL as maxL) [] X 0 0) : CT l G y (.codeWith y cc maxL ret (hs.map hh1)) fr lo (mMc M) (mMs M) as X K KX := by
  refine vx_ofWH (cc := cc) (maxL := maxL) (ret := ret) (hh := hs.map hh1) hy rfl ?_
  intro p e s m args below meth c s₁ Bd hml hv
  have hex := vx_table (x := y) Bd (atoms_spec (ws := Cond.codeWith y cc maxL ret (hs.map hh1) :: goodL) Bd.pre _ List.mem_cons_self)
  obtain ⟨rfl, hG, hR⟩ := hv
  have hts := hts_of (atoms_spec (ws := Cond.codeWith y cc maxL ret (hs.map hh1) :: goodL) Bd.pre)
  have C : Cx G M own false p l { frames := fr, cells := mMc M, slots := mMs M, locals := lo } s m (as.map (cv G)).toArray meth c cc maxL :=
    ⟨⟨Bd.exec, Bd.bytes, hml, by rw [hown]; exact findClass_of_methodNamed Bd.named⟩, hts, hG, Bd.notSynchronized, hR.1.2.2.2, ⟨rfl, rfl⟩, hTb, hl, fun hi => by cases hi⟩
  rw [lg_entry_eq]
  refine h (Ws G p l e { frames := fr, cells := mMc M, slots := mMs M, locals := lo } s m (as.map (cv G)).toArray below meth c maxL (vx_MQ below (QcOf G K) (XcOf G KX) (as.map (cv G)).toArray s (mMc M) (mMs M) (fun q => gB G ≤ q))) (fun pc L st X k z ⟨P0, hP0, hw⟩ => ?_) s.heap [] _ hR (fun q hq => by cases hq) (lh_entry G as hlen) (Nat.zero_le _) (Nat.zero_le _)
  unfold wpm at hw
  split at hw
  · rename_i b hb
    have hb2 := List.all_eq_true.mp hB (pc, b) (lk_mem hb)
    simp only [blkB, Bool.and_eq_true, decide_eq_true_eq] at hb2
    refine wpb_ok C hTab T hT hIv hP0 (fun pc ins len L st X k z hd hll hr => ?_) (fun pc idx E L st X k z hd hn hst hnb hg => ?_) (fun pc L E X k z hE => hx_ok C hP0 hs [] hex hH (fun z hz => by cases hz) hE) b hb2.1.1 hb2.1.2 pc hb2.2 L st X k z hw
    · have hlen1 : len = 1 := by
        unfold retF at hr
        split at hr <;> first | (exact hll.elim id (fun q => by cases q)) | (exact hr.elim)
      exact ret_ok C Bd.returns hrt hd hlen1 hr
    · rw [hthr] at hn; cases hn
  · exact hw.elim
theorem ivSW_ok {y : MethodName} {bytes : ByteArray} {maxL : Nat} {ret : Option FieldType} {hh : List (Nat × Nat × Nat × Nat)} {fr lo mc ms na idx rk : Nat} {w : WP} (hw : ∀ as X K KX, w as X K KX → CT l G y (.codeWith y bytes maxL ret hh) fr lo mc ms as X K KX)
    (h1 : gw (.codeWith y bytes maxL ret hh) = true) (h2 : gw (.initialized y.cls) = true) (h3 : gw (.methodLink own idx y) = true) (h4 : gw (.static y) = true) (h5 : plainY y na = true) (h6 : roomB R maxL fr lo = true) :
    IvOK G l R M own ini (4 * idx + 2) (ivS (mMc M) (mMs M) na mc ms rk w) := by
  intro p e s m args below meth c cc nL Q C pc hd L st X k z N HX h hN hX H locs ls hR hq hL hk hz
  obtain ⟨⟨g1, g2, g3, g4⟩, h⟩ := gd_use h
  obtain ⟨⟨hx, hb, hml, hown⟩, hts, hG, -, -, ⟨hRc, hRs⟩, -⟩ := id C
  rw [ivIns_t] at hd
  have hp := h5
  have hr6 := h6
  simp only [plainY, Bool.and_eq_true, decide_eq_true_eq] at hp
  simp only [roomB, Bool.and_eq_true, decide_eq_true_eq] at hr6
  refine run_ok (C := C) (rest := st.drop na) (L := L) (vx_runSX (hh := hh) (bytes := bytes) (maxL := maxL) (ret := ret) (index := idx) (n := na) (As := (st.take na).reverse.map (cv G)) (Ts := []) (own := own) (cc := cc) (nL := nL) ⟨hx, hb, hml, hown, fun _ h => by cases h⟩ (hw _ _ _ _ h)
    ⟨⟨rfl, rfl, hr6.1, hr6.2, goodL_ok hts h1, List.mem_cons_self⟩, hts _ h1, hts _ h2, ⟨hp.1.1, hp.1.2⟩, fun sig h => by have h2 := hp.2; rw [h] at h2; exact (Option.some.inj h2).symm, hts _ h3, hts _ h4⟩ (preS_ok hG hR _) rfl ?_ hL.2.1 ?_ ?_ hd ⟨by omega, by omega⟩) hq hL (by omega) (by omega) (fun v X' hv => hN _ _ _ _ (resK_use hv)) (fun E X' hE => hX _ _ _ _ hE)
  · simp only [List.length_map, List.length_reverse, List.length_take]; omega
  · show st.map (cv G) = _
    rw [map_rev, List.reverse_reverse, ← List.map_append, List.take_append_drop]
  · show 2 * 0 + _ ≤ 8
    rw [avc_cat]; omega
end Hx
