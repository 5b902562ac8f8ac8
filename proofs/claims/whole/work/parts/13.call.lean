/-! a method out of its blocks; calls -/
section Ct
variable {p : Program} {l : Launch} {e : Env} {R : Room} {s : State} {m : MethodId} {args : Array Value} {below : List Frame} {meth : Method} {c : Code}
variable {cc : ByteArray} {G : GX} {M : MT} {own : String} {ini : Bool} {nL : Nat} {K : Option AV → AX → Prop} {KX : String → AX → Prop}
set_option maxHeartbeats 4000000 in
theorem thr_ok (C : Cx G M own ini p l R s m args meth c cc nL) (hex : ∀ x ∈ c.exceptionTable.toList, False) (hRf : 6 ≤ R.frames) (hRl : 81 ≤ R.locals) {pc idx : Nat} {E : String} (hd : decode cc pc = .ok (.new idx, 3)) (hn : lk (mNw M) idx = some (.inr E)) (hB : newB (mNw M) own cc pc (.new idx) = true) {L : LT} {X : AX} {k z : Nat}
    (h : gd (k + 1 ≤ mMc M ∧ z + 6 ≤ mMs M) (∀ n', xN X ≤ n' → KX E (xS X, xI X, xJ X, xR X, n'))) : Ws G p l e R s m args below meth c nL (vx_MQ below (QcOf G K) (XcOf G KX) args s (mMc M) (mMs M) (fun q => gB G ≤ q)) pc L [] X k z := by
  intro H locs ls hR hq hL hk hz T hT XX
  have hS := C.grown hR hq hT XX
  obtain ⟨⟨h1, h2⟩, h3⟩ := gd_use h
  obtain ⟨⟨hx, hb, hml, hown⟩, hts, hG, hlocks, h0, ⟨hRc, hRs⟩, hTb, hl, -⟩ := C
  simp only [newB, hn, thrB, Bool.and_eq_true, decide_eq_true_eq] at hB
  obtain ⟨⟨⟨d3, d4⟩, d7⟩, ⟨⟨⟨⟨w1, w2⟩, w3⟩, w4⟩, w5⟩, w6⟩ := hB
  have hkeep : ∀ a : Nat, a < (gH G).size → ¬ gB G ≤ a → s.heap[a]? = (gH G)[a]? := fun a _ h2 => h0 a (Nat.not_le.mp h2)
  have hcast : (Cond.castable E E).before args s = true := va_Nw.use rfl (hG.2.2.2.2.1 (E, E) w2)
  have hsplit : ∀ w ∈ vx_at0 own (idx + 2) E thrNames, (gw w = true ∨ w = .castable E E) ∨ ∃ y, y ∈ lw_decls ∧ Cond.declares (Bundle.init0 y) = w := fun w hw => by
    have := List.all_eq_true.mp w1 w hw
    simpa only [Bool.or_eq_true, decide_eq_true_eq, List.mem_map] using this
  refine vx_throw0 (A := fun q => gB G ≤ q) (names := thrNames) hx hb hl hown w3 (fun n hn => List.all_eq_true.mp w4 n hn) (hts _ w5) (hts _ w6) (fun w hw => ?_) (fun w hw => ?_) (hG.2.2.2.1.1.kept hkeep) (hG.2.2.2.1.2.kept hkeep) hS (by rw [hL.2.1, hml])
    hd d3 d4 d7 (fun x hx => (hex x hx).elim) (by show 2 + 3 < _; omega) (by show 0 + (13 * (2 + 1) + 42) ≤ _; omega) (by omega) (by omega) hlocks (fun t hal hz1 hk1 => ?_) hq h1 h2 T hT XX
  · rcases hsplit w hw with (h | rfl) | ⟨y, hy, rfl⟩
    · exact hts _ h
    · exact hcast
    · exact va_Nw.use rfl (hG.2.2.2.2.2.2.2.2.1 y hy)
  · have hgood : ∀ w, gw w = true → vx_ot w = true := fun w h => by
      simp only [gw, Bool.and_eq_true] at h
      simp [vx_ot, h.2]
    rcases List.mem_cons.mp hw with rfl | hw
    · exact hgood _ w5
    · rcases List.mem_cons.mp hw with rfl | hw
      · exact hgood _ w6
      · rcases hsplit w hw with (h | rfl) | ⟨y, hy, rfl⟩
        · exact hgood _ h
        · rfl
        · rfl
  · exact ⟨_, h3 _ (by have := hR.1.2.1; have := hR.1.1; omega), hR.grow hz1 hk1⟩
theorem out_ok (hlocks : meth.locks = false) (hRc : R.cells = mMc M) (hRs : R.slots = mMs M) (hex : ∀ x ∈ c.exceptionTable.toList, False) {pc : Nat} {L : LT} {E : String} {X : AX} {k z : Nat} (h : KX E X) : WsX G p l e R s m args below meth c nL (vx_MQ below (QcOf G K) (XcOf G KX) args s (mMc M) (mMs M) (fun q => gB G ≤ q)) pc L E X k z := by
  intro H locs ls rest q ce hR hq hL hk hz hc hv hE
  exact vx_out (fun x hx => (hex x hx).elim) hlocks hc hv hE (fun t ht _ => ⟨X, h, by rw [ht]; exact hR⟩) hq (by omega) (by omega)
def blkB (F : List (Nat × Nat × Nat × Nat)) (Cs : List (Nat × AV)) (Nw : List (Nat × (Nat ⊕ String))) (own : String) (ini : Bool) (cc : ByteArray) (b : Nat × List (Nat × Instr × Nat)) : Bool := b.2.all (codB F Cs Nw own ini cc) && seqB b.2 && decide (b.2.head?.map (·.1) = some b.1)
theorem hts_of {hd : Cond} (h : ∀ w ∈ hd :: goodL, w.before args s = true) : ∀ w, gw w = true → w.before args s = true := fun w hw => by
  simp only [gw, Bool.and_eq_true, decide_eq_true_eq] at hw
  exact h w (List.mem_cons_of_mem _ (List.mem_filter.mpr ⟨hw.1, hw.2⟩))
set_option maxHeartbeats 4000000 in
theorem CT_of {y : MethodName} {maxL : Nat} {ret : Option FieldType} (hy : plainName y.cls = true) (hl : l.stackTraces = false) (hown : own = y.cls) (hini : ini = true → y.name = "<init>") {T : List (Nat × IV)} {B : List (Nat × List (Nat × Instr × Nat))} {fr lo : Nat} (hT : mIv M = ivOf T) (hTab : tabB (mF M) (mC M) (mSt M) (mNw M) own = true)
    (hB : B.all (blkB (mF M) (mC M) (mNw M) own ini cc) = true) (hrt : rtB (mRt M) ret = true) (hthr : mNw M = [] ∨ (∀ q ∈ mNw M, ∃ ci, q.2 = .inl ci) ∨ (6 ≤ fr ∧ 81 ≤ lo)) (hTb : mTb M = gT G) (hIv : allL (fun q => IvOK G l { frames := fr, cells := mMc M, slots := mMs M, locals := lo } M own ini q.1 q.2) T)
    {as : List AV} {X : AX} (hlen : (ini0 as).length ≤ maxL) (h : lfp (wpm M B K (fun _ _ _ E X _ _ => KX E X)) 0 (iniL as maxL) [] X 0 0) : CT l G y (.code y cc maxL ret) fr lo (mMc M) (mMs M) as X K KX := by
  refine vx_ofW (cc := cc) (maxL := maxL) (ret := ret) hy rfl ?_
  intro p e s m args below meth c s₁ Bd hml hex hv
  obtain ⟨rfl, hG, hR⟩ := hv
  have hts := hts_of (atoms_spec (ws := Cond.code y cc maxL ret :: goodL) Bd.pre)
  have C : Cx G M own ini p l { frames := fr, cells := mMc M, slots := mMs M, locals := lo } s m (as.map (cv G)).toArray meth c cc maxL :=
    ⟨⟨Bd.exec, Bd.bytes, hml, by rw [hown]; exact findClass_of_methodNamed Bd.named⟩, hts, hG, Bd.notSynchronized, hR.1.2.2.2, ⟨rfl, rfl⟩, hTb, hl, fun hi => by rw [(name_of_methodNamed Bd.named Bd.method).1]; exact hini hi⟩
  rw [lg_entry_eq]
  refine h (Ws G p l e { frames := fr, cells := mMc M, slots := mMs M, locals := lo } s m (as.map (cv G)).toArray below meth c maxL (vx_MQ below (QcOf G K) (XcOf G KX) (as.map (cv G)).toArray s (mMc M) (mMs M) (fun q => gB G ≤ q))) (fun pc L st X k z ⟨P0, hP0, hw⟩ => ?_) s.heap [] _ hR (fun q hq => by cases hq) (lh_entry G as hlen) (Nat.zero_le _) (Nat.zero_le _)
  unfold wpm at hw
  split at hw
  · rename_i b hb
    have hb2 := List.all_eq_true.mp hB (pc, b) (lk_mem hb)
    simp only [blkB, Bool.and_eq_true, decide_eq_true_eq] at hb2
    refine wpb_ok C hTab T hT hIv hP0 (fun pc ins len L st X k z hd hll hr => ?_) (fun pc idx E L st X k z hd hn hst hnb hg => ?_) (fun pc L E X k z hE => out_ok Bd.notSynchronized rfl rfl hex hE) b hb2.1.1 hb2.1.2 pc hb2.2 L st X k z hw
    · have hlen1 : len = 1 := by
        unfold retF at hr
        split at hr <;> first | (exact hll.elim id (fun q => by cases q)) | (exact hr.elim)
      exact ret_ok C Bd.returns hrt hd hlen1 hr
    · subst hst
      have hfl : 6 ≤ fr ∧ 81 ≤ lo := by
        rcases hthr with h0 | h0 | h0
        · rw [h0] at hn; cases hn
        · obtain ⟨ci, hci⟩ := h0 _ (lk_mem hn); cases hci
        · exact h0
      exact thr_ok C hex hfl.1 hfl.2 hd hn hnb hg
  · exact hw.elim
end Ct
