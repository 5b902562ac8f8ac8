/-! a stretch; a method's contract -/
def WsX (G : GX) (p : Program) (l : Launch) (e : Env) (R : Room) (s : State) (m : MethodId) (args : Array Value) (below : List Frame) (meth : Method) (c : Code) (nL : Nat) (Q : State → Prop) (pc : Nat) (L : LT) (E : String) (X : AX) (k z : Nat) : Prop :=
  ∀ (H : Heap) (locs : List Loc) (ls : Array Slot) (rest : List Value) (q : Addr) (ce : Cell), Rp G X H → (∀ q ∈ locs, gB G ≤ q.base) → Lh G ls nL L → k ≤ R.cells → z ≤ R.slots → H[q]? = some ce → ce.vm = .none → s.vm.findClass E = some ce.cls →
    vx_W p l e R s m args below meth c H locs k z Q (F0 m pc ls rest) q
def ivIns (key : Nat) : Instr := match key % 4 with
  | 0 => .invokevirtual (key / 4)
  | 1 => .invokespecial (key / 4)
  | _ => .invokestatic (key / 4)
theorem ivIns_v (i : Nat) : ivIns (4 * i) = .invokevirtual i := by simp [ivIns]
theorem ivIns_s (i : Nat) : ivIns (4 * i + 1) = .invokespecial i := by
  have h1 : (4 * i + 1) % 4 = 1 := by omega
  have h2 : (4 * i + 1) / 4 = i := by omega
  simp [ivIns, h1, h2]
theorem ivIns_t (i : Nat) : ivIns (4 * i + 2) = .invokestatic i := by
  have h1 : (4 * i + 2) % 4 = 2 := by omega
  have h2 : (4 * i + 2) / 4 = i := by omega
  simp [ivIns, h1, h2]
def IvOK (G : GX) (l : Launch) (R : Room) (M : MT) (own : String) (ini : Bool) (key : Nat) (iv : IV) : Prop :=
  ∀ (p : Program) (e : Env) (s : State) (m : MethodId) (args : Array Value) (below : List Frame) (meth : Method) (c : Code) (cc : ByteArray) (nL : Nat) (Q : State → Prop), Cx G M own ini p l R s m args meth c cc nL → ∀ (pc : Nat), decode cc pc = .ok (ivIns key, 3) →
    ∀ (L : LT) (st : List AV) (X : AX) (k z : Nat) (N : List AV → AX → Nat → Nat → Prop) (HX : String → AX → Nat → Nat → Prop), iv st X k z N HX →
    (∀ st' X' k' z', N st' X' k' z' → Ws G p l e R s m args below meth c nL Q (pc + 3) L st' X' k' z') → (∀ E X' k' z', HX E X' k' z' → WsX G p l e R s m args below meth c nL Q pc L E X' k' z') → Ws G p l e R s m args below meth c nL Q pc L st X k z
def ivOf (T : List (Nat × IV)) (i : Nat) : IV := match lk T i with
  | some f => f
  | none => fun _ _ _ _ _ _ => False
def seqB : List (Nat × Instr × Nat) → Bool
  | [] => true
  | [_] => true
  | q :: r :: t => decide (r.1 = q.1 + q.2.2) && seqB (r :: t)
section Met
variable {p : Program} {l : Launch} {e : Env} {R : Room} {s : State} {m : MethodId} {args : Array Value} {below : List Frame} {meth : Method} {c : Code} {Q : State → Prop}
variable {cc : ByteArray} {G : GX} {M : MT} {own : String} {ini : Bool} {nL : Nat}
set_option maxHeartbeats 8000000 in
theorem stp_ok (C : Cx G M own ini p l R s m args meth c cc nL) (hTab : tabB (mF M) (mC M) (mSt M) (mNw M) own = true) {pc len : Nat} {ins : Instr} (hq : codB (mF M) (mC M) (mNw M) own ini cc (pc, ins, len) = true) {L : LT} {st : List AV} {X : AX} {k z : Nat} {N : NT} {P : PT} {K : Option AV → AX → Prop} {HX : Nat → LT → String → AX → Nat → Nat → Prop}
    (h : stp M pc ins len L st X k z N P K HX) (hN : ∀ L st X k z, N L st X k z → Ws G p l e R s m args below meth c nL Q (pc + len) L st X k z) (hP : ∀ pc L st X k z, P pc L st X k z → Ws G p l e R s m args below meth c nL Q pc L st X k z)
    (hRet : retF M ins L st X K → Ws G p l e R s m args below meth c nL Q pc L st X k z)
    (hThr : ∀ idx E, ins = .new idx → lk (mNw M) idx = some (.inr E) → st = [] → newB (mNw M) own cc pc (.new idx) = true → gd (k + 1 ≤ mMc M ∧ z + 6 ≤ mMs M) (∀ n', xN X ≤ n' → HX pc L E (xS X, xI X, xJ X, xR X, n') (k + 1) (z + 6)) → Ws G p l e R s m args below meth c nL Q pc L st X k z)
    (hIv : ∀ key, ins = ivIns key → mIv M key st X k z (fun st' X' k' z' => N L st' X' k' z') (HX pc L) → Ws G p l e R s m args below meth c nL Q pc L st X k z) : Ws G p l e R s m args below meth c nL Q pc L st X k z := by
  have hTb := C.2.2.2.2.2.2.1
  obtain ⟨hx, hb, hml, hown⟩ := id C.1
  have hts := C.2.1
  simp only [codB, Bool.and_eq_true, Bool.or_eq_true, decide_eq_true_eq] at hq
  obtain ⟨⟨⟨hd, hl⟩, hi⟩, hnb⟩ := hq
  simp only [tabB, Bool.and_eq_true] at hTab
  obtain ⟨⟨⟨hF, hC⟩, hS⟩, hW⟩ := hTab
  unfold stp at h
  split at h
  · rename_i st' ha
    have hl : len = ilen ins := hl.elim id (fun q => by unfold isSw at q; split at q <;> first | (cases q; done) | (simp [aluF] at ha))
    intro H locs ls hR hq hL hk hz
    exact alu_ok hx hb hd hl ha (hN _ _ _ _ _ h H locs ls hR hq hL hk hz)
  · split at h
    · rename_i st' ha
      have hl : len = ilen ins := hl.elim id (fun q => by unfold isSw at q; split at q <;> first | (cases q; done) | (simp [locF] at ha))
      intro H locs ls hR hq hL hk hz
      exact loc_ok hx hb hL hd hl ha (hN _ _ _ _ _ h H locs ls hR hq hL hk hz)
    · split at h
      · rename_i q ha
        have hl : len = ilen ins := hl.elim id (fun q => by unfold isSw at q; split at q <;> first | (cases q; done) | (simp [stoF] at ha))
        intro H locs ls hR hq hL hk hz
        exact sto_ok hx hb hL hd hl ha fun ls' hL' => hN _ _ _ _ _ h H locs ls' hR hq hL' hk hz
      · split at h
        · have hl : len = 2 := hl.elim id (fun h => by cases h)
          subst hl
          split at h
          · rename_i v hv
            have hc := lk_of hC hv
            intro H locs ls hR hq hL hk hz
            simp only [insB, hv] at hi
            rcases v with x | x | x | x
            · exact lv_ldc hx hb hown (hts _ hc) hd (hN _ _ _ _ _ h H locs ls hR hq hL hk hz)
            · cases hi
            · exact lv_ldcf hx hb hown (hts _ hc) hd (hN _ _ _ _ _ h H locs ls hR hq hL hk hz)
            · cases hi
          · exact h.elim
        · have hl : len = 3 := hl.elim id (fun h => by cases h)
          subst hl
          split at h
          · rename_i v hv
            have hc := lk_of hC hv
            intro H locs ls hR hq hL hk hz
            simp only [insB, hv] at hi
            rcases v with x | x | x | x
            · exact lv_ldcw hx hb hown (hts _ hc) hd (hN _ _ _ _ _ h H locs ls hR hq hL hk hz)
            · cases hi
            · cases hi
            · cases hi
          · exact h.elim
        · have hl : len = 3 := hl.elim id (fun h => by cases h)
          subst hl
          split at h
          · rename_i v hv
            have hc := lk_of hC hv
            intro H locs ls hR hq hL hk hz
            simp only [insB, hv] at hi
            rcases v with x | x | x | x
            · cases hi
            · exact lv_ldc2 hx hb hown (hts _ hc) hd (hN _ _ _ _ _ h H locs ls hR hq hL hk hz)
            · cases hi
            · cases hi
          · exact h.elim
        iterate 6
          · intro H locs ls hR hq hL hk hz
            exact div_ok hx hb hd (hl.elim id (fun h => by cases h)) h fun st' h' => hN _ _ _ _ _ h' H locs ls hR hq hL hk hz
        · have hl : len = 3 := hl.elim id (fun h => by cases h)
          subst hl
          exact getF_ok C hF hd h fun st' h' => hN _ _ _ _ _ h'
        · have hl : len = 3 := hl.elim id (fun h => by cases h)
          subst hl
          exact putF_ok C hF hd hi h fun st' X' h' => hN _ _ _ _ _ h'
        · have hl : len = 3 := hl.elim id (fun h => by cases h)
          subst hl
          split at h
          · rename_i j hj
            exact getS_ok C (lk_of hS hj) hd (hN _ _ _ _ _ h)
          · exact h.elim
        · have hl : len = 1 := hl.elim id (fun h => by cases h)
          subst hl
          exact aldF_ok C (Or.inl ⟨rfl, rfl⟩) hd h fun st' h' => hN _ _ _ _ _ h'
        · have hl : len = 1 := hl.elim id (fun h => by cases h)
          subst hl
          exact aldF_ok C (Or.inr (Or.inl ⟨rfl, rfl⟩)) hd h fun st' h' => hN _ _ _ _ _ h'
        · have hl : len = 1 := hl.elim id (fun h => by cases h)
          subst hl
          exact aldF_ok C (Or.inr (Or.inr (Or.inl ⟨rfl, rfl⟩))) hd h fun st' h' => hN _ _ _ _ _ h'
        · have hl : len = 1 := hl.elim id (fun h => by cases h)
          subst hl
          exact aldF_ok C (Or.inr (Or.inr (Or.inr (Or.inl ⟨rfl, rfl⟩)))) hd h fun st' h' => hN _ _ _ _ _ h'
        · have hl : len = 1 := hl.elim id (fun h => by cases h)
          subst hl
          exact aldF_ok C (Or.inr (Or.inr (Or.inr (Or.inr ⟨rfl, rfl⟩)))) hd h fun st' h' => hN _ _ _ _ _ h'
        · have hl : len = 1 := hl.elim id (fun h => by cases h)
          subst hl
          exact astF_ok C (Or.inl ⟨rfl, rfl⟩) hd h fun st' X' h' => hN _ _ _ _ _ h'
        · have hl : len = 1 := hl.elim id (fun h => by cases h)
          subst hl
          exact astF_ok C (Or.inr (Or.inl ⟨rfl, rfl⟩)) hd h fun st' X' h' => hN _ _ _ _ _ h'
        · have hl : len = 1 := hl.elim id (fun h => by cases h)
          subst hl
          exact astF_ok C (Or.inr (Or.inr (Or.inl ⟨rfl, rfl⟩))) hd h fun st' X' h' => hN _ _ _ _ _ h'
        · have hl : len = 1 := hl.elim id (fun h => by cases h)
          subst hl
          exact astF_ok C (Or.inr (Or.inr (Or.inr (Or.inl ⟨rfl, rfl⟩)))) hd h fun st' X' h' => hN _ _ _ _ _ h'
        · have hl : len = 1 := hl.elim id (fun h => by cases h)
          subst hl
          exact astF_ok C (Or.inr (Or.inr (Or.inr (Or.inr ⟨rfl, rfl⟩)))) hd h fun st' X' h' => hN _ _ _ _ _ h'
        · have hl : len = 1 := hl.elim id (fun h => by cases h)
          subst hl
          intro H locs ls hR hq hL hk hz
          unfold lenF at h
          split at h
          · obtain ⟨i, rfl, h⟩ := onSome_use h
            obtain ⟨⟨h1, h2⟩, h3⟩ := gd_use h
            rw [shp_eq hR hTb] at h1 h2 h3
            exact len_ok C hR (kk := (xS X i).1) (n := (xS X i).2) rfl h1 h2 hd (hN _ _ _ _ _ h3 H locs ls hR hq hL hk hz)
          · exact h.elim
        · have hl : len = 2 := hl.elim id (fun h => by cases h)
          subst hl
          intro H locs ls hR hq hL hk hz
          split at h
          · exact h.elim
          · rename_i kk hk0
            unfold newaF at h
            split at h
            · obtain ⟨h0, h⟩ := gd_use h
              obtain ⟨⟨h1, h2, h3, h4⟩, h5⟩ := gd_use h
              obtain ⟨hRc, hRs⟩ := C.2.2.2.2.2.1
              exact newa_ok C hR rfl hk0 h1 h2 h3 h4 h0 hd fun H' hR' => hN _ _ _ _ _ h5 H' locs ls hR' hq hL (by omega) (by omega)
            · exact h.elim
        · have hl : len = 3 := hl.elim id (fun h => by cases h)
          subst hl
          intro H locs ls hR hq hL hk hz
          unfold newaF at h
          split at h
          · obtain ⟨h0, h⟩ := gd_use h
            obtain ⟨⟨h1, h2, h3, h4⟩, h5⟩ := gd_use h
            obtain ⟨hRc, hRs⟩ := C.2.2.2.2.2.1
            exact anew_ok C hR hi h1 h2 h3 h4 h0 hd fun H' hR' => hN _ _ _ _ _ h5 H' locs ls hR' hq hL (by omega) (by omega)
          · exact h.elim
        · have hl : len = 3 := hl.elim id (fun h => by cases h)
          subst hl
          intro H locs ls hR hq hL hk hz
          split at h
          · obtain ⟨i, rfl, h⟩ := onSome_use h
            obtain ⟨⟨h1, h2⟩, h3⟩ := gd_use h
            rw [shp_eq hR hTb] at h2
            exact cast_ok C hi hd h1 (n := (xS X i).2) (by rw [← h2]) (hN _ _ _ _ _ h3) H locs ls hR hq hL hk hz
          · exact h.elim
        · have hl : len = 3 := hl.elim id (fun h => by cases h)
          subst hl
          rename_i idx _ _ _
          cases hlk : lk (mNw M) idx with
          | none => unfold newF at h; rw [hlk] at h; exact h.elim
          | some v =>
            cases v with
            | inl ci =>
              unfold newF at h
              rw [hlk] at h
              obtain ⟨h0, h⟩ := gd_use h
              obtain ⟨⟨h1, h2⟩, h3⟩ := gd_use h
              have hw := lk_of hW hlk
              simp only [nwB, Bool.and_eq_true, decide_eq_true_eq] at hw
              obtain ⟨⟨⟨w1, w2⟩, w3⟩, w4⟩ := hw
              intro H locs ls hR hq hL hk hz
              obtain ⟨hRc, hRs⟩ := C.2.2.2.2.2.1
              exact new_ok C hR w1 w2 w3 w4 h1 h2 h0 hd fun H' hR' => hN _ _ _ _ _ h3 H' locs ls hR' hq hL (by omega) (by omega)
            | inr E =>
              unfold newF at h
              rw [hlk] at h
              cases st with
              | nil => exact hThr idx E rfl hlk rfl hnb h
              | cons a b => exact h.elim
        · exact hIv _ (ivIns_v _).symm h
        · exact hIv _ (ivIns_s _).symm h
        · exact hIv _ (ivIns_t _).symm h
        iterate 4
          · exact hRet h
        iterate 6
          · exact jmp_ok hx hb hd hl hi h hN hP
        · exact h.elim
theorem wpb_ok (C : Cx G M own ini p l R s m args meth c cc nL) (hTab : tabB (mF M) (mC M) (mSt M) (mNw M) own = true) (T : List (Nat × IV)) (hT : mIv M = ivOf T) (hIv : allL (fun q => IvOK G l R M own ini q.1 q.2) T) {P : PT} {K : Option AV → AX → Prop} {HX : Nat → LT → String → AX → Nat → Nat → Prop}
    (hP : ∀ pc L st X k z, P pc L st X k z → Ws G p l e R s m args below meth c nL Q pc L st X k z)
    (hRet : ∀ pc ins len L st X k z, decode cc pc = .ok (ins, len) → (len = ilen ins ∨ isSw ins = true) → retF M ins L st X K → Ws G p l e R s m args below meth c nL Q pc L st X k z)
    (hThr : ∀ pc idx E L st X k z, decode cc pc = .ok (.new idx, 3) → lk (mNw M) idx = some (.inr E) → st = [] → newB (mNw M) own cc pc (.new idx) = true → gd (k + 1 ≤ mMc M ∧ z + 6 ≤ mMs M) (∀ n', xN X ≤ n' → HX pc L E (xS X, xI X, xJ X, xR X, n') (k + 1) (z + 6)) → Ws G p l e R s m args below meth c nL Q pc L st X k z)
    (hHX : ∀ pc L E X k z, HX pc L E X k z → WsX G p l e R s m args below meth c nL Q pc L E X k z) :
    ∀ (b : List (Nat × Instr × Nat)), b.all (codB (mF M) (mC M) (mNw M) own ini cc) = true → seqB b = true → ∀ (pc : Nat), (b.head?.map (·.1)) = some pc → ∀ L st X k z, wpb M P K HX b L st X k z → Ws G p l e R s m args below meth c nL Q pc L st X k z
  | [], _, _, pc, hpc, L, st, X, k, z, h => h.elim
  | (pc0, ins, len) :: t, hc, hs, pc, hpc, L, st, X, k, z, h => by
    have e : pc0 = pc := by simpa using hpc
    subst e
    simp only [List.all_cons, Bool.and_eq_true] at hc
    obtain ⟨hc1, hc2⟩ := hc
    have hd : decode cc pc0 = .ok (ins, len) := by
      simp only [codB, Bool.and_eq_true, decide_eq_true_eq] at hc1; exact hc1.1.1.1
    have hlen : len = ilen ins ∨ isSw ins = true := by
      simp only [codB, Bool.and_eq_true, Bool.or_eq_true, decide_eq_true_eq] at hc1; exact hc1.1.1.2
    refine stp_ok C hTab hc1 h (fun L st X k z hN => ?_) hP (hRet _ _ _ _ _ _ _ _ hd hlen) (fun idx E hi hl hst hnb hg => ?_) (fun key hi hv => ?_)
    · cases t with
      | nil => exact hP _ _ _ _ _ _ hN
      | cons r t' =>
        simp only [seqB, Bool.and_eq_true, decide_eq_true_eq] at hs
        exact wpb_ok C hTab T hT hIv hP hRet hThr hHX (r :: t') hc2 hs.2 _ (by simp [hs.1]) L st X k z hN
    · subst hi
      have hl3 : len = 3 := by
        simp only [codB, Bool.and_eq_true, Bool.or_eq_true, decide_eq_true_eq] at hc1
        exact hc1.1.1.2.elim id (fun h => by cases h)
      subst hl3
      exact hThr _ _ _ _ _ _ _ _ hd hl hst hnb hg
    · have hl3 : len = 3 := by
        simp only [codB, Bool.and_eq_true, Bool.or_eq_true, decide_eq_true_eq] at hc1
        have h9 := hc1.1.1.2
        rw [hi] at h9
        unfold ivIns at h9
        split at h9 <;> exact h9.elim id (fun h => by cases h)
      subst hl3
      rw [hT] at hv
      unfold ivOf at hv
      cases hf : lk T key with
      | none => rw [hf] at hv; exact hv.elim
      | some f =>
        rw [hf] at hv
        refine allL_mem hIv (key, f) (lk_mem hf) p e s m args below meth c cc nL Q C pc0 (by rw [← hi]; exact hd) L st X k z _ _ hv (fun st' X' k' z' hN => ?_) (hHX pc0 L)
        cases t with
        | nil => exact hP _ _ _ _ _ _ hN
        | cons r t' =>
          simp only [seqB, Bool.and_eq_true, decide_eq_true_eq] at hs
          exact wpb_ok C hTab T hT hIv hP hRet hThr hHX (r :: t') hc2 hs.2 _ (by simp [hs.1]) L st' X' k' z' hN
end Met
