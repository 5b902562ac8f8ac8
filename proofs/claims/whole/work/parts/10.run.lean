/-! a step, a stretch, a method -/
theorem lk_of {α : Type} {f : Nat × α → Bool} {l : List (Nat × α)} (h : l.all f = true) {i : Nat} {a : α} (hl : lk l i = some a) : f (i, a) = true := List.all_eq_true.mp h _ (lk_mem hl)
theorem isC_cj {ci t : Nat} (h : isC ci t = true) : ∃ cj, t = cj + 10 := by
  simp only [isC, Bool.or_eq_true, Bool.and_eq_true, beq_iff_eq] at h
  exact ⟨t - 10, by omega⟩
theorem isC_same {own : String} {ini : Bool} {idx ci cj k kd : Nat} (hc : isC ci (cj + 10) = true) (hf : fldB own (idx, ci, k, kd) = true) : fldB own (idx, cj, k, kd) = true ∧ finB own ini cj k = finB own ini ci k ∧ off cj k = off ci k := by
  simp only [isC, Bool.or_eq_true, Bool.and_eq_true, beq_iff_eq] at hc
  have hk : k < fN ci := by
    simp only [fldB, Bool.and_eq_true, decide_eq_true_eq] at hf; exact hf.1.1.2
  rcases hc with (hc | ⟨rfl, hc⟩) | ⟨rfl, hc⟩
  · have e : cj = ci := by omega
    subst e; exact ⟨hf, rfl, rfl⟩
  · have hk2 : k = 0 ∨ k = 1 := by simp only [fN] at hk; omega
    have hj : cj = 0 ∨ cj = 2 ∨ cj = 3 ∨ cj = 6 := by omega
    rcases hk2 with rfl | rfl <;> rcases hj with rfl | rfl | rfl | rfl <;> exact ⟨hf, rfl, rfl⟩
  · have hk2 : k = 0 ∨ k = 1 := by simp only [fN] at hk; omega
    have hj : cj = 3 := by omega
    rcases hk2 with rfl | rfl <;> subst hj <;> exact ⟨hf, rfl, rfl⟩
theorem getF_use {M : MT} {idx : Nat} {st : List AV} {X : AX} {f : List AV → Prop} (h : getF M idx st X f) : ∃ ci k kd i rest, lk (mF M) idx = some (ci, k, kd) ∧ st = vR (some i) :: rest ∧ (∃ cj fl, shp (mTb M) X i = (cj + 10, fl) ∧ isC ci (cj + 10) = true ∧ (kd = 3 → fl = 1)) ∧ kdOf X i ci k kd fun v => f (v :: rest) := by
  unfold getF at h
  split at h
  · rename_i ci k r rest hl
    obtain ⟨i, rfl, h⟩ := onSome_use h
    obtain ⟨h1, h2⟩ := gd_use h
    obtain ⟨cj, e1⟩ := isC_cj h1.1
    exact ⟨ci, k, 3, i, rest, hl, rfl, ⟨cj, 1, by rw [← e1, ← h1.2], by rw [← e1]; exact h1.1, fun _ => rfl⟩, h2⟩
  · rename_i ci k kd r rest hne hl
    obtain ⟨i, rfl, h⟩ := onSome_use h
    obtain ⟨h1, h2⟩ := gd_use h
    obtain ⟨cj, e1⟩ := isC_cj h1
    exact ⟨ci, k, kd, i, rest, hl, rfl, ⟨cj, (shp (mTb M) X i).2, by rw [← e1], by rw [← e1]; exact h1, fun q => (hne q).elim⟩, h2⟩
  · exact h.elim
section Run
variable {p : Program} {l : Launch} {e : Env} {R : Room} {s : State} {m : MethodId} {args : Array Value} {below : List Frame} {meth : Method} {c : Code} {Q : State → Prop}
variable {cc : ByteArray} {G : GX} {M : MT} {own : String} {ini : Bool} {nL : Nat}
theorem fv_setI {X : AX} {i ci k kd : Nat} {v : Int32} (h : kdOK ci k kd = true) (hk : kd = 0 ∨ kd = 4) (j : Nat) : updV (fv G X i ci) k (.int v) j = fv G (xS X, u2 (xI X) i k v, xJ X, xR X, xN X) i ci j := by
  unfold updV
  split
  · rename_i hj
    rw [hj, kd_int h hk]
    show _ = Value.int (u2 (xI X) i k v i k)
    rw [u2_at, if_pos rfl]
  · rename_i hj
    unfold fv
    show _ = (match fty ci j with | .long => Value.long (xJ X i j) | .object _ => rv G (xR X i j) | .array _ => rv G (xR X i j) | _ => .int (u2 (xI X) i k v i j))
    rw [u2_at, if_neg hj]
    cases fty ci j <;> rfl
theorem fv_setJ {X : AX} {i ci k : Nat} {v : Int64} (h : kdOK ci k 1 = true) (j : Nat) : updV (fv G X i ci) k (.long v) j = fv G (xS X, xI X, u2 (xJ X) i k v, xR X, xN X) i ci j := by
  unfold updV
  split
  · rename_i hj
    rw [hj, kd_long h rfl]
    show _ = Value.long (u2 (xJ X) i k v i k)
    rw [u2_at, if_pos rfl]
  · rename_i hj
    unfold fv
    show _ = (match fty ci j with | .long => Value.long (u2 (xJ X) i k v i j) | .object _ => rv G (xR X i j) | .array _ => rv G (xR X i j) | _ => .int (xI X i j))
    rw [u2_at, if_neg hj]
    cases fty ci j <;> rfl
theorem fv_setR {X : AX} {i ci k : Nat} {v : Option Nat} (h : kdOK ci k 2 = true) (j : Nat) : updV (fv G X i ci) k (rv G v) j = fv G (xS X, xI X, xJ X, u2 (xR X) i k v, xN X) i ci j := by
  unfold updV
  split
  · rename_i hj
    rw [hj, kd_ref h (Or.inl rfl)]
    show _ = rv G (u2 (xR X) i k v i k)
    rw [u2_at, if_pos rfl]
  · rename_i hj
    unfold fv
    show _ = (match fty ci j with | .long => Value.long (xJ X i j) | .object _ => rv G (u2 (xR X) i k v i j) | .array _ => rv G (u2 (xR X) i k v i j) | _ => .int (xI X i j))
    rw [u2_at, if_neg hj]
    cases fty ci j <;> rfl
theorem nar_kd {ci k kd : Nat} (h : kdOK ci k kd = true) {v : Int32} (hv : kd = 0 ∨ (kd = 4 ∧ (v = 0 ∨ v = 1))) : narrow (fty ci k) (.int v) = .int v ∧ fits (fty ci k) (.int v) = true := by
  unfold kdOK at h
  split at h
  · rename_i e; rw [e]; exact ⟨rfl, rfl⟩
  · rename_i e
    rw [e]
    rcases hv with h0 | ⟨-, rfl | rfl⟩
    · cases h0
    · exact ⟨rfl, rfl⟩
    · exact ⟨rfl, rfl⟩
  · omega
  · omega
  · omega
  · omega
  · omega
  · cases h
theorem nar_kdL {ci k kd : Nat} (h : kdOK ci k kd = true) (hk : kd = 1) {v : Int64} : narrow (fty ci k) (.long v) = .long v ∧ fits (fty ci k) (.long v) = true := by
  unfold kdOK at h
  split at h
  · omega
  · omega
  · rename_i e; rw [e]; exact ⟨rfl, rfl⟩
  · omega
  · omega
  · omega
  · omega
  · cases h
theorem nar_kdR {ci k kd : Nat} (h : kdOK ci k kd = true) (hk : kd = 2) {v : Option Nat} : narrow (fty ci k) (rv G v) = rv G v ∧ fits (fty ci k) (rv G v) = true := by
  unfold kdOK at h
  split at h
  · omega
  · omega
  · omega
  · rename_i e; rw [e]; cases v <;> exact ⟨rfl, rfl⟩
  · rename_i e; rw [e]; cases v <;> exact ⟨rfl, rfl⟩
  · omega
  · omega
  · cases h
set_option maxHeartbeats 4000000 in
theorem getF_ok (C : Cx G M own ini p l R s m args meth c cc nL) (hF : (mF M).all (fldB own) = true) {pc idx : Nat} (hd : decode cc pc = .ok (.getfield idx, 3)) {L : LT} {st : List AV} {X : AX} {k z : Nat} {f : List AV → Prop} (h : getF M idx st X f)
    (hN : ∀ st', f st' → Ws G p l e R s m args below meth c nL Q (pc + 3) L st' X k z) : Ws G p l e R s m args below meth c nL Q pc L st X k z := by
  intro H locs ls hR hq hL hk hz
  obtain ⟨ci, kf, kd, i, rest, hlk, rfl, ⟨cj, fl, hs, hcj, hfl⟩, h⟩ := getF_use h
  rw [shp_eq hR C.2.2.2.2.2.2.1] at hs
  obtain ⟨hB, -, hoff⟩ := isC_same (ini := ini) hcj (lk_of hF hlk)
  have hkd : kdOK cj kf kd = true := by
    simp only [fldB, Bool.and_eq_true] at hB; exact hB.1.2
  refine get_ok C hR hs hB hd ?_
  unfold kdOf at h
  split at h
  · rw [kd_int hkd (Or.inl rfl)]; exact hN _ h H locs ls hR hq hL hk hz
  · rw [kd_long hkd rfl]; exact hN _ h H locs ls hR hq hL hk hz
  · rw [kd_ref hkd (Or.inl rfl)]; exact hN _ h H locs ls hR hq hL hk hz
  · split at h
    · rename_i o ho
      rw [kd_ref hkd (Or.inr rfl), hR.2.2.2.2.2 i cj (by rw [hs, hfl rfl]) kf o (by rw [hoff]; exact ho)]
      exact hN _ h H locs ls hR hq hL hk hz
    · exact h.elim
  · rename_i n0 n1 n2 n3
    have h4 : kd = 4 := by
      unfold kdOK at hkd
      split at hkd
      · exact (n0 rfl).elim
      · rfl
      · exact (n1 rfl).elim
      · exact (n2 rfl).elim
      · exact (n2 rfl).elim
      · exact (n3 rfl).elim
      · exact (n3 rfl).elim
      · cases hkd
    rw [kd_int hkd (Or.inr h4)]; exact hN _ h H locs ls hR hq hL hk hz
set_option maxHeartbeats 4000000 in
theorem putF_ok (C : Cx G M own ini p l R s m args meth c cc nL) (hF : (mF M).all (fldB own) = true) {pc idx : Nat} (hd : decode cc pc = .ok (.putfield idx, 3)) (hi : insB (mF M) (mC M) own ini pc (.putfield idx) = true) {L : LT} {st : List AV} {X : AX} {k z : Nat} {f : List AV → AX → Prop} (h : putF M idx st X f)
    (hN : ∀ st' X', f st' X' → Ws G p l e R s m args below meth c nL Q (pc + 3) L st' X' k z) : Ws G p l e R s m args below meth c nL Q pc L st X k z := by
  intro H locs ls hR hq hL hk hz
  unfold putF at h
  split at h
  · rename_i ci kf kd hlk
    have hB0 := lk_of hF hlk
    have hfin0 : finB own ini ci kf = true := by simpa [insB, hlk] using hi
    have hTb := C.2.2.2.2.2.2.1
    split at h
    · rename_i v r rest
      obtain ⟨i, rfl, h⟩ := onSome_use h
      obtain ⟨h1, h2⟩ := gd_use h
      rw [shp_eq hR hTb] at h1
      obtain ⟨cj, ecj⟩ := isC_cj h1
      rw [ecj] at h1
      obtain ⟨hB, hfe, hoe⟩ := isC_same (ini := ini) h1 hB0
      have hfin : finB own ini cj kf = true := by rw [hfe]; exact hfin0
      have hkd := hB
      simp only [fldB, Bool.and_eq_true] at hkd
      replace hkd := hkd.1.2
      obtain ⟨n1, n2⟩ := nar_kd hkd (v := v) (Or.inl rfl)
      have hs : xS X i = (cj + 10, (xS X i).2) := by rw [← ecj]
      exact ob_put C hR hs hB hfin n1 n2 hq hd fun H' locs' e1 e2 e3 e4 => hN _ _ h2 H' locs' ls (hR.putO hs rfl rfl (fun j hj => ⟨u2_ne _ _ _ hj, rfl, rfl⟩) e1 e2 e3 (fv_setI hkd (Or.inl rfl)) (fun _ _ _ _ => rfl)) e4 hL hk hz
    · rename_i v r rest
      obtain ⟨i, rfl, h⟩ := onSome_use h
      obtain ⟨h1, h0, h2⟩ := gd_use h
      rw [shp_eq hR hTb] at h1
      obtain ⟨cj, ecj⟩ := isC_cj h1
      rw [ecj] at h1
      obtain ⟨hB, hfe, hoe⟩ := isC_same (ini := ini) h1 hB0
      have hfin : finB own ini cj kf = true := by rw [hfe]; exact hfin0
      have hkd := hB
      simp only [fldB, Bool.and_eq_true] at hkd
      replace hkd := hkd.1.2
      obtain ⟨n1, n2⟩ := nar_kd hkd (v := v) (Or.inr ⟨rfl, h0⟩)
      have hs : xS X i = (cj + 10, (xS X i).2) := by rw [← ecj]
      exact ob_put C hR hs hB hfin n1 n2 hq hd fun H' locs' e1 e2 e3 e4 => hN _ _ h2 H' locs' ls (hR.putO hs rfl rfl (fun j hj => ⟨u2_ne _ _ _ hj, rfl, rfl⟩) e1 e2 e3 (fv_setI hkd (Or.inr rfl)) (fun _ _ _ _ => rfl)) e4 hL hk hz
    · rename_i v r rest
      obtain ⟨i, rfl, h⟩ := onSome_use h
      obtain ⟨h1, h2⟩ := gd_use h
      rw [shp_eq hR hTb] at h1
      obtain ⟨cj, ecj⟩ := isC_cj h1
      rw [ecj] at h1
      obtain ⟨hB, hfe, hoe⟩ := isC_same (ini := ini) h1 hB0
      have hfin : finB own ini cj kf = true := by rw [hfe]; exact hfin0
      have hkd := hB
      simp only [fldB, Bool.and_eq_true] at hkd
      replace hkd := hkd.1.2
      obtain ⟨n1, n2⟩ := nar_kdL hkd rfl (v := v)
      have hs : xS X i = (cj + 10, (xS X i).2) := by rw [← ecj]
      exact ob_put C hR hs hB hfin n1 n2 hq hd fun H' locs' e1 e2 e3 e4 => hN _ _ h2 H' locs' ls (hR.putO hs rfl rfl (fun j hj => ⟨rfl, u2_ne _ _ _ hj, rfl⟩) e1 e2 e3 (fv_setJ hkd) (fun _ _ _ _ => rfl)) e4 hL hk hz
    · rename_i v r rest
      obtain ⟨i, rfl, h⟩ := onSome_use h
      obtain ⟨h1, h⟩ := gd_use h
      obtain ⟨h0, h2⟩ := gd_use h
      rw [shp_eq hR hTb] at h1 h0
      obtain ⟨cj, ecj⟩ := isC_cj h1
      rw [ecj] at h1
      obtain ⟨hB, hfe, hoe⟩ := isC_same (ini := ini) h1 hB0
      have hfin : finB own ini cj kf = true := by rw [hfe]; exact hfin0
      have hkd := hB
      simp only [fldB, Bool.and_eq_true] at hkd
      replace hkd := hkd.1.2
      obtain ⟨n1, n2⟩ := nar_kdR (G := G) hkd rfl (v := v)
      have hs : xS X i = (cj + 10, (xS X i).2) := by rw [← ecj]
      refine ob_put C hR hs hB hfin n1 n2 hq hd fun H' locs' e1 e2 e3 e4 => hN _ _ h2 H' locs' ls (hR.putO hs rfl rfl (fun j hj => ⟨rfl, rfl, u2_ne _ _ _ hj⟩) e1 e2 e3 (fv_setR hkd) (fun hf k' o ho => ?_)) e4 hL hk hz
      show u2 (xR X) i kf v i k' = xR X i k'
      rw [u2_at, if_neg]
      rintro rfl
      rcases h0 with h0 | h0
      · rw [hoe, h0] at ho; cases ho
      · omega
    · exact h.elim
  · exact h.elim
set_option maxHeartbeats 4000000 in
theorem aldF_ok (C : Cx G M own ini p l R s m args meth c cc nL) {pc kk : Nat} {ins : Instr} (hi : (kk = 1 ∧ ins = .iaload) ∨ (kk = 2 ∧ ins = .laload) ∨ (kk = 3 ∧ ins = .saload) ∨ (kk = 4 ∧ ins = .baload) ∨ (kk = 5 ∧ ins = .aaload)) (hd : decode cc pc = .ok (ins, 1)) {L : LT} {st : List AV} {X : AX} {k z : Nat} {f : List AV → Prop} (h : aldF M kk st X f)
    (hN : ∀ st', f st' → Ws G p l e R s m args below meth c nL Q (pc + 1) L st' X k z) : Ws G p l e R s m args below meth c nL Q pc L st X k z := by
  intro H locs ls hR hq hL hk hz
  unfold aldF at h
  split at h
  · rename_i j r rest
    obtain ⟨i, rfl, h⟩ := onSome_use h
    obtain ⟨h1, h2, h3⟩ := gd_use h
    rw [shp_eq hR C.2.2.2.2.2.2.1] at h1 h2
    refine ald_ok C hR (show xS X i = (kk, (xS X i).2) by rw [← h1]) h2 hi hd ?_
    rcases hi with ⟨rfl, -⟩ | ⟨rfl, -⟩ | ⟨rfl, -⟩ | ⟨rfl, -⟩ | ⟨rfl, -⟩ <;> exact hN _ h3 H locs ls hR hq hL hk hz
  · exact h.elim
set_option maxHeartbeats 4000000 in
theorem astF_ok (C : Cx G M own ini p l R s m args meth c cc nL) {pc kk : Nat} {ins : Instr} (hi : (kk = 1 ∧ ins = .iastore) ∨ (kk = 2 ∧ ins = .lastore) ∨ (kk = 3 ∧ ins = .sastore) ∨ (kk = 4 ∧ ins = .bastore) ∨ (kk = 5 ∧ ins = .aastore)) (hd : decode cc pc = .ok (ins, 1)) {L : LT} {st : List AV} {X : AX} {k z : Nat} {f : List AV → AX → Prop} (h : astF M kk st X f)
    (hN : ∀ st' X', f st' X' → Ws G p l e R s m args below meth c nL Q (pc + 1) L st' X' k z) : Ws G p l e R s m args below meth c nL Q pc L st X k z := by
  intro H locs ls hR hq hL hk hz
  have hTb := C.2.2.2.2.2.2.1
  unfold astF at h
  split at h
  · obtain ⟨i, rfl, h⟩ := onSome_use h
    obtain ⟨⟨h4, h1⟩, h2, h3⟩ := gd_use h
    rw [shp_eq hR hTb] at h1 h2
    obtain rfl : ins = .iastore := by simpa using hi
    exact astI_ok C hR (show xS X i = (1, (xS X i).2) by rw [← h1]) h4 h2 hq hd fun H' locs' r1 r2 => hN _ _ h3 H' locs' ls r1 r2 hL hk hz
  · obtain ⟨i, rfl, h⟩ := onSome_use h
    obtain ⟨⟨h4, h1⟩, h2, h3⟩ := gd_use h
    rw [shp_eq hR hTb] at h1 h2
    obtain rfl : ins = .sastore := by simpa using hi
    exact astS_ok C hR (show xS X i = (3, (xS X i).2) by rw [← h1]) h4 h2 hq hd fun H' locs' r1 r2 => hN _ _ h3 H' locs' ls r1 r2 hL hk hz
  · obtain ⟨i, rfl, h⟩ := onSome_use h
    obtain ⟨⟨h4, h1⟩, h2, h5, h3⟩ := gd_use h
    rw [shp_eq hR hTb] at h1 h2
    obtain rfl : ins = .bastore := by simpa using hi
    exact astZ_ok C hR (show xS X i = (4, (xS X i).2) by rw [← h1]) h4 h2 h5 hq hd fun H' locs' r1 r2 => hN _ _ h3 H' locs' ls r1 r2 hL hk hz
  · obtain ⟨i, rfl, h⟩ := onSome_use h
    obtain ⟨⟨h4, h1⟩, h2, h3⟩ := gd_use h
    rw [shp_eq hR hTb] at h1 h2
    obtain rfl : ins = .lastore := by simpa using hi
    exact astL_ok C hR (show xS X i = (2, (xS X i).2) by rw [← h1]) h4 h2 hq hd fun H' locs' r1 r2 => hN _ _ h3 H' locs' ls r1 r2 hL hk hz
  · obtain ⟨i, rfl, h'⟩ := onSome_use h
    obtain ⟨q, rfl, h⟩ := onSome_use h'
    obtain ⟨⟨h4, h1⟩, h2, ⟨ci, hc, hq2⟩, h3⟩ := gd_use h
    rw [shp_eq hR hTb] at h1 h2 hq2
    obtain rfl : ins = .aastore := by simpa using hi
    exact astR_ok C hR (show xS X i = (5, (xS X i).2) by rw [← h1]) h4 (show xS X q = (ci + 10, (xS X q).2) by rw [← hq2]) hc h2 hq hd fun H' locs' r1 r2 => hN _ _ h3 H' locs' ls r1 r2 hL hk hz
  · exact h.elim
theorem getS_ok (C : Cx G M own ini p l R s m args meth c cc nL) {pc idx j : Nat} (hB : stB own (idx, j) = true) (hd : decode cc pc = .ok (.getstatic idx, 3)) {L : LT} {st : List AV} {X : AX} {k z : Nat}
    (hN : Ws G p l e R s m args below meth c nL Q (pc + 3) L (vR (some j) :: st) X k z) : Ws G p l e R s m args below meth c nL Q pc L st X k z := by
  intro H locs ls hR hq hL hk hz T hT XX
  have hS := C.grown hR hq hT XX
  obtain ⟨⟨hx, hb, -, hown⟩, hts, hG, -, h0, -⟩ := C
  simp only [stB, Bool.and_eq_true, Bool.or_eq_true, decide_eq_true_eq] at hB
  have hZ : va_Z "FareClock" (stNm j) "[I" (.ref (ad G j)) (fun q => gB G ≤ q) s s.heap := by
    have hkeep : ∀ a : Nat, a < (gH G).size → ¬ gB G ≤ a → s.heap[a]? = (gH G)[a]? := fun a h1 h2 => h0 a (Nat.not_le.mp h2)
    rcases hB.1 with (rfl | rfl) | rfl
    · exact va_Z.kept hG.2.2.1.1 hkeep
    · exact va_Z.kept hG.2.2.1.2.1 hkeep
    · exact va_Z.kept hG.2.2.1.2.2 hkeep
  rcases hB.2 with hw | ⟨hw, rfl⟩
  · exact va_gets hx hb hZ hS hown (hts _ hw) (fun _ q => q) hd (hN H locs ls hR hq hL hk hz) T hT XX
  · cases hw
    exact va_getsN hx hb hZ hS hown (va_Nw.use rfl hG.2.2.2.2.2.2.1) (fun _ q => q) hd (hN H locs ls hR hq hL hk hz) T hT XX
theorem cast_ok (C : Cx G M own ini p l R s m args meth c cc nL) {pc idx i n : Nat} (hw : gw (Cond.classLink own idx "[I") = true) (hd : decode cc pc = .ok (.checkcast idx, 3)) {L : LT} {st : List AV} {X : AX} {k z : Nat} (h4 : 4 ≤ i) (h1 : xS X i = (1, n))
    (hN : Ws G p l e R s m args below meth c nL Q (pc + 3) L (vR (some i) :: st) X k z) : Ws G p l e R s m args below meth c nL Q pc L (vR (some i) :: st) X k z := by
  intro H locs ls hR hq hL hk hz
  obtain ⟨⟨hx, hb, -, hown⟩, hts, hG, -⟩ := C
  have hc := (hR.arr h1 (by omega) (by omega) h4).2
  refine va_castA (D := gD G) (cl := cls13) (ws := [(ad G i, .inl (gA G 1, (n, .inl (xI X i))))]) hx hb hown (hts _ hw) ?_ 0 rfl (hG.1.2 0 _ rfl).2 hd (hN H locs ls hR hq hL hk hz)
  intro k q hk'
  cases k with
  | zero => cases hk'; exact hc
  | succ k => cases hk'
end Run
