/-! soundness of what touches the heap -/
def kdOK (ci k kd : Nat) : Bool := match fty ci k, kd with
  | .int, 0 => true
  | .boolean, 4 => true
  | .long, 1 => true
  | .object _, 2 => true
  | .array _, 2 => true
  | .object _, 3 => (off ci k).isSome
  | .array _, 3 => (off ci k).isSome
  | _, _ => false
/-- a field's link: in the tables, by its declaring class's name, or by the own class's, which is then the same field -/
def fldB (own : String) (q : Nat × Nat × Nat × Nat) : Bool :=
  decide (q.2.1 < 13) && decide (q.2.2.1 < fN q.2.1) && kdOK q.2.1 q.2.2.1 q.2.2.2 &&
  (gw (Cond.fieldLink own q.1 (cTb q.2.1 q.2.2.1).1 (cTb q.2.1 q.2.2.1).2.1 (cTb q.2.1 q.2.2.1).2.2.1) ||
    (gw (Cond.fieldLink own q.1 own (cTb q.2.1 q.2.2.1).2.1 (cTb q.2.1 q.2.2.1).2.2.1) && gw (Cond.sameField own (cTb q.2.1 q.2.2.1).1 (cTb q.2.1 q.2.2.1).2.1 (cTb q.2.1 q.2.2.1).2.2.1)))
def finB (own : String) (ini : Bool) (ci k : Nat) : Bool := !(cTb ci k).2.2.2 || (ini && decide ((cTb ci k).1 = own))
theorem lk_mem {α : Type} : ∀ {l : List (Nat × α)} {i : Nat} {a : α}, lk l i = some a → (i, a) ∈ l
  | (j, b) :: t, i, a, h => by
    unfold lk at h
    split at h
    · rename_i hj
      cases h
      rw [hj]; exact List.mem_cons_self
    · exact List.mem_cons_of_mem _ (lk_mem h)
/-- all that a walk of a method knows of where it is -/
def Cx (G : GX) (M : MT) (own : String) (ini : Bool) (p : Program) (l : Launch) (R : Room) (s : State) (m : MethodId) (args : Array Value) (meth : Method) (c : Code) (cc : ByteArray) (nL : Nat) : Prop :=
  (p.tables.exec = Jvm.exec ∧ c.code = cc ∧ c.maxLocals = nL ∧ s.vm.findClass own = some m.cls) ∧ (∀ w, gw w = true → w.before args s = true) ∧ Gk G s ∧ meth.locks = false ∧ (∀ q, q < gB G → s.heap[q]? = (gH G)[q]?) ∧
  (R.cells = mMc M ∧ R.slots = mMs M) ∧ mTb M = gT G ∧ l.stackTraces = false ∧ (ini = true → meth.name = "<init>")
section Heaps
variable {p : Program} {l : Launch} {e : Env} {R : Room} {s : State} {m : MethodId} {args : Array Value} {below : List Frame} {meth : Method} {c : Code} {H : Heap} {locs : List Loc} {cells slots : Nat} {Q : State → Prop}
variable {cc : ByteArray} {pc : Nat} {ls : Array Slot} {rest : List Value} {G : GX} {M : MT} {own : String} {ini : Bool} {nL : Nat} {X : AX} {i ci k : Nat}
theorem shp_eq (hR : Rp G X H) (hT : mTb M = gT G) (i : Nat) : shp (mTb M) X i = xS X i := by
  unfold shp
  rw [hT]
  split
  · rename_i s hs; exact (hR.2.2.2.2.1 i s hs).symm
  · rfl
theorem fld_link (hts : ∀ w, gw w = true → w.before args s = true) {idx kd : Nat} (h : fldB own (idx, ci, k, kd) = true) : ci < 13 ∧ k < fN ci ∧ kdOK ci k kd = true ∧
    ∃ ref, (Cond.fieldLink own idx ref (cTb ci k).2.1 (cTb ci k).2.2.1).before args s = true ∧ ∀ x, s.fieldFound? (cTb ci k).1 (cTb ci k).2.1 (cTb ci k).2.2.1 = some x → s.fieldFound? ref (cTb ci k).2.1 (cTb ci k).2.2.1 = some x := by
  simp only [fldB, Bool.and_eq_true, Bool.or_eq_true, decide_eq_true_eq] at h
  obtain ⟨⟨⟨h1, h2⟩, h3⟩, h4 | ⟨h4, h5⟩⟩ := h
  · exact ⟨h1, h2, h3, _, hts _ h4, fun _ q => q⟩
  · exact ⟨h1, h2, h3, _, hts _ h4, fun x q => u_same (hts _ h5) x q⟩
theorem ob_P (hR : Rp G X H) {fl : Nat} (hs : xS X i = (ci + 10, fl)) : va_P (gD G) cls13 [(ad G i, .inr (ci, (List.range (fN ci)).map (fv G X i ci)))] H := by
  obtain ⟨h1, h2⟩ := hR.obj hs
  intro k q hq
  cases k with
  | zero =>
    cases hq
    refine ⟨_, cls_get h1, h2.to fun k hk => ?_⟩
    have hk' : k < fN ci := hk
    simp [vp_V, hk']
  | succ k => cases hq
theorem get_ok (C : Cx G M own ini p l R s m args meth c cc nL) (hR : Rp G X H) {fl : Nat} (hs : xS X i = (ci + 10, fl)) {idx kd : Nat} (hf : fldB own (idx, ci, k, kd) = true) (hd : decode cc pc = .ok (.getfield idx, 3))
    (kk : W p l e R s m args below meth c H locs cells slots Q (F0 m (pc + 3) ls (fv G X i ci k :: rest))) : W p l e R s m args below meth c H locs cells slots Q (F0 m pc ls (.ref (ad G i) :: rest)) := by
  obtain ⟨⟨hx, hb, -, hown⟩, hts, hG, -⟩ := C
  obtain ⟨h1, h2, h3, ref, hlink, hsame⟩ := fld_link hts hf
  exact va_get (D := gD G) (C := cNm ci) (T := cTb ci) (N := fN ci) hx hb (Ts := u_ws (cNm ci) (cTb ci) (fN ci)) (fun w h => hts w (cls_in h1 w h)) (fun _ h => h) hown hG.1 (ob_P hR hs) 0 rfl (cls_get h1) k h2 hlink hsame (by simp [h2]) hd kk
theorem ob_put (C : Cx G M own ini p l R s m args meth c cc nL) (hR : Rp G X H) {fl : Nat} (hs : xS X i = (ci + 10, fl)) {idx kd : Nat} (hf : fldB own (idx, ci, k, kd) = true) (hfin : finB own ini ci k = true) {v : Value} (hn : narrow (fty ci k) v = v) (hfit : fits (fty ci k) v = true)
    (hq : ∀ q ∈ locs, gB G ≤ q.base) (hd : decode cc pc = .ok (.putfield idx, 3))
    (kk : ∀ (H' : Heap) (locs' : List Loc), H'.size = H.size → (∀ q, q ≠ ad G i → H'[q]? = H[q]?) → t_OB (ad G i) ((gD G).1 ci) (fN ci) ((gD G).2 ci) H' (updV (fv G X i ci) k v) → (∀ q ∈ locs', gB G ≤ q.base) →
      W p l e R s m args below meth c H' locs' cells slots Q (F0 m (pc + 3) ls rest)) : W p l e R s m args below meth c H locs cells slots Q (F0 m pc ls (v :: .ref (ad G i) :: rest)) := by
  obtain ⟨⟨hx, hb, -, hown⟩, hts, hG, -, -, -, -, -, hini⟩ := C
  obtain ⟨h1, h2, h3, ref, hlink, hsame⟩ := fld_link hts hf
  have hc := cls_get h1
  have hts0 := hts
  have hts : ∀ w ∈ u_ws (cNm ci) (cTb ci) (fN ci), w.before args s = true := fun w h => hts w (cls_in h1 w h)
  have hin : ∀ w ∈ u_ws (cNm ci) (cTb ci) (fN ci), w ∈ u_ws (cNm ci) (cTb ci) (fN ci) := fun _ h => h
  have hap := va_apart (own := own) hts hin (fty ci) (cls_ty h1) (cls_nm h1) hG.1 hc
  obtain ⟨-, cell, q1, q2, q3, q4⟩ := hR.obj hs
  have h4 := (hR.obj4 hs).1
  obtain ⟨hS, hfc, kC, hkC, hkind⟩ := hG.1.1 ci _ hc
  obtain ⟨cf, kf, fi, f, hi, hsl⟩ := hS k h2
  have hlay := hts _ (hin _ (u_in_lay h2))
  have hst := (u_facts hfc hkC (u_lays hts hin h2) hi).1
  have hlocs : ∀ q ∈ locs ++ [⟨ad G i, f.slot⟩], gB G ≤ q.base := by
    intro q hq'
    rcases List.mem_append.mp hq' with h | h
    · exact hq q h
    · rw [List.mem_singleton.mp h]; exact ad_ge h4
  have hset : ∀ H' : Heap, H'[ad G i]? = some (cell.setSlot f.slot v) → t_OB (ad G i) ((gD G).1 ci) (fN ci) ((gD G).2 ci) H' (updV (fv G X i ci) k v) := by
    intro H' e1
    rw [hsl] at e1
    exact ⟨_, e1, q2, q3, t_set q4 hap h2 v⟩
  unfold u_lay at hlay
  simp only [finB, Bool.or_eq_true, Bool.not_eq_true', Bool.and_eq_true, decide_eq_true_eq] at hfin
  by_cases hfn : (cTb ci k).2.2.2 = true
  · rw [if_pos hfn] at hlay
    rcases hfin with h | ⟨hi1, hdecl⟩
    · rw [h] at hfn; cases hfn
    have hcf : m.cls = cf := by
      obtain ⟨_, _, c', _, _, _, -, -, hf', -, -, -, hown2, -⟩ := Cond.laysFinal_spec hlay
      have e1 : c' = cf := by have := hi.symm.trans hf'; simp at this; exact this.1.symm
      rw [hdecl] at hown2
      rw [← e1]; exact Option.some.inj (hown.symm.trans hown2)
    have h6 := u_fits hfc hkC hkind (Or.inr hlay) hi (cls_ty h1 k h2) hn hfit
    exact W.putFinK hx hb hown hlink (hsame _ hi) hst hcf (hini hi1) (by rw [q2]; exact h6) q1 q3 (by rw [hsl]; exact k2_hasslot (q4 k h2)) rfl rfl hd fun H' e1 e2 e3 => kk H' _ e2 e3 (hset H' e1) hlocs
  · rw [if_neg hfn] at hlay
    have h6 := u_store hfc hkC hkind hlay hi (cls_ty h1 k h2) hn hfit
    exact W.putK hx hb (f := f) ⟨hown, hlink, ⟨_, _, _, hsame _ hi⟩, hst⟩ (by rw [q2]; exact h6) q1 q3 (by rw [hsl]; exact k2_hasslot (q4 k h2)) rfl rfl hd fun H' e1 e2 e3 => kk H' _ e2 e3 (hset H' e1) hlocs
/-- the heap behind a write into an object -/
theorem Rp.putO {X' : AX} {H' : Heap} (hR : Rp G X H) {fl : Nat} (hs : xS X i = (ci + 10, fl)) (hS : xS X' = xS X) (hN : xN X' = xN X) (ho : ∀ j, j ≠ i → xI X' j = xI X j ∧ xJ X' j = xJ X j ∧ xR X' j = xR X j)
    (hz : H'.size = H.size) (hq : ∀ q, q ≠ ad G i → H'[q]? = H[q]?) {v : Value} (hob : t_OB (ad G i) ((gD G).1 ci) (fN ci) ((gD G).2 ci) H' (updV (fv G X i ci) k v)) (hv : ∀ j, updV (fv G X i ci) k v j = fv G X' i ci j)
    (hoff : fl = 1 → ∀ k o, off ci k = some o → xR X' i k = xR X i k) : Rp G X' H' := by
  obtain ⟨h4, hn⟩ := hR.obj4 hs
  have h13 := (hR.obj hs).1
  refine hR.set h4 hS hN ho hz hq ?_ ?_
  · unfold cel
    rw [hS, hs]
    simp only [Nat.add_eq_zero_iff, if_neg (show ¬ (ci = 0 ∧ 10 = 0) by omega), if_neg (show ¬ (ci + 10 < 6) by omega), Nat.add_sub_cancel]
    exact ⟨by omega, h13, hob.to fun j _ => hv j⟩
  · intro c2 hc2
    rw [hs] at hc2
    have e1 : ci = c2 := by have := congrArg Prod.fst hc2; simpa using this
    have e2 : fl = 1 := congrArg Prod.snd hc2
    subst e1
    exact hoff e2
theorem kd_int {kd : Nat} (h : kdOK ci k kd = true) (hk : kd = 0 ∨ kd = 4) : ∀ X : AX, fv G X i ci k = .int (xI X i k) := by
  intro X
  unfold kdOK at h
  unfold fv
  split at h
  · rename_i e; rw [e]
  · rename_i e; rw [e]
  · omega
  · omega
  · omega
  · omega
  · omega
  · cases h
theorem kd_long {kd : Nat} (h : kdOK ci k kd = true) (hk : kd = 1) : ∀ X : AX, fv G X i ci k = .long (xJ X i k) := by
  intro X
  unfold kdOK at h
  unfold fv
  split at h
  · omega
  · omega
  · rename_i e; rw [e]
  · omega
  · omega
  · omega
  · omega
  · cases h
theorem kd_ref {kd : Nat} (h : kdOK ci k kd = true) (hk : kd = 2 ∨ kd = 3) : ∀ X : AX, fv G X i ci k = rv G (xR X i k) := by
  intro X
  unfold kdOK at h
  unfold fv
  split at h
  · omega
  · omega
  · omega
  · rename_i e; rw [e]
  · rename_i e; rw [e]
  · rename_i e; rw [e]
  · rename_i e; rw [e]
  · cases h
end Heaps
