/-! contracts -/
def QcOf (G : GX) (K : Option AV → AX → Prop) : Array Value → State → Outcome → State → Prop := fun _ _ o t => ∃ v X', o = .returned (v.map (cv G)) ∧ K v X' ∧ Rp G X' t.heap
def XcOf (G : GX) (KX : String → AX → Prop) : String → State → State → Prop := fun E _ t => ∃ X', KX E X' ∧ Rp G X' t.heap
def PcOf (G : GX) (as : List AV) (X : AX) : Array Value → State → Prop := va_Pc (as.map (cv G)) (fun U => Gk G U ∧ Rp G X U.heap)
def goodL : List Cond := lw_tbl.filter goodWord
def CT (l : Launch) (G : GX) (y : MethodName) (hd : Cond) (fr lo mc ms : Nat) (as : List AV) (X : AX) (K : Option AV → AX → Prop) (KX : String → AX → Prop) : Prop :=
  vx_Met l y (hd :: goodL) { frames := fr, cells := mc, slots := ms, locals := lo } (PcOf G as X) (QcOf G K) (XcOf G KX) mc ms (fun q => gB G ≤ q)
theorem Pc_blind (G : GX) (as : List AV) (X : AX) : FrameBlind (PcOf G as X) := fun a U g mk h => ⟨h.1, Gk.moved (s := U) (U := U.calling g mk a) (State.WarmedH.refl U) h.2.1, h.2.2⟩
def ini0 : List AV → LT
  | [] => []
  | v :: t => some v :: (if c1 v = true then ini0 t else none :: ini0 t)
def iniL (as : List AV) (n : Nat) : LT := ini0 as ++ List.replicate (n - (ini0 as).length) none
theorem lvl_ini (G : GX) : ∀ (as : List AV) (i : Nat), lvl G i (ini0 as) = lv_args i (as.map (cv G))
  | [], i => rfl
  | v :: t, i => by
    rw [ini0, List.map_cons, lv_args, lvl]
    by_cases h : c1 v = true
    · rw [if_pos h, if_neg (by rw [c1_cat (G := G) h]; omega), lvl_ini G t]
    · rw [if_neg h, if_pos (c1_cat2 h), lvl, lvl_ini G t]
theorem lvl_app (G : GX) : ∀ (L : LT) (i n : Nat), lvl G i (L ++ List.replicate n none) = lvl G i L
  | [], i, 0 => rfl
  | [], i, n + 1 => by
    have := lvl_app G [] (i + 1) n
    rw [List.nil_append] at this ⊢
    rw [List.replicate_succ]
    exact this
  | none :: t, i, n => by rw [List.cons_append, lvl, lvl, lvl_app G t]
  | some v :: t, i, n => by rw [List.cons_append, lvl, lvl, lvl_app G t]
theorem ini0_len (G : GX) : ∀ (as : List AV), (ini0 as).length = (lg_sl (as.map (cv G))).length
  | [] => rfl
  | v :: t => by
    rw [ini0, List.map_cons, lg_sl, List.flatMap_cons, List.length_append]
    have ih := ini0_len G t
    by_cases h : c1 v = true
    · rw [if_pos h, if_neg (by rw [c1_cat (G := G) h]; omega)]
      simp only [List.length_cons, List.length_nil]
      rw [ih]; show _ = _ + (lg_sl _).length; omega
    · rw [if_neg h, if_pos (c1_cat2 h)]
      simp only [List.length_cons, List.length_nil]
      rw [ih]; show _ = _ + (lg_sl _).length; omega
theorem lh_entry (G : GX) (as : List AV) {n : Nat} (h : (ini0 as).length ≤ n) : Lh G ((lg_sl (as.map (cv G)) ++ List.replicate (n - (lg_sl (as.map (cv G))).length) Slot.unset).toArray) n (iniL as n) := by
  refine ⟨?_, ?_⟩
  · simp only [iniL, List.length_append, List.length_replicate]; omega
  · rw [iniL, lvl_app, lvl_ini]
    exact lv_entry _ (by rw [← ini0_len]; exact h)
def rtB (rt : Nat) (ret : Option FieldType) : Bool := match rt, ret with
  | 0, none => true
  | 5, none => true
  | 1, some .int => true
  | 2, some .boolean => true
  | 3, some .long => true
  | 4, some (.object _) => true
  | 4, some (.array _) => true
  | _, _ => false
theorem rt0 {ret : Option FieldType} (h : rtB 0 ret = true) : ret = none := by
  cases ret with
  | none => rfl
  | some t => cases t <;> simp [rtB] at h
theorem rt5 {ret : Option FieldType} (h : rtB 5 ret = true) : ret = none := by
  cases ret with
  | none => rfl
  | some t => cases t <;> simp [rtB] at h
theorem rt1 {ret : Option FieldType} (h : rtB 1 ret = true) : ret = some .int := by
  cases ret with
  | none => simp [rtB] at h
  | some t => cases t <;> first | rfl | (simp [rtB] at h)
theorem rt2 {ret : Option FieldType} (h : rtB 2 ret = true) : ret = some .boolean := by
  cases ret with
  | none => simp [rtB] at h
  | some t => cases t <;> first | rfl | (simp [rtB] at h)
theorem rt3 {ret : Option FieldType} (h : rtB 3 ret = true) : ret = some .long := by
  cases ret with
  | none => simp [rtB] at h
  | some t => cases t <;> first | rfl | (simp [rtB] at h)
theorem rt4 {ret : Option FieldType} (h : rtB 4 ret = true) : ∃ rt, ret = some rt ∧ ((∃ n, rt = .object n) ∨ ∃ t, rt = .array t) := by
  cases ret with
  | none => simp [rtB] at h
  | some t => cases t <;> first | exact ⟨_, rfl, Or.inl ⟨_, rfl⟩⟩ | exact ⟨_, rfl, Or.inr ⟨_, rfl⟩⟩ | (simp [rtB] at h)
theorem Rp.relabel {G : GX} {X : AX} {H : Heap} {i ci : Nat} (hR : Rp G X H) (hs : xS X i = (ci + 10, 0)) (hT : gT G i = none) (hoff : allL (fun q => xR X i q.1 = some (i + q.2)) (offL ci)) : Rp G (madeX X i ci) H := by
  obtain ⟨h4, hn⟩ := hR.obj4 hs
  have hob := hR.obj hs
  obtain ⟨a, b, c, d, e, f⟩ := hR
  refine ⟨a, fun j hj => ?_, fun j hj => ?_, fun j h1 h2 => ?_, fun j s hsj => ?_, fun j c2 h2 k o ho => ?_⟩
  · show u1 (xS X) i (ci + 10, 1) j = (0, 0)
    have hj' : xN X ≤ j := hj
    rw [u1_ne _ _ (by omega)]; exact b j hj
  · show u1 (xS X) i (ci + 10, 1) j = _ ∧ _
    rw [u1_ne _ _ (by omega)]; exact c j hj
  · by_cases hji : j = i
    · subst hji
      unfold cel
      have e9 : xS (madeX X j ci) j = (ci + 10, 1) := u1_at _ _ _
      rw [e9]
      simp only [Nat.add_eq_zero_iff, if_neg (show ¬ (ci = 0 ∧ 10 = 0) by omega), if_neg (show ¬ (ci + 10 < 6) by omega), Nat.add_sub_cancel]
      exact ⟨by omega, hob.1, hob.2⟩
    · exact cel_kept (X := X) (u1_ne _ _ hji) rfl rfl rfl rfl (d j h1 h2)
  · show u1 (xS X) i (ci + 10, 1) j = s
    by_cases hji : j = i
    · subst hji; rw [hT] at hsj; cases hsj
    · rw [u1_ne _ _ hji]; exact e j s hsj
  · have h2 : u1 (xS X) i (ci + 10, 1) j = (c2 + 10, 1) := h2
    show xR X j k = some (j + o)
    by_cases hji : j = i
    · subst hji
      rw [u1_at] at h2
      have e1 : ci = c2 := by have := congrArg Prod.fst h2; simpa using this
      subst e1
      exact allL_mem hoff (k, o) (lk_mem ho)
    · rw [u1_ne _ _ hji] at h2; exact f j c2 h2 k o ho
section CT
variable {p : Program} {l : Launch} {e : Env} {R : Room} {s : State} {m : MethodId} {args : Array Value} {below : List Frame} {meth : Method} {c : Code}
variable {cc : ByteArray} {G : GX} {M : MT} {own : String} {ini : Bool} {nL : Nat} {K : Option AV → AX → Prop} {KX : String → AX → Prop}
set_option maxHeartbeats 4000000 in
theorem ret_ok (C : Cx G M own ini p l R s m args meth c cc nL) {ret : Option FieldType} (hr : meth.sig.returnType = ret) (hrt : rtB (mRt M) ret = true) {pc len : Nat} {ins : Instr} (hd : decode cc pc = .ok (ins, len)) (hlen : len = 1) {L : LT} {st : List AV} {X : AX} {k z : Nat} (h : retF M ins L st X K) : Ws G p l e R s m args below meth c nL (vx_MQ below (QcOf G K) (XcOf G KX) args s (mMc M) (mMs M) (fun q => gB G ≤ q)) pc L st X k z := by
  intro H locs ls hR hq hL hk hz
  obtain ⟨⟨hx, hb, -, -⟩, -, -, hlocks, -, ⟨hRc, hRs⟩, hTb, -⟩ := C
  subst hlen
  refine vx_ret (W.widen (k := mMc M) (n := mMs M) (by omega) (by omega) ?_)
  unfold retF at h
  split at h
  · rename_i e1
    have hr0 : meth.sig.returnType = none := by rw [e1] at hrt; rw [hr]; exact rt0 hrt
    exact W.vret hx hb hr0 (fun t ht hW => ⟨none, X, rfl, h, by rw [ht]; exact hR⟩) hq hd hlocks
  · rename_i e1
    have hr0 : meth.sig.returnType = none := by rw [e1] at hrt; rw [hr]; exact rt5 hrt
    split at h
    · rename_i i hi
      obtain ⟨hT, ci, hs, ho, hK⟩ := gd_use h
      rw [shp_eq hR hTb] at hs
      rw [hTb] at hT
      exact W.vret hx hb hr0 (fun t ht hW => ⟨none, _, rfl, hK, by rw [ht]; exact hR.relabel hs hT ho⟩) hq hd hlocks
    · exact h.elim
  · rename_i v e1
    have hr0 : meth.sig.returnType = some .int := by rw [e1] at hrt; rw [hr]; exact rt1 hrt
    exact W.iret hx hb hr0 (fun t ht hW => ⟨some (vI v), X, rfl, h, by rw [ht]; exact hR⟩) hq hd hlocks
  · rename_i v e1
    have hr0 : meth.sig.returnType = some .boolean := by rw [e1] at hrt; rw [hr]; exact rt2 hrt
    exact W.zret hx hb hr0 (nar_bool h.1) (fun t ht hW => ⟨some (vI v), X, rfl, h.2, by rw [ht]; exact hR⟩) hq hd hlocks
  · rename_i v e1
    have hr0 : meth.sig.returnType = some .long := by rw [e1] at hrt; rw [hr]; exact rt3 hrt
    exact W.lret hx hb hr0 (fun t ht hW => ⟨some (vL v), X, rfl, h, by rw [ht]; exact hR⟩) hq hd hlocks
  · rename_i r e1
    obtain ⟨rt, hr0, hrt2⟩ : ∃ rt, meth.sig.returnType = some rt ∧ ((∃ n, rt = .object n) ∨ ∃ t, rt = .array t) := by
      rw [e1] at hrt; rw [hr]; exact rt4 hrt
    exact W.aret hx hb hr0 hrt2 (by cases r with | none => exact Or.inl rfl | some a => exact Or.inr ⟨_, rfl⟩) (fun t ht hW => ⟨some (vR r), X, rfl, h, by rw [ht]; exact hR⟩) hq hd hlocks
  · exact h.elim
end CT
