/-! calls -/
abbrev WP : Type := List AV → AX → (Option AV → AX → Prop) → (String → AX → Prop) → Prop
def avc (v : AV) : Nat := if c1 v = true then 1 else 2
def rV (v : Option AV) (f : Prop) : Prop := match v with
  | none => f
  | _ => False
def rI (v : Option AV) (f : Int32 → Prop) : Prop := match v with
  | some (.inl x) => f x
  | _ => False
def rL (v : Option AV) (f : Int64 → Prop) : Prop := match v with
  | some (.inr (.inl x)) => f x
  | _ => False
def rR (v : Option AV) (f : Option Nat → Prop) : Prop := match v with
  | some (.inr (.inr (.inr x))) => f x
  | _ => False
/-- what came back, by its kind -/
def resK (rk : Nat) (rest : List AV) (N : List AV → Prop) (v : Option AV) : Prop := match rk with
  | 0 => rV v (N rest)
  | 1 => rI v fun x => N (vI x :: rest)
  | 3 => rL v fun x => N (vL x :: rest)
  | _ => rR v fun x => N (vR x :: rest)
theorem resK_use {rk : Nat} {rest : List AV} {N : List AV → Prop} {v : Option AV} (h : resK rk rest N v) : N (v.toList ++ rest) := by
  unfold resK at h
  split at h
  · unfold rV at h; split at h
    · exact h
    · exact h.elim
  · unfold rI at h; split at h
    · exact h
    · exact h.elim
  · unfold rL at h; split at h
    · exact h
    · exact h.elim
  · unfold rR at h; split at h
    · exact h
    · exact h.elim
/-- a static call -/
def ivS (Mc Ms na mc ms rk : Nat) (w : WP) : IV := fun st X k z N HX =>
  gd (na ≤ st.length ∧ ((st.drop na).map avc).sum ≤ 8 ∧ k + mc ≤ Mc ∧ z + ms ≤ Ms) (w (st.take na).reverse X (fun v X' => resK rk (st.drop na) (fun st' => N st' X' (k + mc) (z + ms)) v) (fun E X' => HX E X' (k + mc) (z + ms)))
/-- a call of an object of a known shape -/
def ivV (tb : Nat → Option (Nat × Nat)) (ci Mc Ms na mc ms rk : Nat) (w : WP) : IV := fun st X k z N HX => match st.drop na with
  | .inr (.inr (.inr r)) :: rest => onSome r fun i => gd ((shp tb X i).1 = ci + 10) (gd ((rest.map avc).sum ≤ 8 ∧ k + mc ≤ Mc ∧ z + ms ≤ Ms) (w (vR (some i) :: (st.take na).reverse) X (fun v X' => resK rk rest (fun st' => N st' X' (k + mc) (z + ms)) v) (fun E X' => HX E X' (k + mc) (z + ms))))
  | _ => False
/-- a constructor; the shape isn't looked at -/
def ivI (Mc Ms na mc ms rk : Nat) (w : WP) : IV := fun st X k z N _ => match st.drop na with
  | .inr (.inr (.inr r)) :: rest => onSome r fun i => gd ((rest.map avc).sum ≤ 8 ∧ k + mc ≤ Mc ∧ z + ms ≤ Ms) (w (vR (some i) :: (st.take na).reverse) X (fun v X' => resK rk rest (fun st' => N st' X' (k + mc) (z + ms)) v) (fun _ _ => False))
  | _ => False
/-- Object's constructor -/
def ivO : IV := fun st X k z N _ => match st with
  | .inr (.inr (.inr r)) :: rest => onSome r fun _ => gd ((rest.map avc).sum ≤ 8) (N rest X k z)
  | _ => False
/-- Math.min, max -/
def ivM2 (f : Int32 → Int32 → Int32) : IV := fun st X k z N _ => match st with
  | .inl y :: .inl x :: rest => gd ((rest.map avc).sum ≤ 8) (N (vI (f x y) :: rest) X k z)
  | _ => False
def ivML (f : Int64 → Int64 → Int64) : IV := fun st X k z N _ => match st with
  | .inr (.inl y) :: .inr (.inl x) :: rest => gd ((rest.map avc).sum ≤ 8) (N (vL (f x y) :: rest) X k z)
  | _ => False
theorem avc_cat (G : GX) (l : List AV) : ((l.map (cv G)).map fun v => v.category).sum = (l.map avc).sum := by
  rw [List.map_map]
  congr 1
  refine List.map_congr_left fun v _ => ?_
  show (cv G v).category = avc v
  unfold avc
  by_cases h : c1 v = true
  · rw [if_pos h]; exact c1_cat h
  · rw [if_neg h]; exact c1_cat2 h
theorem map_rev (G : GX) (l : List AV) : (l.map (cv G)).reverse = l.reverse.map (cv G) := by rw [List.map_reverse]
section Iv
variable {p : Program} {l : Launch} {e : Env} {R : Room} {s : State} {m : MethodId} {args : Array Value} {below : List Frame} {meth : Method} {c : Code} {Q : State → Prop}
variable {cc : ByteArray} {G : GX} {M : MT} {own : String} {ini : Bool} {nL : Nat}
/-- behind a call that returns or throws -/
theorem run_ok {H : Heap} {locs : List Loc} {k z mc ms pc : Nat} {ls : Array Slot} {L : LT} {st0 : List Value} {rest : List AV} {K : Option AV → AX → Prop} {KX : String → AX → Prop} {aa : Array Value} {C : Cx G M own ini p l R s m args meth c cc nL}
    (hr : vx_Run p l e R s m args below meth c H locs k z mc ms (F0 m pc ls st0) (rest.map (cv G)) (QcOf G K aa) (XcOf G KX) (fun q => gB G ≤ q)) (hq : ∀ q ∈ locs, gB G ≤ q.base) (hL : Lh G ls nL L) (hk : k + mc ≤ R.cells) (hz : z + ms ≤ R.slots)
    (hK : ∀ v X', K v X' → Ws G p l e R s m args below meth c nL Q (pc + 3) L (v.toList ++ rest) X' (k + mc) (z + ms)) (hKX : ∀ E X', KX E X' → WsX G p l e R s m args below meth c nL Q pc L E X' (k + mc) (z + ms)) :
    W p l e R s m args below meth c H locs k z Q (F0 m pc ls st0) := by
  intro T hT X
  rcases hr T hT X with ⟨v, st₀, t, T', L', h0, X', hL', e1, e2, ⟨v', X1, hv, hk1, hR1⟩, st⟩ | ⟨q, st₀, t, T', L', E, ce, h0, X', hL', e1, e2, ⟨X1, hk1, hR1⟩, hce, hcv, hcl, st⟩
  · have hv : v = v'.map (cv G) := Outcome.returned.inj hv
    subst hv
    have hw := hK v' X1 hk1 T'.heap (locs ++ L') ls (by rw [e1]; exact hR1) (fun q h => (List.mem_append.mp h).elim (hq q) (hL' q)) hL hk hz
    have es : (v'.toList ++ rest).map (cv G) = (v'.map (cv G)).toList ++ rest.map (cv G) := by cases v' <;> simp
    rw [es] at hw
    obtain ⟨t2, a1, b1⟩ := hw T' rfl X'
    exact ⟨t2, st t2 a1, b1⟩
  · obtain ⟨t2, a1, b1⟩ := hKX E X1 hk1 T'.heap (locs ++ L') ls (rest.map (cv G)) q ce (by rw [e1]; exact hR1) (fun q h => (List.mem_append.mp h).elim (hq q) (hL' q)) hL hk hz (by rw [e1]; exact hce) hcv hcl T' rfl X'
    exact ⟨t2, st.trans a1, b1⟩
/-- behind a call that only returns -/
theorem runM_ok {H : Heap} {locs : List Loc} {k z mc ms pc : Nat} {ls : Array Slot} {L : LT} {st0 : List Value} {rest : List AV} {K : Option AV → AX → Prop} {aa : Array Value}
    (hr : va_Run p l e R s m args below meth c H locs k z mc ms (F0 m pc ls st0) (rest.map (cv G)) (QcOf G K aa) (fun q => gB G ≤ q)) (hq : ∀ q ∈ locs, gB G ≤ q.base) (hL : Lh G ls nL L) (hk : k + mc ≤ R.cells) (hz : z + ms ≤ R.slots)
    (hK : ∀ v X', K v X' → Ws G p l e R s m args below meth c nL Q (pc + 3) L (v.toList ++ rest) X' (k + mc) (z + ms)) :
    W p l e R s m args below meth c H locs k z Q (F0 m pc ls st0) := by
  intro T hT X
  obtain ⟨v, st₀, t, T', L', h0, X', hL', e1, e2, ⟨v', X1, hv, hk1, hR1⟩, st⟩ := hr T hT X
  have hv : v = v'.map (cv G) := Outcome.returned.inj hv
  subst hv
  have hw := hK v' X1 hk1 T'.heap (locs ++ L') ls (by rw [e1]; exact hR1) (fun q h => (List.mem_append.mp h).elim (hq q) (hL' q)) hL hk hz
  have es : (v'.toList ++ rest).map (cv G) = (v'.map (cv G)).toList ++ rest.map (cv G) := by cases v' <;> simp
  rw [es] at hw
  obtain ⟨t2, a1, b1⟩ := hw T' rfl X'
  exact ⟨t2, st t2 a1, b1⟩
/-- a contract without throws is one of the kit's plain ones -/
theorem CT.met {y : MethodName} {hd : Cond} {fr lo mc ms : Nat} {as : List AV} {X : AX} {K : Option AV → AX → Prop} (h : CT l G y hd fr lo mc ms as X K (fun _ _ => False)) : Met l y (hd :: goodL) { frames := fr, cells := mc, slots := ms, locals := lo } (PcOf G as X) (QcOf G K) mc ms (fun q => gB G ≤ q) := by
  intro p e ha hc hk s m args below hf happ hP hK
  obtain ⟨n, o, h1, h2, h3, h4⟩ := h p e ha hc hk s m args below hf happ hP hK
  refine ⟨n, o, h1, h2, h3, ?_⟩
  rcases h4 with h4 | ⟨q, -, E, ce, L, ⟨X', hF, -⟩, -⟩
  · exact h4
  · exact hF.elim
theorem goodL_ok (hts : ∀ w, gw w = true → w.before args s = true) {hd : Cond} (hh : gw hd = true) : ∀ w ∈ hd :: goodL, ∀ (a' : Array Value) (U : State), s.WarmedH U.vm → w.before a' U = true := by
  intro w hw a' U hW
  have hg : gw w = true := by
    rcases List.mem_cons.mp hw with rfl | hw
    · exact hh
    · obtain ⟨h1, h2⟩ := List.mem_filter.mp hw
      simp [gw, h1, h2]
  have hg2 := hg
  simp only [gw, Bool.and_eq_true] at hg2
  exact word_at hW (good_of_word hg2.2) (hts w hg)
def plainY (y : MethodName) (n : Nat) : Bool := decide (y.cls ≠ "java/lang/invoke/MethodHandle") && decide (y.cls ≠ "java/lang/invoke/VarHandle") && decide ((parseMethodDescriptor y.desc).map (fun d => d.parameters.length) = some n)
def roomB (R : Room) (maxL fr lo : Nat) : Bool := decide (fr + 1 ≤ R.frames) && decide (8 + (maxL + 11) + lo ≤ R.locals)
theorem callB_ok (hts : ∀ w, gw w = true → w.before args s = true) {y : MethodName} {bytes : ByteArray} {maxL : Nat} {ret : Option FieldType} {fr lo mc ms n idx : Nat} (hc : gw (.code y bytes maxL ret) = true) (hi : gw (.initialized y.cls) = true) (hl : gw (.methodLink own idx y) = true) (hp : plainY y n = true) (hR : roomB R maxL fr lo = true) :
    CallB R s args own idx y bytes maxL ret (.code y bytes maxL ret :: goodL) { frames := fr, cells := mc, slots := ms, locals := lo } mc ms n := by
  simp only [plainY, Bool.and_eq_true, decide_eq_true_eq] at hp
  simp only [roomB, Bool.and_eq_true, decide_eq_true_eq] at hR
  exact ⟨rfl, rfl, hR.1, hR.2, goodL_ok hts hc, List.mem_cons_self, hts _ hc, hts _ hi, ⟨hp.1.1, hp.1.2⟩, fun sig h => by have h2 := hp.2; rw [h] at h2; exact (Option.some.inj h2).symm, hts _ hl⟩
theorem preS_ok {H : Heap} {X : AX} (hG : Gk G s) (hR : Rp G X H) (as : List AV) : PreS s H (PcOf G as X) (as.map (cv G)) := ⟨Pc_blind G as X, fun U hU hW => ⟨rfl, hG.moved hW, by rw [hU]; exact hR⟩⟩
theorem preV_ok {H : Heap} {X : AX} (hG : Gk G s) (hR : Rp G X H) {i ci fl : Nat} (hs : xS X i = (ci + 10, fl)) (as : List AV) : PreV s H (cNm ci) (ad G i) (PcOf G (vR (some i) :: as) X) (as.map (cv G)) := by
  refine ⟨Pc_blind G _ X, ?_, fun U hU hW => ⟨rfl, hG.moved hW, by rw [hU]; exact hR⟩⟩
  obtain ⟨h13, cell, q1, q2, q3, -⟩ := hR.obj hs
  exact ⟨cell, q1, by rw [q3]; rfl, by rw [q2]; exact (hG.1.1 ci _ (cls_get h13)).2.1⟩
set_option maxHeartbeats 4000000 in
theorem ivS_ok {y : MethodName} {bytes : ByteArray} {maxL : Nat} {ret : Option FieldType} {fr lo mc ms na idx rk : Nat} {w : WP} (hw : ∀ as X K KX, w as X K KX → CT l G y (.code y bytes maxL ret) fr lo mc ms as X K KX)
    (h1 : gw (.code y bytes maxL ret) = true) (h2 : gw (.initialized y.cls) = true) (h3 : gw (.methodLink own idx y) = true) (h4 : gw (.static y) = true) (h5 : plainY y na = true) (h6 : roomB R maxL fr lo = true) :
    IvOK G l R M own ini (4 * idx + 2) (ivS (mMc M) (mMs M) na mc ms rk w) := by
  intro p e s m args below meth c cc nL Q C pc hd L st X k z N HX h hN hX H locs ls hR hq hL hk hz
  obtain ⟨⟨g1, g2, g3, g4⟩, h⟩ := gd_use h
  obtain ⟨⟨hx, hb, hml, hown⟩, hts, hG, -, -, ⟨hRc, hRs⟩, -⟩ := id C
  rw [ivIns_t] at hd
  refine run_ok (C := C) (rest := st.drop na) (L := L) (vx_runS (As := (st.take na).reverse.map (cv G)) (Ts := []) (own := own) (cc := cc) (nL := nL) ⟨hx, hb, hml, hown, fun _ h => by cases h⟩ (hw _ _ _ _ h) ⟨callB_ok hts h1 h2 h3 h5 h6, hts _ h4⟩ (preS_ok hG hR _) rfl ?_ hL.2.1 ?_ ?_ hd ⟨by omega, by omega⟩) hq hL (by omega) (by omega) (fun v X' hv => hN _ _ _ _ (resK_use hv)) (fun E X' hE => hX _ _ _ _ hE)
  · simp only [List.length_map, List.length_reverse, List.length_take]; omega
  · show st.map (cv G) = _
    rw [map_rev, List.reverse_reverse, ← List.map_append, List.take_append_drop]
  · show 2 * 0 + _ ≤ 8
    rw [avc_cat]; omega
set_option maxHeartbeats 4000000 in
theorem ivV_ok {y : MethodName} {bytes : ByteArray} {maxL : Nat} {ret : Option FieldType} {fr lo mc ms na idx ci rk : Nat} {w : WP} (hw : ∀ as X K KX, w as X K KX → CT l G y (.code y bytes maxL ret) fr lo mc ms as X K KX)
    (h1 : gw (.code y bytes maxL ret) = true) (h2 : gw (.initialized y.cls) = true) (h3 : gw (.methodLink own idx y) = true) (h4 : gw (.instanceMethod y) = true) (h5 : plainY y na = true) (h6 : roomB R maxL fr lo = true) (h7 : gw (.selects (cNm ci) y y) = true) :
    IvOK G l R M own ini (4 * idx) (ivV (mTb M) ci (mMc M) (mMs M) na mc ms rk w) := by
  intro p e s m args below meth c cc nL Q C pc hd L st X k z N HX h hN hX H locs ls hR hq hL hk hz
  unfold ivV at h
  split at h
  · rename_i r rest hst
    obtain ⟨i, rfl, h⟩ := onSome_use h
    obtain ⟨g0, h⟩ := gd_use h
    obtain ⟨⟨g2, g3, g4⟩, h⟩ := gd_use h
    rw [shp_eq hR C.2.2.2.2.2.2.1] at g0
    obtain ⟨⟨hx, hb, hml, hown⟩, hts, hG, -, -, ⟨hRc, hRs⟩, -⟩ := id C
    rw [ivIns_v] at hd
    have hst2 : st = st.take na ++ (vR (some i) :: rest) := by rw [← hst, List.take_append_drop]
    have hlen : na ≤ st.length := by
      rcases Nat.lt_or_ge st.length na with q | q
      · rw [List.drop_eq_nil_of_le (Nat.le_of_lt q)] at hst; cases hst
      · exact q
    refine run_ok (C := C) (rest := rest) (L := L) (vx_runV (C := cNm ci) (b := ad G i) (As := (st.take na).reverse.map (cv G)) (Ts := []) (own := own) (cc := cc) (nL := nL) ⟨hx, hb, hml, hown, fun _ h => by cases h⟩ (hw _ _ _ _ h) ⟨callB_ok hts h1 h2 h3 h5 h6, hts _ h4, hts _ h7⟩ (preV_ok hG hR (fl := (xS X i).2) (by rw [← g0]) _) rfl ?_ hL.2.1 ?_ ?_ hd ⟨by omega, by omega⟩) hq hL (by omega) (by omega) (fun v X' hv => hN _ _ _ _ (resK_use hv)) (fun E X' hE => hX _ _ _ _ hE)
    · simp only [List.length_map, List.length_reverse, List.length_take]; omega
    · show st.map (cv G) = _
      rw [map_rev, List.reverse_reverse]
      conv => lhs; rw [hst2]
      rw [List.map_append]; rfl
    · show 2 * 0 + _ ≤ 8
      rw [avc_cat]; omega
  · exact h.elim
end Iv
theorem tab_sub {F : List (Nat × Nat × Nat × Nat)} {Cs : List (Nat × AV)} {St : List (Nat × Nat)} {Nw Nw' : List (Nat × (Nat ⊕ String))} {own : String} (h : tabB F Cs St Nw own = true) (hs : ∀ q ∈ Nw', q ∈ Nw) : tabB F Cs St Nw' own = true := by
  simp only [tabB, Bool.and_eq_true] at h ⊢
  exact ⟨h.1, List.all_eq_true.mpr fun q hq => List.all_eq_true.mp h.2 q (hs q hq)⟩
