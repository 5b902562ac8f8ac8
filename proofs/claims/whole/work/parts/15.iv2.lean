/-! more calls -/
/-- by the receiver's shape -/
def dsp (c : Nat) (f : WP → Prop) : List (Nat × WP) → Prop
  | [] => False
  | (ci, w) :: t => (c = ci + 10 → f w) ∧ (¬ c = ci + 10 → dsp c f t)
def ivD (tb : Nat → Option (Nat × Nat)) (na rk : Nat) (alts : List (Nat × WP)) : IV := fun st X k z N _ => match st.drop na with
  | .inr (.inr (.inr r)) :: rest => onSome r fun i => gd ((rest.map avc).sum ≤ 8) (dsp (shp tb X i).1 (fun w => w (vR (some i) :: (st.take na).reverse) X (fun v X' => resK rk rest (fun st' => N st' X' k z) v) (fun _ _ => False)) alts)
  | _ => False
/-- a method of the class above -/
def ivU (tb : Nat → Option (Nat × Nat)) (Mc Ms na mc ms rk : Nat) (w : WP) : IV := fun st X k z N _ => match st.drop na with
  | .inr (.inr (.inr r)) :: rest => onSome r fun i => gd (10 ≤ (shp tb X i).1) (gd ((rest.map avc).sum ≤ 8 ∧ k + mc ≤ Mc ∧ z + ms ≤ Ms) (w (vR (some i) :: (st.take na).reverse) X (fun v X' => resK rk rest (fun st' => N st' X' (k + mc) (z + ms)) v) (fun _ _ => False)))
  | _ => False
def ivSN (Mc Ms na mc ms rk : Nat) (w : WP) : IV := fun st X k z N _ =>
  gd (na ≤ st.length ∧ ((st.drop na).map avc).sum ≤ 8 ∧ k + mc ≤ Mc ∧ z + ms ≤ Ms) (w (st.take na).reverse X (fun v X' => resK rk (st.drop na) (fun st' => N st' X' (k + mc) (z + ms)) v) (fun _ _ => False))
section Iv2
variable {l : Launch} {R : Room} {G : GX} {M : MT} {own : String} {ini : Bool}
theorem cat8 {G : GX} {rest : List AV} (h : (rest.map avc).sum ≤ 8) : 2 * 0 + ((rest.map (cv G)).map fun v => v.category).sum ≤ 8 := by rw [avc_cat]; omega
theorem w_oi : gw (.instanceMethod objectInit) = true ∧ gw (.code objectInit ⟨#[0xb1]⟩ 1 none) = true := by decide +kernel
theorem w_min : gw (.static Lib.Math.min.name) = true ∧ gw (.initialized "java/lang/Math") = true ∧ gw (.code Lib.Math.min.name Lib.Math.min.code 2 (some .int)) = true := by decide +kernel
theorem w_max : gw (.static Lib.Math.max.name) = true ∧ gw (.code Lib.Math.max.name Lib.Math.max.code 2 (some .int)) = true := by decide +kernel
theorem w_minL : gw (.static Lib.MathLoose.min_long.x) = true ∧ gw (.code Lib.MathLoose.min_long.x Lib.MathLoose.min_long.code 4 (some .long)) = true := by decide +kernel
def roomO (R : Room) (n : Nat) : Bool := decide (1 ≤ R.frames) && decide (8 + n ≤ R.locals)
theorem roomO_use {R : Room} {n : Nat} (h : roomO R n = true) : 1 ≤ R.frames ∧ 8 + n ≤ R.locals := by simpa [roomO] using h
theorem ivO_ok {idx : Nat} (h3 : gw (.methodLink own idx objectInit) = true) (h6 : roomO R 12 = true) : IvOK G l R M own ini (4 * idx + 1) ivO := by
  intro p e s m args below meth c cc nL Q C pc hd L st X k z N HX h hN hX H locs ls hR hq hL hk hz
  unfold ivO at h
  split at h
  · obtain ⟨i, rfl, h⟩ := onSome_use h
    obtain ⟨h8, h⟩ := gd_use h
    obtain ⟨⟨hx, hb, hml, hown⟩, hts, -⟩ := C
    rw [ivIns_s] at hd
    have hr := roomO_use h6
    have hc8 := cat8 (G := G) h8
    exact W.objInit hx hb hown (hts _ h3) (hts _ w_oi.1) (hts _ w_oi.2) rfl (by rw [hml]; exact hL.2.1) rfl hd hr.1 (by show 2 * 0 + _ + 12 ≤ _; omega) (hN _ _ _ _ h H locs ls hR hq hL hk hz)
  · exact h.elim
theorem ivMin_ok {idx : Nat} (h3 : gw (.methodLink own idx Lib.Math.min.name) = true) (h6 : roomO R 15 = true) : IvOK G l R M own ini (4 * idx + 2) (ivM2 (fun x y => if y < x then y else x)) := by
  intro p e s m args below meth c cc nL Q C pc hd L st X k z N HX h hN hX H locs ls hR hq hL hk hz
  unfold ivM2 at h
  split at h
  · obtain ⟨h8, h⟩ := gd_use h
    obtain ⟨⟨hx, hb, hml, hown⟩, hts, -⟩ := C
    rw [ivIns_t] at hd
    have hr := roomO_use h6
    have hc8 := cat8 (G := G) h8
    exact va_mmin hx hb (by rw [hml]; exact hL.2.1.symm) hown (hts _ h3) (hts _ w_min.1) (hts _ w_min.2.1) (hts _ w_min.2.2) hr.1 (by omega) hk hz hd (hN _ _ _ _ h H locs ls hR hq hL hk hz)
  · exact h.elim
theorem ivMax_ok {idx : Nat} (h3 : gw (.methodLink own idx Lib.Math.max.name) = true) (h6 : roomO R 15 = true) : IvOK G l R M own ini (4 * idx + 2) (ivM2 (fun x y => if x < y then y else x)) := by
  intro p e s m args below meth c cc nL Q C pc hd L st X k z N HX h hN hX H locs ls hR hq hL hk hz
  unfold ivM2 at h
  split at h
  · obtain ⟨h8, h⟩ := gd_use h
    obtain ⟨⟨hx, hb, hml, hown⟩, hts, -⟩ := C
    rw [ivIns_t] at hd
    have hr := roomO_use h6
    have hc8 := cat8 (G := G) h8
    exact va_mmax hx hb (by rw [hml]; exact hL.2.1.symm) hown (hts _ h3) (hts _ w_max.1) (hts _ w_min.2.1) (hts _ w_max.2) hr.1 (by omega) hk hz hd (hN _ _ _ _ h H locs ls hR hq hL hk hz)
  · exact h.elim
theorem ivMinL_ok {idx : Nat} (h3 : gw (.methodLink own idx Lib.MathLoose.min_long.x) = true) (h6 : roomO R 15 = true) : IvOK G l R M own ini (4 * idx + 2) (ivML (fun x y => if y < x then y else x)) := by
  intro p e s m args below meth c cc nL Q C pc hd L st X k z N HX h hN hX H locs ls hR hq hL hk hz
  unfold ivML at h
  split at h
  · obtain ⟨h8, h⟩ := gd_use h
    obtain ⟨⟨hx, hb, hml, hown⟩, hts, -⟩ := C
    rw [ivIns_t] at hd
    have hr := roomO_use h6
    have hc8 := cat8 (G := G) h8
    exact va_mmin_long hx hb (by rw [hml]; exact hL.2.1.symm) hown (hts _ h3) (hts _ w_minL.1) (hts _ w_min.2.1) (hts _ w_minL.2) hr.1 (by omega) hk hz hd (hN _ _ _ _ h H locs ls hR hq hL hk hz)
  · exact h.elim
theorem drop_len {α : Type} {st : List α} {na : Nat} {a : α} {t : List α} (h : st.drop na = a :: t) : na ≤ st.length := by
  rcases Nat.lt_or_ge st.length na with q | q
  · rw [List.drop_eq_nil_of_le (Nat.le_of_lt q)] at h; cases h
  · exact q
theorem stack_eq {st : List AV} {na i : Nat} {rest : List AV} (hst : st.drop na = vR (some i) :: rest) : st.map (cv G) = ((st.take na).reverse.map (cv G)).reverse ++ Value.ref (ad G i) :: rest.map (cv G) := by
  rw [map_rev, List.reverse_reverse]
  conv => lhs; rw [show st = st.take na ++ (vR (some i) :: rest) by rw [← hst, List.take_append_drop]]
  rw [List.map_append]; rfl
theorem take_len {st : List AV} {na : Nat} (h : na ≤ st.length) : ((st.take na).reverse.map (cv G)).length = na := by
  simp only [List.length_map, List.length_reverse, List.length_take]; omega
set_option maxHeartbeats 4000000 in
theorem ivI_ok {y : MethodName} {bytes : ByteArray} {maxL : Nat} {fr lo mc ms na idx rk : Nat} {w : WP} (hw : ∀ as X K KX, w as X K KX → CT l G y (.code y bytes maxL none) fr lo mc ms as X K KX)
    (h1 : gw (.code y bytes maxL none) = true) (h2 : gw (.initialized y.cls) = true) (h3 : gw (.methodLink own idx y) = true) (h4 : gw (.instanceMethod y) = true) (h5 : plainY y na = true) (h6 : roomB R maxL fr lo = true) (h7 : y.name = "<init>") :
    IvOK G l R M own ini (4 * idx + 1) (ivI (mMc M) (mMs M) na mc ms rk w) := by
  intro p e s m args below meth c cc nL Q C pc hd L st X k z N HX h hN hX H locs ls hR hq hL hk hz
  unfold ivI at h
  split at h
  · rename_i r rest hst
    obtain ⟨i, rfl, h⟩ := onSome_use h
    obtain ⟨⟨g2, g3, g4⟩, h⟩ := gd_use h
    obtain ⟨⟨hx, hb, hml, hown⟩, hts, hG, -, -, ⟨hRc, hRs⟩, -⟩ := id C
    rw [ivIns_s] at hd
    exact runM_ok (rest := rest) (L := L) (va_runI (b := ad G i) (As := (st.take na).reverse.map (cv G)) (Ts := []) (own := own) (cc := cc) (nL := nL) ⟨hx, hb, hml, hown, fun _ h => by cases h⟩ (hw _ _ _ _ h).met ⟨callB_ok hts h1 h2 h3 h5 h6, h7, hts _ h4⟩ (preS_ok hG hR (vR (some i) :: (st.take na).reverse)) rfl (take_len (drop_len hst)) hL.2.1 (stack_eq hst) (cat8 g2) hd ⟨by omega, by omega⟩) hq hL (by omega) (by omega) (fun v X' hv => hN _ _ _ _ (resK_use hv))
  · exact h.elim
set_option maxHeartbeats 4000000 in
theorem ivU_ok {y : MethodName} {bytes : ByteArray} {maxL : Nat} {ret : Option FieldType} {fr lo mc ms na idx rk : Nat} {w : WP} (hw : ∀ as X K KX, w as X K KX → CT l G y (.code y bytes maxL ret) fr lo mc ms as X K KX)
    (h1 : gw (.code y bytes maxL ret) = true) (h2 : gw (.initialized y.cls) = true) (h3 : gw (.methodLink own idx y) = true) (h4 : gw (.instanceMethod y) = true) (h5 : plainY y na = true) (h6 : roomB R maxL fr lo = true) (h7 : gw (.sameMethod y.cls y.cls y.name y.desc) = true) (h8 : gw (.superclass own y.cls) = true) (h9 : y.name ≠ "<init>") :
    IvOK G l R M own ini (4 * idx + 1) (ivU (mTb M) (mMc M) (mMs M) na mc ms rk w) := by
  intro p e s m args below meth c cc nL Q C pc hd L st X k z N HX h hN hX H locs ls hR hq hL hk hz
  unfold ivU at h
  split at h
  · rename_i r rest hst
    obtain ⟨i, rfl, h⟩ := onSome_use h
    obtain ⟨g0, h⟩ := gd_use h
    obtain ⟨⟨g2, g3, g4⟩, h⟩ := gd_use h
    rw [shp_eq hR C.2.2.2.2.2.2.1] at g0
    obtain ⟨⟨hx, hb, hml, hown⟩, hts, hG, -, -, ⟨hRc, hRs⟩, -⟩ := id C
    rw [ivIns_s] at hd
    obtain ⟨ci, hci⟩ : ∃ ci, (xS X i).1 = ci + 10 := ⟨(xS X i).1 - 10, by omega⟩
    have hs : xS X i = (ci + 10, (xS X i).2) := by rw [← hci]
    have h13 := (hR.obj hs).1
    have hB := callB_ok (R := R) (fr := fr) (lo := lo) (mc := mc) (ms := ms) (n := na) hts h1 h2 h3 h5 h6
    exact runM_ok (rest := rest) (L := L) (va_runSU (C := cNm ci) (b := ad G i) (As := (st.take na).reverse.map (cv G)) (Ts := []) (own := own) (cc := cc) (nL := nL) (hG.1.1 ci _ (cls_get h13)).2 ⟨hx, hb, hml, hown, fun _ h => by cases h⟩ (hw _ _ _ _ h).met ⟨⟨hB.1, hB.2.1, hB.2.2.1, hB.2.2.2.1, hB.2.2.2.2.1, hB.2.2.2.2.2.1⟩, hts _ h3, hts _ h7, hts _ h8, hts _ h4, hts _ h2, hts _ h1, h9, hB.2.2.2.2.2.2.2.2.2.1⟩ (preV_ok hG hR hs _) rfl (take_len (drop_len hst)) hL.2.1 (stack_eq hst) (cat8 g2) hd ⟨by omega, by omega⟩) hq hL (by omega) (by omega) (fun v X' hv => hN _ _ _ _ (resK_use hv))
  · exact h.elim
set_option maxHeartbeats 4000000 in
theorem ivSN_ok {bytes : ByteArray} {maxL : Nat} {ret : Option FieldType} {fr lo mc ms na idx rk : Nat} {w : WP} (hw : ∀ as X K KX, w as X K KX → CT l G yX11_isFrom (.code yX11_isFrom bytes maxL ret) fr lo mc ms as X K KX)
    (h1 : gw (.code yX11_isFrom bytes maxL ret) = true) (h2 : gw (.initialized yX11_isFrom.cls) = true) (h3 : (own, idx) ∈ lw_nests) (h4 : gw (.static yX11_isFrom) = true) (h5 : plainY yX11_isFrom na = true) (h6 : roomB R maxL fr lo = true) :
    IvOK G l R M own ini (4 * idx + 2) (ivSN (mMc M) (mMs M) na mc ms rk w) := by
  intro p e s m args below meth c cc nL Q C pc hd L st X k z N HX h hN hX H locs ls hR hq hL hk hz
  obtain ⟨⟨g1, g2, g3, g4⟩, h⟩ := gd_use h
  obtain ⟨⟨hx, hb, hml, hown⟩, hts, hG, -, -, ⟨hRc, hRs⟩, -⟩ := id C
  rw [ivIns_t] at hd
  simp only [plainY, Bool.and_eq_true, decide_eq_true_eq] at h5
  simp only [roomB, Bool.and_eq_true, decide_eq_true_eq] at h6
  refine runM_ok (rest := st.drop na) (L := L) (va_runSN (host := "FareClock") (As := (st.take na).reverse.map (cv G)) (Ts := []) (own := own) (cc := cc) (nL := nL) ⟨hx, hb, hml, hown, fun _ h => by cases h⟩ (hw _ _ _ _ h).met ⟨⟨⟨rfl, rfl, h6.1, h6.2, goodL_ok hts h1, List.mem_cons_self⟩, hts _ h1, hts _ h2, ⟨h5.1.1, h5.1.2⟩, fun sig hs => by have h9 := h5.2; rw [hs] at h9; exact (Option.some.inj h9).symm, va_Nw.use rfl (hG.2.2.2.2.2.1 (own, idx) h3)⟩, hts _ h4, trivial⟩ (preS_ok hG hR _) rfl (take_len g1) hL.2.1 ?_ (cat8 g2) hd ⟨by omega, by omega⟩) hq hL (by omega) (by omega) (fun v X' hv => hN _ _ _ _ (resK_use hv))
  show st.map (cv G) = _
  rw [map_rev, List.reverse_reverse, ← List.map_append, List.take_append_drop]
/-- a way out for each shape -/
def altOK (l : Launch) (G : GX) (R : Room) (x : MethodName) (na : Nat) (q : Nat × WP) : Prop := ∃ (y : MethodName) (bytes : ByteArray) (maxL : Nat) (ret : Option FieldType) (fr lo : Nat), (∀ as X K KX, q.2 as X K KX → CT l G y (.code y bytes maxL ret) fr lo 0 0 as X K KX) ∧
  gw (.code y bytes maxL ret) = true ∧ gw (.initialized y.cls) = true ∧ gw (.instanceMethod y) = true ∧ roomB R maxL fr lo = true ∧ gw (.selects (cNm q.1) x y) = true
theorem dsp_use {c : Nat} {f : WP → Prop} : ∀ {alts : List (Nat × WP)}, dsp c f alts → ∃ q ∈ alts, c = q.1 + 10 ∧ f q.2
  | (ci, w) :: t, h => by
    by_cases hc : c = ci + 10
    · exact ⟨(ci, w), List.mem_cons_self, hc, h.1 hc⟩
    · obtain ⟨q, hq, h2⟩ := dsp_use (h.2 hc)
      exact ⟨q, List.mem_cons_of_mem _ hq, h2⟩
set_option maxHeartbeats 4000000 in
theorem ivD_ok {x : MethodName} {b0 : ByteArray} {m0 : Nat} {r0 : Option FieldType} {na idx rk : Nat} {alts : List (Nat × WP)} (h1 : gw (.code x b0 m0 r0) = true) (h3 : gw (.methodLink own idx x) = true) (h4 : gw (.instanceMethod x) = true) (h5 : plainY x na = true) (h7 : gw (.sameMethod x.cls x.cls x.name x.desc) = true) (ha : allL (altOK l G R x na) alts) :
    IvOK G l R M own ini (4 * idx) (ivD (mTb M) na rk alts) := by
  intro p e s m args below meth c cc nL Q C pc hd L st X k z N HX h hN hX H locs ls hR hq hL hk hz
  unfold ivD at h
  split at h
  · rename_i r rest hst
    obtain ⟨i, rfl, h⟩ := onSome_use h
    obtain ⟨g2, h⟩ := gd_use h
    rw [shp_eq hR C.2.2.2.2.2.2.1] at h
    obtain ⟨⟨ci, w⟩, hmem, hci, h⟩ := dsp_use h
    obtain ⟨y, bytes, maxL, ret, fr, lo, hw, a1, a2, a3, a4, a5⟩ := allL_mem ha _ hmem
    obtain ⟨⟨hx, hb, hml, hown⟩, hts, hG, -, -, ⟨hRc, hRs⟩, -⟩ := id C
    rw [ivIns_v] at hd
    have hs : xS X i = (ci + 10, (xS X i).2) := by rw [← hci]
    simp only [plainY, Bool.and_eq_true, decide_eq_true_eq] at h5
    simp only [roomB, Bool.and_eq_true, decide_eq_true_eq] at a4
    refine runM_ok (mc := 0) (ms := 0) (rest := rest) (L := L) (va_runU (x := x) (y := y) (owner := x.cls) (C := cNm ci) (b := ad G i) (As := (st.take na).reverse.map (cv G)) (Ts := []) (own := own) (cc := cc) (nL := nL) ⟨hx, hb, hml, hown, fun _ h => by cases h⟩ (hw _ _ _ _ h).met ⟨⟨rfl, rfl, a4.1, a4.2, goodL_ok hts a1, List.mem_cons_self⟩, hts _ a1, hts _ a2, ⟨h5.1.1, h5.1.2⟩, fun sig hs => by have h9 := h5.2; rw [hs] at h9; exact (Option.some.inj h9).symm, hts _ h3, hts _ h7, va_Decl.of (hts _ h4) (hts _ h1), hts _ a5, hts _ a3⟩ (preV_ok hG hR hs _) rfl (take_len (drop_len hst)) hL.2.1 (stack_eq hst) (cat8 g2) hd ⟨by omega, by omega⟩) hq hL (by omega) (by omega) (fun v X' hv => ?_)
    exact hN _ _ _ _ (resK_use hv)
  · exact h.elim
end Iv2
