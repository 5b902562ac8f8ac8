/-! the constructors -/
/-- what is made so far from the cell o on -/
def Bd (o : Nat) (X0 X : AX) (ss : List (Nat × Nat)) (cs : Nat → Nat → Int32) (rl : List (Nat × Nat)) : Prop :=
  xN X = o + ss.length ∧ (∀ i, i < o → xS X i = xS X0 i ∧ xI X i = xI X0 i ∧ xR X i = xR X0 i) ∧ (∀ d, d < ss.length → xS X (o + d) = ss.getD d (0, 0) ∧ xI X (o + d) = cs d) ∧ ∀ q, q ∈ rl → xR X o q.1 = some (o + q.2)
/-- a constructor's word -/
def MkC (w : WP) (ci : Nat) (ss : List (Nat × Nat)) (cs : Nat → Nat → Int32) (rl : List (Nat × Nat)) : Prop :=
  ∀ (o : Nat) (X : AX) (K : Option AV → AX → Prop) (KX : String → AX → Prop), 4 ≤ o → xN X = o + 1 → xS X o = (ci + 10, 0) → xI X o = (fun _ => 0) → (∀ X', Bd o X X' ss cs rl → K none X') → w [vR (some o)] X K KX
def cJn (n : Nat) (f g : Nat → Nat → Int32) : Nat → Nat → Int32 := fun d => if d < n then f d else g (d - n)
section Make
variable {o : Nat} {X0 X : AX} {ss ss2 : List (Nat × Nat)} {cs cs2 : Nat → Nat → Int32} {rl rl2 : List (Nat × Nat)} {M : MT} {P : PT} {K : Option AV → AX → Prop} {KX : String → AX → Prop} {HX : Nat → LT → String → AX → Nat → Nat → Prop} {L : LT} {k z : Nat}
theorem bd_start {ci : Nat} (hN : xN X = o + 1) (hS : xS X o = (ci + 10, 0)) (hI : xI X o = (fun _ => 0)) : Bd o X X [(ci + 10, 0)] (fun _ _ => 0) [] := by
  refine ⟨hN, fun _ _ => ⟨rfl, rfl, rfl⟩, fun d hd => ?_, fun q hq => by cases hq⟩
  have e : d = 0 := by simpa using hd
  subst e
  exact ⟨hS, hI⟩
theorem bd_own (h : Bd o X0 X ss cs rl) (h0 : 0 < ss.length) : xS X o = ss.getD 0 (0, 0) ∧ xI X o = cs 0 := h.2.2.1 0 h0
theorem bd_alloc (h : Bd o X0 X ss cs rl) (h0 : 0 < ss.length) (s : Nat × Nat) {m : Nat} (hm : ss.length = m) : Bd o X0 (alloc X s) (ss ++ [s]) (u1 cs m (fun _ => 0)) rl := by
  subst hm
  obtain ⟨a, b, c, d⟩ := h
  refine ⟨?_, fun i hi => ?_, fun q hq => ?_, fun q hq => ?_⟩
  · show xN X + 1 = _
    rw [a, List.length_append]; rfl
  · have e : i ≠ xN X := by omega
    obtain ⟨b1, b2, b3⟩ := b i hi
    exact ⟨(u1_ne _ _ e).trans b1, (u1_ne _ _ e).trans b2, (u1_ne _ _ e).trans b3⟩
  · rw [List.length_append] at hq
    by_cases e : q = ss.length
    · subst e
      refine ⟨?_, ?_⟩
      · show u1 (xS X) (xN X) s (o + ss.length) = _
        rw [a, u1_at]; simp
      · show u1 (xI X) (xN X) (fun _ => 0) (o + ss.length) = _
        rw [a, u1_at, u1_at]
    · have hq' : q < ss.length := by
        have : q < ss.length + 1 := hq
        omega
      obtain ⟨c1, c2⟩ := c q hq'
      have e2 : o + q ≠ xN X := by omega
      refine ⟨?_, ?_⟩
      · refine (u1_ne _ _ e2).trans (c1.trans ?_)
        simp [List.getD, List.getElem?_append_left hq']
      · refine (u1_ne _ _ e2).trans (c2.trans ?_)
        rw [u1_ne _ _ e]
  · have e : o ≠ xN X := by omega
    exact (congrFun (u1_ne _ _ e) q.1).trans (d q hq)
theorem bd_putR (h : Bd o X0 X ss cs rl) {f v : Nat} (hr : rl.all (fun q => q.1 != f) = true) : Bd o X0 (xS X, xI X, xJ X, u2 (xR X) o f (some (o + v)), xN X) ss cs (rl ++ [(f, v)]) := by
  obtain ⟨a, b, c, d⟩ := h
  refine ⟨a, fun i hi => ⟨(b i hi).1, (b i hi).2.1, (u2_ne _ _ _ (by omega)).trans (b i hi).2.2⟩, c, fun q hq => ?_⟩
  show u2 (xR X) o f (some (o + v)) o q.1 = _
  rw [u2_at]
  rcases List.mem_append.mp hq with h1 | h1
  · have := List.all_eq_true.mp hr q h1
    rw [if_neg (by simpa using this)]
    exact d q h1
  · have e : q = (f, v) := by simpa using h1
    subst e
    rw [if_pos rfl]
theorem bd_putI (h : Bd o X0 X ss cs rl) (d f : Nat) (v : Int32) : Bd o X0 (xS X, u2 (xI X) (o + d) f v, xJ X, xR X, xN X) ss (u2 cs d f v) rl := by
  obtain ⟨a, b, c, e⟩ := h
  refine ⟨a, fun i hi => ⟨(b i hi).1, (u2_ne _ _ _ (by omega)).trans (b i hi).2.1, (b i hi).2.2⟩, fun q hq => ⟨(c q hq).1, ?_⟩, e⟩
  show u2 (xI X) (o + d) f v (o + q) = _
  by_cases e1 : q = d
  · subst e1
    funext j
    rw [u2_at, u2_at, (c q hq).2]
  · rw [u2_ne _ _ _ (by omega), u2_ne _ _ _ e1, (c q hq).2]
theorem bd_sub {X' : AX} {s : Nat × Nat} {m : Nat} (h : Bd o X0 X ss cs rl) (h0 : 0 < ss.length) (hm : ss.length = m) (h2 : Bd (o + m) (alloc X s) X' ss2 cs2 rl2) : Bd o X0 X' (ss ++ ss2) (cJn m cs cs2) rl := by
  subst hm
  obtain ⟨a, b, c, d⟩ := h
  obtain ⟨a2, b2, c2, -⟩ := h2
  have hk : ∀ i, i < o + ss.length → xS X' i = xS X i ∧ xI X' i = xI X i ∧ xR X' i = xR X i := fun i hi => by
    obtain ⟨q1, q2, q3⟩ := b2 i hi
    have e : i ≠ xN X := by omega
    exact ⟨q1.trans (u1_ne _ _ e), q2.trans (u1_ne _ _ e), q3.trans (u1_ne _ _ e)⟩
  refine ⟨?_, fun i hi => ?_, fun q hq => ?_, fun q hq => ?_⟩
  · rw [a2, List.length_append]; omega
  · obtain ⟨q1, q2, q3⟩ := hk i (by omega)
    obtain ⟨b1, b2, b3⟩ := b i hi
    exact ⟨q1.trans b1, q2.trans b2, q3.trans b3⟩
  · rw [List.length_append] at hq
    by_cases e : q < ss.length
    · obtain ⟨q1, q2, -⟩ := hk (o + q) (by omega)
      obtain ⟨c1, c3⟩ := c q e
      refine ⟨q1.trans (c1.trans ?_), q2.trans (c3.trans ?_)⟩
      · simp [List.getD, List.getElem?_append_left e]
      · rw [cJn, if_pos e]
    · obtain ⟨c1, c3⟩ := c2 (q - ss.length) (by omega)
      have e3 : o + ss.length + (q - ss.length) = o + q := by omega
      rw [e3] at c1 c3
      refine ⟨c1.trans ?_, c3.trans ?_⟩
      · simp [List.getD, List.getElem?_append_right (Nat.le_of_not_lt e)]
      · rw [cJn, if_neg e]
  · exact (congrFun (hk o (by omega)).2.2 q.1).trans (d q hq)
theorem getD_app0 {a b : List (Nat × Nat)} (h : 0 < a.length) : (a ++ b).getD 0 (0, 0) = a.getD 0 (0, 0) := by
  cases a with
  | nil => exact absurd h (by decide)
  | cons x t => rfl
/-- Object's constructor -/
theorem g_o {p1 p2 i : Nat} {r : Nat × Instr × Nat} {rest : List (Nat × Instr × Nat)} (hiv : mIv M (4 * i + 1) = ivO) (h : wpb M P K HX (r :: rest) (some (vR (some o)) :: L) [] X k z) :
    wpb M P K HX ((p1, .aload_n 0, 1) :: (p2, .invokespecial i, 3) :: r :: rest) (some (vR (some o)) :: L) [] X k z := by
  show mIv M (4 * i + 1) [vR (some o)] X k z _ _
  rw [hiv]
  exact gd_in (show (([] : List AV).map avc).sum ≤ 8 from by decide) h
/-- a number is put -/
theorem g_i {p1 p2 p3 idx l2 ci f : Nat} {v : Int32} {ps : Instr} {r : Nat × Instr × Nat} {rest : List (Nat × Instr × Nat)} (hM : mTb M = fun _ => none) (hp : ∀ L st X k z N P K HX, stp M p2 ps l2 L st X k z N P K HX = N L (vI v :: st) X k z) (hf : lk (mF M) idx = some (ci, f, 0)) (hB : Bd o X0 X ss cs rl) (h0 : 0 < ss.length) (hs : ss.getD 0 (0, 0) = (ci + 10, 0))
    (h : ∀ X', Bd o X0 X' ss (u2 cs 0 f v) rl → wpb M P K HX (r :: rest) (some (vR (some o)) :: L) [] X' k z) :
    wpb M P K HX ((p1, .aload_n 0, 1) :: (p2, ps, l2) :: (p3, .putfield idx, 3) :: r :: rest) (some (vR (some o)) :: L) [] X k z := by
  show stp M p2 ps l2 (some (vR (some o)) :: L) [vR (some o)] X k z (wpb M P K HX ((p3, .putfield idx, 3) :: r :: rest)) P K HX
  rw [hp]
  show putF M idx [vI v, vR (some o)] X (fun st' X' => wpb M P K HX (r :: rest) (some (vR (some o)) :: L) st' X' k z)
  unfold putF
  rw [hf]
  have e : (shp (mTb M) X o) = (ci + 10, 0) := by rw [hM]; exact (bd_own hB h0).1.trans hs
  refine gd_in (show isC ci (shp (mTb M) X o).1 = true from ?_) (h _ (bd_putI hB 0 f v))
  rw [e]; simp [isC]
/-- a row is made and put -/
theorem g_a {p1 p2 p3 p4 idx l2 l3 ci f kk nn m : Nat} {n : Int32} {ps na : Instr} {r : Nat × Instr × Nat} {rest : List (Nat × Instr × Nat)} (hM : mTb M = fun _ => none) (hp : ∀ L st X k z N P K HX, stp M p2 ps l2 L st X k z N P K HX = N L (vI n :: st) X k z) (hna : ∀ L st X k z N P K HX, stp M p3 na l3 L st X k z N P K HX = newaF M kk L st X k z N)
    (hn : ¬ n < 0 ∧ n.toNatClampNeg = nn ∧ nn ≤ 60000000) (hc : k + 1 ≤ mMc M) (hz : z + nn ≤ mMs M) (hf : lk (mF M) idx = some (ci, f, 2)) (hB : Bd o X0 X ss cs rl) (hm : ss.length = m) (h0 : 0 < m) (hs : ss.getD 0 (0, 0) = (ci + 10, 0)) (hr : rl.all (fun q => q.1 != f) = true) (hcz : cs m = fun _ => 0)
    (h : ∀ X', Bd o X0 X' (ss ++ [(kk, nn)]) cs (rl ++ [(f, m)]) → wpb M P K HX (r :: rest) (some (vR (some o)) :: L) [] X' (k + 1) (z + nn)) :
    wpb M P K HX ((p1, .aload_n 0, 1) :: (p2, ps, l2) :: (p3, na, l3) :: (p4, .putfield idx, 3) :: r :: rest) (some (vR (some o)) :: L) [] X k z := by
  obtain ⟨n1, n2, n3⟩ := hn
  show stp M p2 ps l2 (some (vR (some o)) :: L) [vR (some o)] X k z (wpb M P K HX ((p3, na, l3) :: (p4, .putfield idx, 3) :: r :: rest)) P K HX
  rw [hp]
  show stp M p3 na l3 (some (vR (some o)) :: L) [vI n, vR (some o)] X k z (wpb M P K HX ((p4, .putfield idx, 3) :: r :: rest)) P K HX
  rw [hna]
  refine gd_in (show mTb M (xN X) = none by rw [hM]) (gd_in ⟨n1, by rw [n2]; exact n3, hc, by rw [n2]; exact hz⟩ ?_)
  rw [n2]
  show putF M idx [vR (some (xN X)), vR (some o)] (alloc X (kk, nn)) (fun st' X' => wpb M P K HX (r :: rest) (some (vR (some o)) :: L) st' X' (k + 1) (z + nn))
  unfold putF
  rw [hf]
  have h0' : 0 < ss.length := by omega
  have hB2 := bd_alloc hB h0' (kk, nn) hm
  have ecs : u1 cs m (fun _ => 0) = cs := by
    funext d
    by_cases e : d = m
    · subst e; rw [u1_at, hcz]
    · rw [u1_ne _ _ e]
  rw [ecs] at hB2
  have e : (shp (mTb M) (alloc X (kk, nn)) o) = (ci + 10, 0) := by
    rw [hM]
    refine ((bd_own hB2 (by simp)).1.trans ?_).trans hs
    exact getD_app0 h0'
  refine gd_in (show isC ci (shp (mTb M) (alloc X (kk, nn)) o).1 = true from ?_) (gd_in (Or.inr ?_) ?_)
  · rw [e]; simp [isC]
  · rw [e]
  · have e2 : xN X = o + m := by rw [hB.1, hm]
    have q := bd_putR hB2 (f := f) (v := m) hr
    rw [← e2] at q
    exact h _ q
/-- a thing is made and put -/
theorem g_n {p1 p2 p3 p4 p5 idx i c Mc Ms mc ms ci cj f m : Nat} {w : WP} {r : Nat × Instr × Nat} {rest : List (Nat × Instr × Nat)} (hM : mTb M = fun _ => none) (hnw : lk (mNw M) i = some (.inl cj)) (hiv : mIv M (4 * c + 1) = ivI Mc Ms 0 mc ms 0 w) (hc : k + 1 ≤ mMc M ∧ z + fN cj ≤ mMs M) (hcc : k + 1 + mc ≤ Mc ∧ z + fN cj + ms ≤ Ms)
    (hf : lk (mF M) idx = some (ci, f, 2)) (hB : Bd o X0 X ss cs rl) (hm : ss.length = m) (h0 : 0 < m) (hs : ss.getD 0 (0, 0) = (ci + 10, 0)) (hr : rl.all (fun q => q.1 != f) = true) (h4 : 4 ≤ o) (hw : MkC w cj ss2 cs2 rl2)
    (h : ∀ X', Bd o X0 X' (ss ++ ss2) (cJn m cs cs2) (rl ++ [(f, m)]) → wpb M P K HX (r :: rest) (some (vR (some o)) :: L) [] X' (k + 1 + mc) (z + fN cj + ms)) :
    wpb M P K HX ((p1, .aload_n 0, 1) :: (p2, .new i, 3) :: (p3, .dup, 1) :: (p4, .invokespecial c, 3) :: (p5, .putfield idx, 3) :: r :: rest) (some (vR (some o)) :: L) [] X k z := by
  show newF M i (some (vR (some o)) :: L) [vR (some o)] X k z (wpb M P K HX ((p3, .dup, 1) :: (p4, .invokespecial c, 3) :: (p5, .putfield idx, 3) :: r :: rest)) (HX p2 (some (vR (some o)) :: L))
  unfold newF
  rw [hnw]
  refine gd_in (show mTb M (xN X) = none by rw [hM]) (gd_in hc ?_)
  show mIv M (4 * c + 1) [vR (some (xN X)), vR (some (xN X)), vR (some o)] (alloc X (cj + 10, 0)) (k + 1) (z + fN cj) _ _
  rw [hiv]
  refine gd_in ⟨show (([vR (some (xN X)), vR (some o)] : List AV).map avc).sum ≤ 8 from Nat.le_of_ble_eq_true rfl, hcc⟩ ?_
  have e2 : xN X = o + m := by rw [hB.1, hm]
  have h0' : 0 < ss.length := by omega
  refine hw (xN X) _ _ _ (by omega) rfl (u1_at _ _ _) (u1_at _ _ _) fun X' hX' => ?_
  rw [e2] at hX'
  have hB2 := bd_sub hB h0' hm hX'
  show putF M idx [vR (some (xN X)), vR (some o)] X' (fun st' X' => wpb M P K HX (r :: rest) (some (vR (some o)) :: L) st' X' (k + 1 + mc) (z + fN cj + ms))
  unfold putF
  rw [hf]
  have e : (shp (mTb M) X' o) = (ci + 10, 0) := by
    rw [hM]
    refine ((bd_own hB2 (by rw [List.length_append]; omega)).1.trans ?_).trans hs
    exact getD_app0 h0'
  refine gd_in (show isC ci (shp (mTb M) X' o).1 = true from ?_) (gd_in (Or.inr ?_) ?_)
  · rw [e]; simp [isC]
  · rw [e]
  · have q := bd_putR hB2 (f := f) (v := m) hr
    rw [← e2] at q
    exact h _ q
/-- the constructor's end -/
theorem g_r {p ci : Nat} (hM : mTb M = fun _ => none) (hrt : mRt M = 5) (hB : Bd o X0 X ss cs rl) (h0 : 0 < ss.length) (hs : ss.getD 0 (0, 0) = (ci + 10, 0)) (hr : (offL ci).all (fun q => rl.contains q) = true) (h : ∀ X', Bd o X0 X' (ss.set 0 (ci + 10, 1)) cs rl → K none X') :
    wpb M P K HX [(p, .return_, 1)] (some (vR (some o)) :: L) [] X k z := by
  show retF M .return_ (some (vR (some o)) :: L) [] X K
  unfold retF
  rw [hrt]
  have e : (shp (mTb M) X o) = (ci + 10, 0) := by rw [hM]; exact (bd_own hB h0).1.trans hs
  refine gd_in (show mTb M o = none by rw [hM]) ⟨ci, e, ?_, h _ ?_⟩
  · have hq : ∀ q ∈ offL ci, q ∈ rl := fun q hq => by
      have := List.all_eq_true.mp hr q hq
      simpa using this
    have : ∀ l : List (Nat × Nat), (∀ q ∈ l, q ∈ rl) → allL (fun q => xR X o q.1 = some (o + q.2)) l := fun l => by
      induction l with
      | nil => intro _; trivial
      | cons a t ih => intro hl; exact ⟨hB.2.2.2 a (hl a List.mem_cons_self), ih fun q hq => hl q (List.mem_cons_of_mem _ hq)⟩
    exact this _ hq
  · obtain ⟨a, b, c, d⟩ := hB
    refine ⟨by rw [List.length_set]; exact a, fun i hi => ⟨(u1_ne _ _ (by omega)).trans (b i hi).1, (b i hi).2⟩, fun q hq => ⟨?_, (c q (by rw [List.length_set] at hq; exact hq)).2⟩, d⟩
    rw [List.length_set] at hq
    show u1 (xS X) o (ci + 10, 1) (o + q) = _
    by_cases e1 : q = 0
    · subst e1
      refine (u1_at _ _ _).trans ?_
      simp [List.getD, h0]
    · rw [u1_ne _ _ (by omega), (c q hq).1]
      simp [List.getD, List.getElem?_set, Ne.symm e1]
end Make
