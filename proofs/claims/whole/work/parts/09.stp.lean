/-! a stretch of code: what 'wpb' asks is enough -/
def conB (own : String) (q : Nat × AV) : Bool := match q.2 with
  | .inl x => gw (Cond.constant own q.1 x)
  | .inr (.inl x) => gw (Cond.constantLong own q.1 x)
  | .inr (.inr (.inl x)) => gw (Cond.constantFloat own q.1 x)
  | _ => false
def nwB (own : String) (q : Nat × (Nat ⊕ String)) : Bool := match q.2 with
  | .inl ci => decide (ci < 13) && gw (Cond.classLink own q.1 (cNm ci)) && gw (Cond.instantiable (cNm ci) (fN ci)) && gw (Cond.initialized (cNm ci))
  | .inr E => gw (Cond.classLink own q.1 E) && gw (Cond.initialized E)
def stNm (j : Nat) : String := match j with
  | 1 => "NUMBER_AT_FIRST"
  | 2 => "NUMBER_LEAST"
  | _ => "NUMBER_MOST"
def stB (own : String) (q : Nat × Nat) : Bool := (decide (q.2 = 1) || decide (q.2 = 2) || decide (q.2 = 3)) &&
  (gw (Cond.fieldLink own q.1 "FareClock" (stNm q.2) "[I") || (decide (q = (9, 1)) && decide (own = RX1)))
def isSw (ins : Instr) : Bool := match ins with
  | .tableswitch _ _ _ _ => true
  | .lookupswitch _ _ => true
  | _ => false
def insB (F : List (Nat × Nat × Nat × Nat)) (Cs : List (Nat × AV)) (own : String) (ini : Bool) (pc : Nat) (ins : Instr) : Bool := match ins with
  | .putfield i => (match lk F i with
    | some q => finB own ini q.1 q.2.1
    | none => true)
  | .anewarray i => gw (Cond.classLink own i RX1)
  | .checkcast i => gw (Cond.classLink own i "[I")
  | .ldc i => (match lk Cs i with
    | some (.inl _) => true
    | some (.inr (.inr (.inl _))) => true
    | _ => false)
  | .ldc_w i => (match lk Cs i with
    | some (.inl _) => true
    | _ => false)
  | .ldc2_w i => (match lk Cs i with
    | some (.inr (.inl _)) => true
    | _ => false)
  | .ifCond _ o => decide (0 ≤ (pc : Int) + o)
  | .if_icmp _ o => decide (0 ≤ (pc : Int) + o)
  | .if_acmp _ o => decide (0 ≤ (pc : Int) + o)
  | .goto o => decide (0 ≤ (pc : Int) + o)
  | .tableswitch d lo hi offs => decide (0 ≤ (pc : Int) + d) && offs.toList.all (fun o => decide (0 ≤ (pc : Int) + o)) && decide (hi = lo + (offs.toList.length : Int) - 1)
  | .lookupswitch d ps => decide (0 ≤ (pc : Int) + d) && ps.toList.all (fun o => decide (0 ≤ (pc : Int) + o.2)) && (ps.toList.zip (ps.toList.drop 1)).all (fun (a, next) => a.1 < next.1)
  | _ => true
def thrNames : List String := ["java/lang/RuntimeException", "java/lang/Exception"]
/-- 'throw new E()' at pc: its four instructions, its words -/
def thrB (own : String) (cc : ByteArray) (pc idx : Nat) (E : String) : Bool :=
  decide (decode cc (pc + 3) = .ok (.dup, 1)) && decide (decode cc (pc + 4) = .ok (.invokespecial (idx + 2), 3)) && decide (decode cc (pc + 7) = .ok (.athrow, 1)) &&
  ((vx_at0 own (idx + 2) E thrNames).all (fun w => gw w || decide (w = .castable E E) || decide (w ∈ lw_decls.map (fun y => Cond.declares (Bundle.init0 y)))) && decide ((E, E) ∈ lw_casts) && Bundle.fit E && thrNames.all Bundle.fit && gw (Cond.classLink own idx E) && gw (Cond.initialized E))
def newB (Nw : List (Nat × (Nat ⊕ String))) (own : String) (cc : ByteArray) (pc : Nat) (ins : Instr) : Bool := match ins with
  | .new i => (match lk Nw i with
    | some (.inr E) => thrB own cc pc i E
    | _ => true)
  | _ => true
def codB (F : List (Nat × Nat × Nat × Nat)) (Cs : List (Nat × AV)) (Nw : List (Nat × (Nat ⊕ String))) (own : String) (ini : Bool) (cc : ByteArray) (q : Nat × Instr × Nat) : Bool :=
  decide (decode cc q.1 = .ok (q.2.1, q.2.2)) && (decide (q.2.2 = ilen q.2.1) || isSw q.2.1) && insB F Cs own ini q.1 q.2.1 && newB Nw own cc q.1 q.2.1
/-- the tables' links -/
def tabB (F : List (Nat × Nat × Nat × Nat)) (Cs : List (Nat × AV)) (St : List (Nat × Nat)) (Nw : List (Nat × (Nat ⊕ String))) (own : String) : Bool := F.all (fldB own) && Cs.all (conB own) && St.all (stB own) && Nw.all (nwB own)
def Ws (G : GX) (p : Program) (l : Launch) (e : Env) (R : Room) (s : State) (m : MethodId) (args : Array Value) (below : List Frame) (meth : Method) (c : Code) (nL : Nat) (Q : State → Prop) : PT := fun pc L st X k z =>
  ∀ (H : Heap) (locs : List Loc) (ls : Array Slot), Rp G X H → (∀ q ∈ locs, gB G ≤ q.base) → Lh G ls nL L → k ≤ R.cells → z ≤ R.slots → W p l e R s m args below meth c H locs k z Q (F0 m pc ls (st.map (cv G)))
theorem gd_use {c f : Prop} [Decidable c] (h : gd c f) : c ∧ f := by
  unfold gd at h
  split at h
  · rename_i hc; exact ⟨hc, h⟩
  · exact h.elim
theorem onSome_use {r : Option Nat} {f : Nat → Prop} (h : onSome r f) : ∃ i, r = some i ∧ f i := by
  unfold onSome at h
  split at h
  · exact ⟨_, rfl, h⟩
  · exact h.elim
theorem jt_eq {pc : Nat} {o : Int} (h : 0 ≤ (pc : Int) + o) : (pc : Int) + o = (jt pc o : Int) := by unfold jt; omega
theorem ge4_inj {G : GX} {x y : Option Nat} (g1 : ge4 x) (g2 : ge4 y) : x.map (ad G) = y.map (ad G) ↔ x = y := by
  cases x with
  | none => cases y <;> simp
  | some a =>
    cases y with
    | none => simp
    | some b => simp only [Option.map_some, Option.some.injEq]; exact ⟨ad_inj g1 g2, fun h => by rw [h]⟩
section Stp
variable {p : Program} {l : Launch} {e : Env} {R : Room} {s : State} {m : MethodId} {args : Array Value} {below : List Frame} {meth : Method} {c : Code} {Q : State → Prop}
variable {cc : ByteArray} {G : GX} {M : MT} {own : String} {ini : Bool} {nL : Nat}
theorem Cx.grown (C : Cx G M own ini p l R s m args meth c cc nL) {H : Heap} {X : AX} (hR : Rp G X H) {locs : List Loc} (hq : ∀ q ∈ locs, gB G ≤ q.base) {T : State} (hT : T.heap = H) {k z : Nat} (XX : Stand p l e R s m args below meth c T locs k z) : va_S (fun q => gB G ≤ q) s.heap H locs := by
  obtain ⟨-, -, -, -, h0, -⟩ := C
  refine ⟨?_, fun q h1 h2 => ?_, hq⟩
  · have h2 : s.heap.size ≤ T.heap.size := XX.same.2.1
    rw [hT] at h2; exact h2
  · have h3 : q < gB G := Nat.not_le.mp h2
    rw [hR.1.2.2.2 q h3, h0 q h3]
theorem tsw_use {x : Int32} {f : Int → Prop} : ∀ {os : List Int} {v : Int}, tsw x f v os → ∀ (j : Nat) (o : Int), os[j]? = some o → x.toInt = v + j → f o
  | o' :: t, v, h, 0, o, h1, h2 => by
    cases h1
    exact h.1 (by simpa using h2)
  | o' :: t, v, h, j + 1, o, h1, h2 => tsw_use h.2 j o (by simpa using h1) (by rw [h2]; push_cast; omega)
theorem lsw_use {x : Int32} {f : Int → Prop} {d : Int} : ∀ {ps : List (Int × Int)}, lsw x f d ps → f (Op.lookupswitch.offset ps d x.toInt)
  | [], h => h
  | (v, o) :: t, h => by
    rw [Op.lookupswitch.offset_cons]
    split
    · rename_i hx; exact h.1 hx.symm
    · rename_i hx; exact lsw_use (h.2 fun q => hx q.symm)
set_option maxHeartbeats 4000000 in
theorem jmp_ok (hx : p.tables.exec = Jvm.exec) (hb : c.code = cc) {pc len : Nat} {ins : Instr} (hd : decode cc pc = .ok (ins, len)) (hl : len = ilen ins ∨ isSw ins = true) (hi : insB (mF M) (mC M) own ini pc ins = true) {L : LT} {st : List AV} {X : AX} {k z : Nat} {N : NT} {P : PT}
    (h : jmpF ins pc len L st X k z N P) (hN : ∀ L st X k z, N L st X k z → Ws G p l e R s m args below meth c nL Q (pc + len) L st X k z) (hP : ∀ pc L st X k z, P pc L st X k z → Ws G p l e R s m args below meth c nL Q pc L st X k z) :
    Ws G p l e R s m args below meth c nL Q pc L st X k z := by
  intro H locs ls hR hq hL hk hz
  unfold jmpF at h
  split at h
  · rename_i cd o x r
    have hl : len = 3 := hl.elim id (fun h => by cases h)
    subst hl
    have ht := jt_eq (pc := pc) (o := o) (by simpa [insB] using hi)
    have a := fun (q : P (jt pc o) L r X k z) => hP _ _ _ _ _ _ q H locs ls hR hq hL hk hz
    have b := fun (q : N L r X k z) => hN _ _ _ _ _ q H locs ls hR hq hL hk hz
    cases cd
    · exact lv_if_eq hx hb hd ht (fun q => a (h.1 q)) (fun q => b (h.2 q))
    · exact lv_if_ne hx hb hd ht (fun q => a (h.1 q)) (fun q => b (h.2 q))
    · exact lv_if_lt hx hb hd ht (fun q => a (h.1 q)) (fun q => b (h.2 q))
    · exact lv_if_ge hx hb hd ht (fun q => a (h.1 q)) (fun q => b (h.2 q))
    · exact lv_if_gt hx hb hd ht (fun q => a (h.1 q)) (fun q => b (h.2 q))
    · exact lv_if_le hx hb hd ht (fun q => a (h.1 q)) (fun q => b (h.2 q))
  · rename_i cd o y x r
    have hl : len = 3 := hl.elim id (fun h => by cases h)
    subst hl
    have ht := jt_eq (pc := pc) (o := o) (by simpa [insB] using hi)
    have a := fun (q : P (jt pc o) L r X k z) => hP _ _ _ _ _ _ q H locs ls hR hq hL hk hz
    have b := fun (q : N L r X k z) => hN _ _ _ _ _ q H locs ls hR hq hL hk hz
    cases cd
    · exact lv_icmp_eq hx hb hd ht (fun q => a (h.1 q)) (fun q => b (h.2 q))
    · exact lv_icmp_ne hx hb hd ht (fun q => a (h.1 q)) (fun q => b (h.2 q))
    · exact lv_icmp_lt hx hb hd ht (fun q => a (h.1 q)) (fun q => b (h.2 q))
    · exact lv_icmp_ge hx hb hd ht (fun q => a (h.1 q)) (fun q => b (h.2 q))
    · exact lv_icmp_gt hx hb hd ht (fun q => a (h.1 q)) (fun q => b (h.2 q))
    · exact lv_icmp_le hx hb hd ht (fun q => a (h.1 q)) (fun q => b (h.2 q))
  · rename_i o y x r
    have hl : len = 3 := hl.elim id (fun h => by cases h)
    subst hl
    have ht := jt_eq (pc := pc) (o := o) (by simpa [insB] using hi)
    obtain ⟨g1, g2, h1, h2⟩ := h
    have hxy : x.map (ad G) = y.map (ad G) ↔ x = y := ge4_inj g1 g2
    exact lv_acmp_ne (rx := x.map (ad G)) (ry := y.map (ad G)) hx hb hd ht (fun q => hP _ _ _ _ _ _ (h1 fun z => q (hxy.mpr z)) H locs ls hR hq hL hk hz) (fun q => hN _ _ _ _ _ (h2 (hxy.mp q)) H locs ls hR hq hL hk hz)
  · rename_i o r
    have hl : len = 3 := hl.elim id (fun h => by cases h)
    subst hl
    exact lv_goto hx hb hd (jt_eq (by simpa [insB] using hi)) (hP _ _ _ _ _ _ h H locs ls hR hq hL hk hz)
  · rename_i d lo hi' offs x r
    simp only [insB, Bool.and_eq_true, decide_eq_true_eq] at hi
    obtain ⟨⟨h1, h2⟩, h3⟩ := hi
    by_cases hout : x.toInt < lo ∨ hi' < x.toInt
    · exact lv_tableOut hx hb hd hout (jt_eq h1) (hP _ _ _ _ _ _ (h.1 hout) H locs ls hR hq hL hk hz)
    · have hlo : ¬ x.toInt < lo := fun q => hout (Or.inl q)
      have hhi : ¬ hi' < x.toInt := fun q => hout (Or.inr q)
      have hj : (x.toInt - lo).toNat < offs.toList.length := by omega
      have ho : offs.toList[(x.toInt - lo).toNat]? = some (offs.toList[(x.toInt - lo).toNat]) := List.getElem?_eq_getElem hj
      have hf := tsw_use h.2 _ _ ho (by omega)
      exact lv_tableIn hx hb hd hlo hhi (by rw [← Array.getElem?_toList]; exact ho) (jt_eq (by have := List.all_eq_true.mp h2 _ (List.getElem_mem hj); simpa using this)) (hP _ _ _ _ _ _ hf H locs ls hR hq hL hk hz)
  · rename_i d ps x r
    simp only [insB, Bool.and_eq_true, decide_eq_true_eq] at hi
    obtain ⟨⟨h1, h2⟩, h3⟩ := hi
    have hf := lsw_use h
    have hnn : 0 ≤ (pc : Int) + Op.lookupswitch.offset ps.toList d x.toInt := by
      clear hf h hd h3
      generalize ps.toList = q at h2
      induction q with
      | nil => exact h1
      | cons a t ih =>
        rw [Op.lookupswitch.offset_cons]
        simp only [List.all_cons, Bool.and_eq_true, decide_eq_true_eq] at h2
        split
        · exact h2.1
        · exact ih h2.2
    exact lv_lookup hx hb hd h3 rfl (jt_eq hnn) (hP _ _ _ _ _ _ hf H locs ls hR hq hL hk hz)
  · exact h.elim
end Stp
