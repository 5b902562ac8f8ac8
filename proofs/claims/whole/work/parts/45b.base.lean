/-! the pure part: small steps -/
theorem u2_ap {α : Type} (f : Nat → Nat → α) (i k a b : Nat) (v : α) : u2 f i k v a b = if a = i then (if b = k then v else f a b) else f a b := rfl
theorem rI_in {x : Int32} {f : Int32 → Prop} (h : f x) : rI (some (vI x)) f := h
theorem rL_in {x : Int64} {f : Int64 → Prop} (h : f x) : rL (some (vL x)) f := h
theorem rR_in {x : Option Nat} {f : Option Nat → Prop} (h : f x) : rR (some (vR x)) f := h
theorem rV_in {f : Prop} (h : f) : rV none f := h
theorem ite_t {c : Prop} [Decidable c] {P Q : Prop} (h : c) (p : P) : if c then P else Q := by rw [if_pos h]; exact p
theorem ite_f {c : Prop} [Decidable c] {P Q : Prop} (h : ¬ c) (q : Q) : if c then P else Q := by rw [if_neg h]; exact q
theorem br_t2 {c A B : Prop} (h : ¬ c) (a : A) : (¬ c → A) ∧ (c → B) := ⟨fun _ => a, fun z => absurd z h⟩
theorem br_f2 {c A B : Prop} (h : c) (b : B) : (¬ c → A) ∧ (c → B) := ⟨fun z => absurd h z, fun _ => b⟩
theorem br_s {c A B : Prop} (a : c → A) (b : ¬ c → B) : (c → A) ∧ (¬ c → B) := ⟨a, b⟩
theorem br_s2 {c A B : Prop} (a : ¬ c → A) (b : c → B) : (¬ c → A) ∧ (c → B) := ⟨a, b⟩
theorem vin_and {x : Int32} {n : Nat} {P : Prop} (h : 0 ≤ x.toInt ∧ x.toInt < n) (p : P) : vp_in x n ∧ P := ⟨vp_in_iff.mpr h, p⟩
theorem or0_and {P : Prop} (p : P) : ((0 : Int32) = 0 ∨ (0 : Int32) = 1) ∧ P := ⟨Or.inl rfl, p⟩
theorem or1_and {P : Prop} (p : P) : ((1 : Int32) = 0 ∨ (1 : Int32) = 1) ∧ P := ⟨Or.inr rfl, p⟩
theorem ne_and {y : Int32} {P : Prop} (h : ¬ y = 0) (p : P) : ¬ y = 0 ∧ P := ⟨h, p⟩
theorem onS_in {i : Nat} {f : Nat → Prop} (h : f i) : onSome (some i) f := h
theorem z32 : (0 : Int32).toInt = 0 := by decide
theorem dvd_zero {d r : Int} (h0 : 0 ≤ r) (h1 : r < d) (h : d ∣ r) : r = 0 := by
  rw [← Int.emod_eq_of_lt h0 h1]; exact Int.emod_eq_zero_of_dvd h
theorem li_0 : (0 : Int32).toInt = 0 := by decide
theorem li_1 : (1 : Int32).toInt = 1 := by decide
theorem li_2 : (2 : Int32).toInt = 2 := by decide
theorem li_3 : (3 : Int32).toInt = 3 := by decide
theorem li_4 : (4 : Int32).toInt = 4 := by decide
theorem li_5 : (5 : Int32).toInt = 5 := by decide
theorem li_6 : (6 : Int32).toInt = 6 := by decide
theorem li_7 : (7 : Int32).toInt = 7 := by decide
theorem li_8 : (8 : Int32).toInt = 8 := by decide
theorem li_9 : (9 : Int32).toInt = 9 := by decide
theorem li_10 : (10 : Int32).toInt = 10 := by decide
theorem li_11 : (11 : Int32).toInt = 11 := by decide
theorem li_12 : (12 : Int32).toInt = 12 := by decide
theorem li_13 : (13 : Int32).toInt = 13 := by decide
theorem li_14 : (14 : Int32).toInt = 14 := by decide
theorem li_15 : (15 : Int32).toInt = 15 := by decide
theorem li_16 : (16 : Int32).toInt = 16 := by decide
theorem li_20 : (20 : Int32).toInt = 20 := by decide
theorem li_34 : (34 : Int32).toInt = 34 := by decide
theorem li_40 : (40 : Int32).toInt = 40 := by decide
theorem li_50 : (50 : Int32).toInt = 50 := by decide
theorem li_59 : (59 : Int32).toInt = 59 := by decide
theorem li_60 : (60 : Int32).toInt = 60 := by decide
theorem li_64 : (64 : Int32).toInt = 64 := by decide
theorem li_99 : (99 : Int32).toInt = 99 := by decide
theorem li_100 : (100 : Int32).toInt = 100 := by decide
theorem li_200 : (200 : Int32).toInt = 200 := by decide
theorem li_500 : (500 : Int32).toInt = 500 := by decide
theorem li_1439 : (1439 : Int32).toInt = 1439 := by decide
theorem li_1440 : (1440 : Int32).toInt = 1440 := by decide
theorem li_3840 : (3840 : Int32).toInt = 3840 := by decide
theorem li_4000 : (4000 : Int32).toInt = 4000 := by decide
theorem li_10000 : (10000 : Int32).toInt = 10000 := by decide
theorem li_60000 : (60000 : Int32).toInt = 60000 := by decide
theorem li_1000000 : (1000000 : Int32).toInt = 1000000 := by decide
theorem li_m1 : (-1 : Int32).toInt = -1 := by decide
theorem li_min : (-2147483648 : Int32).toInt = -2147483648 := by decide
