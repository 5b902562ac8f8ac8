/-! soundness of what touches the heap -/
/-- a word of the tables that goes on being true -/
def gw (w : Cond) : Bool := decide (w ∈ lw_tbl) && goodWord w
def cNm (ci : Nat) : String := match ci with
  | 0 => RX0
  | 1 => RX1
  | 2 => RX2
  | 3 => RX3
  | 4 => RX4
  | 5 => RX5
  | 6 => RX6
  | 7 => RX7
  | 8 => RX8
  | 9 => RX9
  | 10 => RX10
  | 11 => RX11
  | _ => RX12
def cTb (ci : Nat) : u_T := match ci with
  | 0 => TX0
  | 1 => TX1
  | 2 => TX2
  | 3 => TX3
  | 4 => TX4
  | 5 => TX5
  | 6 => TX6
  | 7 => TX7
  | 8 => TX8
  | 9 => TX9
  | 10 => TX10
  | 11 => TX11
  | _ => TX12
theorem c13 {P : Nat → Prop} (h0 : P 0) (h1 : P 1) (h2 : P 2) (h3 : P 3) (h4 : P 4) (h5 : P 5) (h6 : P 6) (h7 : P 7) (h8 : P 8) (h9 : P 9) (h10 : P 10) (h11 : P 11) (h12 : P 12) {ci : Nat} (h : ci < 13) : P ci := by
  match ci, h with
  | 0, _ => exact h0
  | 1, _ => exact h1
  | 2, _ => exact h2
  | 3, _ => exact h3
  | 4, _ => exact h4
  | 5, _ => exact h5
  | 6, _ => exact h6
  | 7, _ => exact h7
  | 8, _ => exact h8
  | 9, _ => exact h9
  | 10, _ => exact h10
  | 11, _ => exact h11
  | 12, _ => exact h12
  | n + 13, h => exact absurd h (by omega)
theorem cls_get {ci : Nat} (h : ci < 13) : cls13[ci]? = some (cNm ci, cTb ci, fN ci) := c13 (P := fun ci => cls13[ci]? = some (cNm ci, cTb ci, fN ci)) rfl rfl rfl rfl rfl rfl rfl rfl rfl rfl rfl rfl rfl h
theorem cls_ty {ci : Nat} (h : ci < 13) : ∀ k, k < fN ci → parseFieldDescriptor (cTb ci k).2.2.1 = some (fty ci k) := c13 (P := fun ci => ∀ k, k < fN ci → parseFieldDescriptor (cTb ci k).2.2.1 = some (fty ci k)) tyX0_ok tyX1_ok tyX2_ok tyX3_ok tyX4_ok tyX5_ok tyX6_ok tyX7_ok tyX8_ok tyX9_ok tyX10_ok tyX11_ok tyX12_ok h
theorem cls_nm {ci : Nat} (h : ci < 13) : ∀ a, a < fN ci → ∀ b, b < fN ci → a ≠ b → (cTb ci a).2.1 ≠ (cTb ci b).2.1 := c13 (P := fun ci => ∀ a, a < fN ci → ∀ b, b < fN ci → a ≠ b → (cTb ci a).2.1 ≠ (cTb ci b).2.1) nmX0 nmX1 nmX2 nmX3 nmX4 nmX5 nmX6 nmX7 nmX8 nmX9 nmX10 nmX11 nmX12 h
theorem inC0 : ∀ w ∈ u_ws RX0 TX0 2, gw w = true := by decide +kernel
theorem inC1 : ∀ w ∈ u_ws RX1 TX1 2, gw w = true := by decide +kernel
theorem inC2 : ∀ w ∈ u_ws RX2 TX2 2, gw w = true := by decide +kernel
theorem inC3 : ∀ w ∈ u_ws RX3 TX3 2, gw w = true := by decide +kernel
theorem inC4 : ∀ w ∈ u_ws RX4 TX4 13, gw w = true := by decide +kernel
theorem inC5 : ∀ w ∈ u_ws RX5 TX5 15, gw w = true := by decide +kernel
theorem inC6 : ∀ w ∈ u_ws RX6 TX6 2, gw w = true := by decide +kernel
theorem inC7 : ∀ w ∈ u_ws RX7 TX7 4, gw w = true := by decide +kernel
theorem inC8 : ∀ w ∈ u_ws RX8 TX8 2, gw w = true := by decide +kernel
theorem inC9 : ∀ w ∈ u_ws RX9 TX9 3, gw w = true := by decide +kernel
theorem inC10 : ∀ w ∈ u_ws RX10 TX10 4, gw w = true := by decide +kernel
theorem inC11 : ∀ w ∈ u_ws RX11 TX11 17, gw w = true := by decide +kernel
theorem inC12 : ∀ w ∈ u_ws RX12 TX12 63, gw w = true := by decide +kernel
theorem cls_in {ci : Nat} (h : ci < 13) : ∀ w ∈ u_ws (cNm ci) (cTb ci) (fN ci), gw w = true := c13 (P := fun ci => ∀ w ∈ u_ws (cNm ci) (cTb ci) (fN ci), gw w = true) inC0 inC1 inC2 inC3 inC4 inC5 inC6 inC7 inC8 inC9 inC10 inC11 inC12 h
