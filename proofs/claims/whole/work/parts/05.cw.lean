theorem cw_0 : ∀ w ∈ u_ws RX0 TX0 15, w ∈ UU := by decide +kernel
theorem cw_1 : ∀ w ∈ u_ws RX1 TX1 6, w ∈ UU := by decide +kernel
theorem cw_2 : ∀ w ∈ u_ws RX2 TX2 3, w ∈ UU := by decide +kernel
theorem cw_3 : ∀ w ∈ u_ws RX3 TX3 3, w ∈ UU := by decide +kernel
theorem cw_4 : ∀ w ∈ u_ws RX4 TX4 5, w ∈ UU := by decide +kernel
theorem cw_5 : ∀ w ∈ u_ws RX5 TX5 5, w ∈ UU := by decide +kernel
theorem cw_6 : ∀ w ∈ u_ws RX6 TX6 6, w ∈ UU := by decide +kernel
theorem cw_7 : ∀ w ∈ u_ws RX7 TX7 10, w ∈ UU := by decide +kernel
theorem cw_8 : ∀ w ∈ u_ws RX8 TX8 5, w ∈ UU := by decide +kernel
theorem cw_9 : ∀ w ∈ u_ws RX9 TX9 8, w ∈ UU := by decide +kernel
theorem cw_10 : ∀ w ∈ u_ws RX10 TX10 9, w ∈ UU := by decide +kernel
theorem cw_11 : ∀ w ∈ u_ws RX11 TX11 11, w ∈ UU := by decide +kernel
theorem cw_12 : ∀ w ∈ u_ws RX12 TX12 33, w ∈ UU := by decide +kernel
def xq (c : Nat) : vw_C := xcl.getD c (RX12, TX12, 33)
theorem clf : ∀ c, c < 13 → xcl[c]? = some (xq c) ∧ nfl c = (xq c).2.2 ∧ (∀ w ∈ u_ws (xq c).1 (xq c).2.1 (xq c).2.2, w ∈ UU) ∧ (∀ k, k < (xq c).2.2 → parseFieldDescriptor ((xq c).2.1 k).2.2.1 = some (ftp c k)) ∧ (∀ a, a < (xq c).2.2 → ∀ b, b < (xq c).2.2 → a ≠ b → ((xq c).2.1 a).2.1 ≠ ((xq c).2.1 b).2.1)
  | 0, _ => ⟨rfl, rfl, cw_0, tyX0_ok, nmX0⟩
  | 1, _ => ⟨rfl, rfl, cw_1, tyX1_ok, nmX1⟩
  | 2, _ => ⟨rfl, rfl, cw_2, tyX2_ok, nmX2⟩
  | 3, _ => ⟨rfl, rfl, cw_3, tyX3_ok, nmX3⟩
  | 4, _ => ⟨rfl, rfl, cw_4, tyX4_ok, nmX4⟩
  | 5, _ => ⟨rfl, rfl, cw_5, tyX5_ok, nmX5⟩
  | 6, _ => ⟨rfl, rfl, cw_6, tyX6_ok, nmX6⟩
  | 7, _ => ⟨rfl, rfl, cw_7, tyX7_ok, nmX7⟩
  | 8, _ => ⟨rfl, rfl, cw_8, tyX8_ok, nmX8⟩
  | 9, _ => ⟨rfl, rfl, cw_9, tyX9_ok, nmX9⟩
  | 10, _ => ⟨rfl, rfl, cw_10, tyX10_ok, nmX10⟩
  | 11, _ => ⟨rfl, rfl, cw_11, tyX11_ok, nmX11⟩
  | 12, _ => ⟨rfl, rfl, cw_12, tyX12_ok, nmX12⟩
  | n + 13, h => absurd h (by omega)
def GF (own : String) (idx c j t : Nat) : Prop := c < 13 ∧ j < (xq c).2.2 ∧ kdo (ftp c j) = t ∧ Cond.fieldLink own idx ((xq c).2.1 j).1 ((xq c).2.1 j).2.1 ((xq c).2.1 j).2.2.1 ∈ UU
def MV (y : MethodName) (cc : ByteArray) (nL : Nat) (ret : Option FieldType) (np : Nat) : Prop := Cond.instanceMethod y ∈ UU ∧ Cond.selects y.cls y y ∈ UU ∧ Cond.initialized y.cls ∈ UU ∧ Cond.code y cc nL ret ∈ UU ∧ (y.cls ≠ "java/lang/invoke/MethodHandle" ∧ y.cls ≠ "java/lang/invoke/VarHandle" ∧ (parseMethodDescriptor y.desc).map (fun d => d.parameters.length) = some np) ∧ nL ≤ 60
def MS (y : MethodName) (cc : ByteArray) (nL : Nat) (ret : Option FieldType) (np : Nat) : Prop := Cond.static y ∈ UU ∧ Cond.initialized y.cls ∈ UU ∧ Cond.code y cc nL ret ∈ UU ∧ (y.cls ≠ "java/lang/invoke/MethodHandle" ∧ y.cls ≠ "java/lang/invoke/VarHandle" ∧ (parseMethodDescriptor y.desc).map (fun d => d.parameters.length) = some np) ∧ nL ≤ 60
def MI (y : MethodName) (cc : ByteArray) (nL : Nat) (np : Nat) : Prop := Cond.instanceMethod y ∈ UU ∧ Cond.initialized y.cls ∈ UU ∧ Cond.code y cc nL none ∈ UU ∧ (y.cls ≠ "java/lang/invoke/MethodHandle" ∧ y.cls ≠ "java/lang/invoke/VarHandle" ∧ (parseMethodDescriptor y.desc).map (fun d => d.parameters.length) = some np) ∧ nL ≤ 60 ∧ y.name = "<init>"
