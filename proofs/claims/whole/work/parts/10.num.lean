/-! numbers: Int32 and Int64 as images of integers -/
def qz_i (z : Int) : Int32 := Int32.ofInt z
def qz_l (z : Int) : Int64 := Int64.ofInt z
theorem qz_add (a b : Int) : qz_i a + qz_i b = qz_i (a + b) := (Int32.ofInt_add a b).symm
theorem qz_sub (a b : Int) : qz_i a - qz_i b = qz_i (a - b) := (Int32.ofInt_sub a b).symm
theorem qz_mul (a b : Int) : qz_i a * qz_i b = qz_i (a * b) := (Int32.ofInt_mul a b).symm
theorem qz_neg (a : Int) : -qz_i a = qz_i (-a) := (Int32.ofInt_neg a).symm
theorem qz_nI (n : Nat) : nI n = qz_i (n : Int) := (Int32.ofInt_eq_ofNat (n := n)).symm
theorem qz_self (x : Int32) : x = qz_i x.toInt := (Int32.ofInt_toInt x).symm
theorem qz_toInt {a : Int} (h1 : -2147483648 ≤ a) (h2 : a < 2147483648) : (qz_i a).toInt = a :=
  Int32.toInt_ofInt_of_le (by omega) (by omega)
theorem qz_le {a b : Int} (h1 : -2147483648 ≤ a ∧ a < 2147483648) (h3 : -2147483648 ≤ b ∧ b < 2147483648) : qz_i a ≤ qz_i b ↔ a ≤ b := by
  rw [Int32.le_iff_toInt_le, qz_toInt h1.1 h1.2, qz_toInt h3.1 h3.2]
theorem qz_lt {a b : Int} (h1 : -2147483648 ≤ a ∧ a < 2147483648) (h3 : -2147483648 ≤ b ∧ b < 2147483648) : qz_i a < qz_i b ↔ a < b := by
  rw [Int32.lt_iff_toInt_lt, qz_toInt h1.1 h1.2, qz_toInt h3.1 h3.2]
theorem qz_eq {a b : Int} (h1 : -2147483648 ≤ a ∧ a < 2147483648) (h3 : -2147483648 ≤ b ∧ b < 2147483648) : qz_i a = qz_i b ↔ a = b := by
  rw [← Int32.toInt_inj, qz_toInt h1.1 h1.2, qz_toInt h3.1 h3.2]
theorem qz_min32 : Int32.minValue.toInt = -2147483648 := by decide
theorem qz_max32 : Int32.maxValue.toInt = 2147483647 := by decide
theorem qz_div {a b : Int} (h1 : -2147483648 ≤ a ∧ a < 2147483648) (h3 : -2147483648 ≤ b ∧ b < 2147483648) : qz_i a / qz_i b = qz_i (a.tdiv b) := by
  refine (Int32.ofInt_tdiv ?_ ?_ ?_ ?_).symm
  · rw [qz_min32]; omega
  · rw [qz_max32]; omega
  · rw [qz_min32]; omega
  · rw [qz_max32]; omega
theorem qz_rem {a b : Int} (h1 : -2147483648 ≤ a ∧ a < 2147483648) (h3 : -2147483648 ≤ b ∧ b < 2147483648) : qz_i a - qz_i a / qz_i b * qz_i b = qz_i (a.tmod b) := by
  rw [qz_div h1 h3, qz_mul, qz_sub, Int.tmod_def, Int.mul_comm b]
theorem qz_in {a : Int} {N : Nat} (h0 : 0 ≤ a) (h : a < N) (hN : N < 2147483648) : vp_in (qz_i a) N := by
  rw [vp_in_iff, qz_toInt (by omega) (by omega)]
  exact ⟨h0, h⟩
theorem qz_cl {a : Int} (h0 : 0 ≤ a) (h : a < 2147483648) : (qz_i a).toNatClampNeg = a.toNat := by
  obtain ⟨n, rfl⟩ : ∃ n : Nat, a = n := ⟨a.toNat, by omega⟩
  rw [← qz_nI, nI_clamp (by omega)]
  rfl
/-! branches -/
theorem qz_cle {X Y : Int32} {A B : Prop} (x y : Int) (hX : X = qz_i x) (hY : Y = qz_i y) (bx : -2147483648 ≤ x ∧ x < 2147483648) (bb : -2147483648 ≤ y ∧ y < 2147483648) (f : x ≤ y → A) (g : y < x → B) : (X ≤ Y → A) ∧ (¬ X ≤ Y → B) := by
  subst hX hY
  rw [qz_le bx bb]
  exact ⟨f, fun z => g (by omega)⟩
theorem qz_clt {X Y : Int32} {A B : Prop} (x y : Int) (hX : X = qz_i x) (hY : Y = qz_i y) (bx : -2147483648 ≤ x ∧ x < 2147483648) (bb : -2147483648 ≤ y ∧ y < 2147483648) (f : x < y → A) (g : y ≤ x → B) : (X < Y → A) ∧ (¬ X < Y → B) := by
  subst hX hY
  rw [qz_lt bx bb]
  exact ⟨f, fun z => g (by omega)⟩
theorem qz_ceq {X Y : Int32} {A B : Prop} (x y : Int) (hX : X = qz_i x) (hY : Y = qz_i y) (bx : -2147483648 ≤ x ∧ x < 2147483648) (bb : -2147483648 ≤ y ∧ y < 2147483648) (f : x = y → A) (g : x ≠ y → B) : (X = Y → A) ∧ (¬ X = Y → B) := by
  subst hX hY
  rw [qz_eq bx bb]
  exact ⟨f, g⟩
/-! longs -/
theorem ql_add (a b : Int) : qz_l a + qz_l b = qz_l (a + b) := (Int64.ofInt_add a b).symm
theorem ql_sub (a b : Int) : qz_l a - qz_l b = qz_l (a - b) := (Int64.ofInt_sub a b).symm
theorem ql_mul (a b : Int) : qz_l a * qz_l b = qz_l (a * b) := (Int64.ofInt_mul a b).symm
theorem ql_neg (a : Int) : -qz_l a = qz_l (-a) := (Int64.ofInt_neg a).symm
theorem ql_toInt {a : Int} (h1 : -9223372036854775808 ≤ a) (h2 : a < 9223372036854775808) : (qz_l a).toInt = a :=
  Int64.toInt_ofInt_of_le (by omega) (by omega)
theorem ql_le {a b : Int} (h1 : -9223372036854775808 ≤ a ∧ a < 9223372036854775808) (h3 : -9223372036854775808 ≤ b ∧ b < 9223372036854775808) : qz_l a ≤ qz_l b ↔ a ≤ b := by
  rw [Int64.le_iff_toInt_le, ql_toInt h1.1 h1.2, ql_toInt h3.1 h3.2]
theorem ql_lt {a b : Int} (h1 : -9223372036854775808 ≤ a ∧ a < 9223372036854775808) (h3 : -9223372036854775808 ≤ b ∧ b < 9223372036854775808) : qz_l a < qz_l b ↔ a < b := by
  rw [Int64.lt_iff_toInt_lt, ql_toInt h1.1 h1.2, ql_toInt h3.1 h3.2]
theorem ql_eq {a b : Int} (h1 : -9223372036854775808 ≤ a ∧ a < 9223372036854775808) (h3 : -9223372036854775808 ≤ b ∧ b < 9223372036854775808) : qz_l a = qz_l b ↔ a = b := by
  rw [← Int64.toInt_inj, ql_toInt h1.1 h1.2, ql_toInt h3.1 h3.2]
theorem ql_min64 : Int64.minValue.toInt = -9223372036854775808 := by decide
theorem ql_max64 : Int64.maxValue.toInt = 9223372036854775807 := by decide
theorem ql_div {a b : Int} (h1 : -9223372036854775808 ≤ a ∧ a < 9223372036854775808) (h3 : -9223372036854775808 ≤ b ∧ b < 9223372036854775808) : qz_l a / qz_l b = qz_l (a.tdiv b) := by
  refine (Int64.ofInt_tdiv ?_ ?_ ?_ ?_).symm
  · rw [ql_min64]; omega
  · rw [ql_max64]; omega
  · rw [ql_min64]; omega
  · rw [ql_max64]; omega
theorem ql_rem {a b : Int} (h1 : -9223372036854775808 ≤ a ∧ a < 9223372036854775808) (h3 : -9223372036854775808 ≤ b ∧ b < 9223372036854775808) : qz_l a - qz_l a / qz_l b * qz_l b = qz_l (a.tmod b) := by
  rw [ql_div h1 h3, ql_mul, ql_sub, Int.tmod_def, Int.mul_comm b]
theorem ql_of {a : Int} (h1 : -2147483648 ≤ a) (h2 : a < 2147483648) : (qz_i a).toInt64 = qz_l a :=
  Int32.toInt64_ofInt (by rw [qz_min32]; omega) (by rw [qz_max32]; omega)
theorem ql_back (a : Int) : (qz_l a).toInt32 = qz_i a := Int64.toInt32_ofInt
theorem ql_cle {X Y : Int64} {A B : Prop} (x y : Int) (hX : X = qz_l x) (hY : Y = qz_l y) (bx : -9223372036854775808 ≤ x ∧ x < 9223372036854775808) (bb : -9223372036854775808 ≤ y ∧ y < 9223372036854775808) (f : x ≤ y → A) (g : y < x → B) : (X ≤ Y → A) ∧ (¬ X ≤ Y → B) := by
  subst hX hY
  rw [ql_le bx bb]
  exact ⟨f, fun z => g (by omega)⟩
theorem ql_clt {X Y : Int64} {A B : Prop} (x y : Int) (hX : X = qz_l x) (hY : Y = qz_l y) (bx : -9223372036854775808 ≤ x ∧ x < 9223372036854775808) (bb : -9223372036854775808 ≤ y ∧ y < 9223372036854775808) (f : x < y → A) (g : y ≤ x → B) : (X < Y → A) ∧ (¬ X < Y → B) := by
  subst hX hY
  rw [ql_lt bx bb]
  exact ⟨f, fun z => g (by omega)⟩
theorem ql_ceq {X Y : Int64} {A B : Prop} (x y : Int) (hX : X = qz_l x) (hY : Y = qz_l y) (bx : -9223372036854775808 ≤ x ∧ x < 9223372036854775808) (bb : -9223372036854775808 ≤ y ∧ y < 9223372036854775808) (f : x = y → A) (g : x ≠ y → B) : (X = Y → A) ∧ (¬ X = Y → B) := by
  subst hX hY
  rw [ql_eq bx bb]
  exact ⟨f, g⟩
