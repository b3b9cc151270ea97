/-! numbers: Int32 and Int64 as images of integers -/
def qz_i (z : Int) : Int32 := Int32.ofInt z
def qz_l (z : Int) : Int64 := Int64.ofInt z
theorem qz_add (a b : Int) : qz_i a + qz_i b = qz_i (a + b) := (Int32.ofInt_add a b).symm
theorem qz_sub (a b : Int) : qz_i a - qz_i b = qz_i (a - b) := (Int32.ofInt_sub a b).symm
theorem qz_mul (a b : Int) : qz_i a * qz_i b = qz_i (a * b) := (Int32.ofInt_mul a b).symm
theorem qz_neg (a : Int) : -qz_i a = qz_i (-a) := (Int32.ofInt_neg a).symm
theorem qz_nI (n : Nat) : nI n = qz_i (n : Int) := (Int32.ofInt_eq_ofNat (n := n)).symm
theorem qz_self (x : Int32) : x = qz_i x.toInt := (Int32.ofInt_toInt x).symm
theorem qz_toInt {a : Int} (h1 : -2147483648 ≤ a) (h2 : a < 2147483648) : (qz_i a).toInt = a :=
  Int32.toInt_ofInt_of_le (by omega) (by omega)
theorem qz_le {a b : Int} (h1 : -2147483648 ≤ a ∧ a < 2147483648) (h3 : -2147483648 ≤ b ∧ b < 2147483648) : qz_i a ≤ qz_i b ↔ a ≤ b := by
  rw [Int32.le_iff_toInt_le, qz_toInt h1.1 h1.2, qz_toInt h3.1 h3.2]
theorem qz_lt {a b : Int} (h1 : -2147483648 ≤ a ∧ a < 2147483648) (h3 : -2147483648 ≤ b ∧ b < 2147483648) : qz_i a < qz_i b ↔ a < b := by
  rw [Int32.lt_iff_toInt_lt, qz_toInt h1.1 h1.2, qz_toInt h3.1 h3.2]
theorem qz_eq {a b : Int} (h1 : -2147483648 ≤ a ∧ a < 2147483648) (h3 : -2147483648 ≤ b ∧ b < 2147483648) : qz_i a = qz_i b ↔ a = b := by
  rw [← Int32.toInt_inj, qz_toInt h1.1 h1.2, qz_toInt h3.1 h3.2]
theorem qz_min32 : Int32.minValue.toInt = -2147483648 := by decide
theorem qz_max32 : Int32.maxValue.toInt = 2147483647 := by decide
theorem qz_div {a b : Int} (h1 : -2147483648 ≤ a ∧ a < 2147483648) (h3 : -2147483648 ≤ b ∧ b < 2147483648) : qz_i a / qz_i b = qz_i (a.tdiv b) := by
  refine (Int32.ofInt_tdiv ?_ ?_ ?_ ?_).symm
  · rw [qz_min32]; omega
  · rw [qz_max32]; omega
  · rw [qz_min32]; omega
  · rw [qz_max32]; omega
theorem qz_rem {a b : Int} (h1 : -2147483648 ≤ a ∧ a < 2147483648) (h3 : -2147483648 ≤ b ∧ b < 2147483648) : qz_i a - qz_i a / qz_i b * qz_i b = qz_i (a.tmod b) := by
  rw [qz_div h1 h3, qz_mul, qz_sub, Int.tmod_def, Int.mul_comm b]
theorem qz_in {a : Int} {N : Nat} (h0 : 0 ≤ a) (h : a < N) (hN : N < 2147483648) : vp_in (qz_i a) N := by
  rw [vp_in_iff, qz_toInt (by omega) (by omega)]
  exact ⟨h0, h⟩
theorem qz_cl {a : Int} (h0 : 0 ≤ a) (h : a < 2147483648) : (qz_i a).toNatClampNeg = a.toNat := by
  obtain ⟨n, rfl⟩ : ∃ n : Nat, a = n := ⟨a.toNat, by omega⟩
  rw [← qz_nI, nI_clamp (by omega)]
  rfl
/-! branches -/
theorem qz_cle {X Y : Int32} {A B : Prop} (x y : Int) (hX : X = qz_i x) (hY : Y = qz_i y) (bx : -2147483648 ≤ x ∧ x < 2147483648) (bb : -2147483648 ≤ y ∧ y < 2147483648) (f : x ≤ y → A) (g : y < x → B) : (X ≤ Y → A) ∧ (¬ X ≤ Y → B) := by
  subst hX hY
  rw [qz_le bx bb]
  exact ⟨f, fun z => g (by omega)⟩
theorem qz_clt {X Y : Int32} {A B : Prop} (x y : Int) (hX : X = qz_i x) (hY : Y = qz_i y) (bx : -2147483648 ≤ x ∧ x < 2147483648) (bb : -2147483648 ≤ y ∧ y < 2147483648) (f : x < y → A) (g : y ≤ x → B) : (X < Y → A) ∧ (¬ X < Y → B) := by
  subst hX hY
  rw [qz_lt bx bb]
  exact ⟨f, fun z => g (by omega)⟩
theorem qz_ceq {X Y : Int32} {A B : Prop} (x y : Int) (hX : X = qz_i x) (hY : Y = qz_i y) (bx : -2147483648 ≤ x ∧ x < 2147483648) (bb : -2147483648 ≤ y ∧ y < 2147483648) (f : x = y → A) (g : x ≠ y → B) : (X = Y → A) ∧ (¬ X = Y → B) := by
  subst hX hY
  rw [qz_eq bx bb]
  exact ⟨f, g⟩
/-! longs -/
theorem ql_add (a b : Int) : qz_l a + qz_l b = qz_l (a + b) := (Int64.ofInt_add a b).symm
theorem ql_sub (a b : Int) : qz_l a - qz_l b = qz_l (a - b) := (Int64.ofInt_sub a b).symm
theorem ql_mul (a b : Int) : qz_l a * qz_l b = qz_l (a * b) := (Int64.ofInt_mul a b).symm
theorem ql_neg (a : Int) : -qz_l a = qz_l (-a) := (Int64.ofInt_neg a).symm
theorem ql_toInt {a : Int} (h1 : -9223372036854775808 ≤ a) (h2 : a < 9223372036854775808) : (qz_l a).toInt = a :=
  Int64.toInt_ofInt_of_le (by omega) (by omega)
theorem ql_le {a b : Int} (h1 : -9223372036854775808 ≤ a ∧ a < 9223372036854775808) (h3 : -9223372036854775808 ≤ b ∧ b < 9223372036854775808) : qz_l a ≤ qz_l b ↔ a ≤ b := by
  rw [Int64.le_iff_toInt_le, ql_toInt h1.1 h1.2, ql_toInt h3.1 h3.2]
theorem ql_lt {a b : Int} (h1 : -9223372036854775808 ≤ a ∧ a < 9223372036854775808) (h3 : -9223372036854775808 ≤ b ∧ b < 9223372036854775808) : qz_l a < qz_l b ↔ a < b := by
  rw [Int64.lt_iff_toInt_lt, ql_toInt h1.1 h1.2, ql_toInt h3.1 h3.2]
theorem ql_eq {a b : Int} (h1 : -9223372036854775808 ≤ a ∧ a < 9223372036854775808) (h3 : -9223372036854775808 ≤ b ∧ b < 9223372036854775808) : qz_l a = qz_l b ↔ a = b := by
  rw [← Int64.toInt_inj, ql_toInt h1.1 h1.2, ql_toInt h3.1 h3.2]
theorem ql_min64 : Int64.minValue.toInt = -9223372036854775808 := by decide
theorem ql_max64 : Int64.maxValue.toInt = 9223372036854775807 := by decide
theorem ql_div {a b : Int} (h1 : -9223372036854775808 ≤ a ∧ a < 9223372036854775808) (h3 : -9223372036854775808 ≤ b ∧ b < 9223372036854775808) : qz_l a / qz_l b = qz_l (a.tdiv b) := by
  refine (Int64.ofInt_tdiv ?_ ?_ ?_ ?_).symm
  · rw [ql_min64]; omega
  · rw [ql_max64]; omega
  · rw [ql_min64]; omega
  · rw [ql_max64]; omega
theorem ql_rem {a b : Int} (h1 : -9223372036854775808 ≤ a ∧ a < 9223372036854775808) (h3 : -9223372036854775808 ≤ b ∧ b < 9223372036854775808) : qz_l a - qz_l a / qz_l b * qz_l b = qz_l (a.tmod b) := by
  rw [ql_div h1 h3, ql_mul, ql_sub, Int.tmod_def, Int.mul_comm b]
theorem ql_of {a : Int} (h1 : -2147483648 ≤ a) (h2 : a < 2147483648) : (qz_i a).toInt64 = qz_l a :=
  Int32.toInt64_ofInt (by rw [qz_min32]; omega) (by rw [qz_max32]; omega)
theorem ql_back (a : Int) : (qz_l a).toInt32 = qz_i a := Int64.toInt32_ofInt
theorem ql_cle {X Y : Int64} {A B : Prop} (x y : Int) (hX : X = qz_l x) (hY : Y = qz_l y) (bx : -9223372036854775808 ≤ x ∧ x < 9223372036854775808) (bb : -9223372036854775808 ≤ y ∧ y < 9223372036854775808) (f : x ≤ y → A) (g : y < x → B) : (X ≤ Y → A) ∧ (¬ X ≤ Y → B) := by
  subst hX hY
  rw [ql_le bx bb]
  exact ⟨f, fun z => g (by omega)⟩
theorem ql_clt {X Y : Int64} {A B : Prop} (x y : Int) (hX : X = qz_l x) (hY : Y = qz_l y) (bx : -9223372036854775808 ≤ x ∧ x < 9223372036854775808) (bb : -9223372036854775808 ≤ y ∧ y < 9223372036854775808) (f : x < y → A) (g : y ≤ x → B) : (X < Y → A) ∧ (¬ X < Y → B) := by
  subst hX hY
  rw [ql_lt bx bb]
  exact ⟨f, fun z => g (by omega)⟩
theorem ql_ceq {X Y : Int64} {A B : Prop} (x y : Int) (hX : X = qz_l x) (hY : Y = qz_l y) (bx : -9223372036854775808 ≤ x ∧ x < 9223372036854775808) (bb : -9223372036854775808 ≤ y ∧ y < 9223372036854775808) (f : x = y → A) (g : x ≠ y → B) : (X = Y → A) ∧ (¬ X = Y → B) := by
  subst hX hY
  rw [ql_eq bx bb]
  exact ⟨f, g⟩
/-! rows of kit/rows/PURE-ROWS -/
theorem pk_us {f : Nat → Int32} {k : Nat} {x : Int32} : upd f k x k = x := if_pos rfl
theorem pk_un {f : Nat → Int32} {k j : Nat} {x : Int32} (h : j ≠ k) : upd f k x j = f j := if_neg h
theorem pk_sub {a b : Nat} (h : b ≤ a) : nI a - nI b = nI (a - b) := by
  obtain ⟨c, rfl⟩ : ∃ c, a = c + b := ⟨a - b, by omega⟩
  rw [← nI_add, Int32.add_sub_cancel, Nat.add_sub_cancel]
theorem pk_m1 (n : Nat) : nI (n + 1) + (-1) = nI n := by
  rw [← nI_1, Int32.add_assoc, show (1 : Int32) + (-1) = 0 from rfl, Int32.add_zero]
theorem pk_mul (a b : Nat) : nI a * nI b = nI (a * b) := (Int32.ofNat_mul a b).symm
theorem pk_div {a d : Nat} (ha : a < 2 ^ 31) (h0 : 0 < d) (hd : d < 2 ^ 31) : nI a / nI d = nI (a / d) := by
  apply Int32.toInt_inj.mp
  rw [lg_idiv_nonneg (by rw [nI_toInt ha]; omega) (by rw [nI_toInt hd]; omega), nI_toInt ha, nI_toInt hd, nI_toInt (Nat.lt_of_le_of_lt (Nat.div_le_self a d) ha)]
  first | rfl | exact (Int.natCast_ediv _ _).symm
theorem pk_rem {a d : Nat} (ha : a < 2 ^ 31) (h0 : 0 < d) (hd : d < 2 ^ 31) : nI a - nI a / nI d * nI d = nI (a % d) := by
  rw [pk_div ha h0 hd, pk_mul, pk_sub (Nat.div_mul_le_self a d)]
  exact congrArg nI (by have := Nat.div_add_mod' a d; omega)
theorem pk_ix (x : Int32) {n : Nat} (hn : n < 2 ^ 31) : x < 0 ∨ nI n ≤ x ∨ ∃ j : Nat, j < n ∧ x = nI j := by
  by_cases h : x < 0
  · exact Or.inl h
  · obtain ⟨j, hj, rfl⟩ := nI_of h
    by_cases h2 : j < n
    · exact Or.inr (Or.inr ⟨j, h2, rfl⟩)
    · exact Or.inr (Or.inl (nI_le (by omega) hj))
theorem pk_le {x y : Int32} {A B : Prop} (a b : Nat) (f : a ≤ b → A) (g : b < a → B) (hx : x = nI a := by rfl) (hy : y = nI b := by rfl) (ha : a < 2 ^ 31 := by omega) (hb : b < 2 ^ 31 := by omega) : (x ≤ y → A) ∧ (¬ x ≤ y → B) := by
  subst hx hy
  rw [nI_leI ha hb]
  exact ⟨f, fun z => g (by omega)⟩
theorem pk_lt {x y : Int32} {A B : Prop} (a b : Nat) (f : a < b → A) (g : b ≤ a → B) (hx : x = nI a := by rfl) (hy : y = nI b := by rfl) (ha : a < 2 ^ 31 := by omega) (hb : b < 2 ^ 31 := by omega) : (x < y → A) ∧ (¬ x < y → B) := by
  subst hx hy
  rw [nI_ltI ha hb]
  exact ⟨f, fun z => g (by omega)⟩
theorem pk_eq {x y : Int32} {A B : Prop} (a b : Nat) (f : a = b → A) (g : a ≠ b → B) (hx : x = nI a := by rfl) (hy : y = nI b := by rfl) (ha : a < 2 ^ 31 := by omega) (hb : b < 2 ^ 31 := by omega) : (x = y → A) ∧ (¬ x = y → B) := by
  subst hx hy
  rw [nI_eq ha hb]
  exact ⟨f, g⟩
theorem pk_in {x : Int32} (n N : Nat) (h : n < N) (hx : x = nI n := by rfl) (hN : N < 2 ^ 31 := by omega) : vp_in x N := by
  subst hx
  exact vp_in_nI h hN
theorem pk_cl {x : Int32} (n : Nat) (hx : x = nI n := by rfl) (h : n < 2 ^ 31 := by omega) : x.toNatClampNeg = n := by
  subst hx
  exact nI_clamp h
/-! literals -/
theorem qk_0 : (0 : Int32) = qz_i 0 := by first | rfl | decide
theorem qk_1 : (1 : Int32) = qz_i 1 := by first | rfl | decide
theorem qk_2 : (2 : Int32) = qz_i 2 := by first | rfl | decide
theorem qk_3 : (3 : Int32) = qz_i 3 := by first | rfl | decide
theorem qk_4 : (4 : Int32) = qz_i 4 := by first | rfl | decide
theorem qk_11 : (11 : Int32) = qz_i 11 := by first | rfl | decide
theorem qk_12 : (12 : Int32) = qz_i 12 := by first | rfl | decide
theorem qk_13 : (13 : Int32) = qz_i 13 := by first | rfl | decide
theorem qk_25 : (25 : Int32) = qz_i 25 := by first | rfl | decide
theorem qk_28 : (28 : Int32) = qz_i 28 := by first | rfl | decide
theorem qk_64 : (64 : Int32) = qz_i 64 := by first | rfl | decide
theorem qk_66 : (66 : Int32) = qz_i 66 := by first | rfl | decide
theorem qk_400 : (400 : Int32) = qz_i 400 := by first | rfl | decide
theorem qk_500 : (500 : Int32) = qz_i 500 := by first | rfl | decide
theorem qk_1000 : (1000 : Int32) = qz_i 1000 := by first | rfl | decide
theorem qk_m1 : (-1 : Int32) = qz_i (-1) := by first | rfl | decide
theorem qk_m12 : (-12 : Int32) = qz_i (-12) := by first | rfl | decide
theorem qk_m13 : (-13 : Int32) = qz_i (-13) := by first | rfl | decide
theorem qk_m25 : (-25 : Int32) = qz_i (-25) := by first | rfl | decide
theorem qk_m28 : (-28 : Int32) = qz_i (-28) := by first | rfl | decide
theorem qk_m1000 : (-1000 : Int32) = qz_i (-1000) := by first | rfl | decide
theorem qk_m1000000 : (-1000000 : Int32) = qz_i (-1000000) := by first | rfl | decide
theorem qk_m1000001 : (-1000001 : Int32) = qz_i (-1000001) := by first | rfl | decide
theorem ql_k0 : (0 : Int64) = qz_l 0 := by first | rfl | decide
theorem ql_k1 : (1 : Int64) = qz_l 1 := by first | rfl | decide
theorem ql_k2 : (2 : Int64) = qz_l 2 := by first | rfl | decide
theorem ql_k4 : (4 : Int64) = qz_l 4 := by first | rfl | decide
