/-! forms of discriminant -d: the pure pictures, and the check of a table -/
abbrev qf_F : Type := Int × Int × Int
def qf_NO : Int := -1000001
/-- the c of (a, b), 0 if there is none -/
def qf_third (d a b : Int) : Int := if a < 1 then 0 else if (b * b + d) % (4 * a) = 0 then (b * b + d) / (4 * a) else 0
def qf_near (b a : Int) : Int := if a < b % (2 * a) then b % (2 * a) - 2 * a else b % (2 * a)
def qf_red (a b c : Int) : Bool := decide (-a < b) && (decide (b ≤ a) && (decide (a < c) || (decide (a = c) && decide (0 ≤ b))))
def qf_ix : List qf_F → Int → Int → Int → Int
  | [], _, _, _ => qf_NO
  | f :: t, a, b, k => if f.1 = a then (if f.2.1 = b then k else qf_ix t a b (k + 1)) else qf_ix t a b (k + 1)
def qf_fc (d : Int) (L : List qf_F) : Nat → Int → Int → Int
  | 0, _, _ => qf_NO
  | n + 1, a, b => if qf_red a (qf_near b a) (qf_third d a (qf_near b a)) = true then qf_ix L a (qf_near b a) 0 else qf_fc d L n (qf_third d a (qf_near b a)) (-qf_near b a)
def qf_fcl (d : Int) (L : List qf_F) (a b : Int) : Int := if qf_third d a b = 0 then qf_NO else qf_fc d L 1000 a b
/-- the search of the component for a product: t, then e -/
def qf_ft (d : Int) (L : List qf_F) (j a e : Int) : Nat → Int → Option Int
  | 0, _ => none
  | n + 1, b => if qf_fcl d L e b = j then some (qf_fcl d L (a * e) b) else qf_ft d L j a e n (b + 2 * a)
def qf_fe (d : Int) (L : List qf_F) (j a b : Int) : Nat → Nat → Int
  | 0, _ => qf_NO
  | n + 1, e => if Nat.gcd a.natAbs e = 1 then (match qf_ft d L j a (e : Int) e b with | some r => r | none => qf_fe d L j a b n (e + 1)) else qf_fe d L j a b n (e + 1)
/-- the lists of the component and of the reference -/
def qf_g3 (a b c : Int) : Nat := Nat.gcd (Nat.gcd a.natAbs b.natAbs) c.natAbs
def qf_ok (d a b : Int) : Bool := qf_red a b (qf_third d a b) && decide (qf_g3 a b (qf_third d a b) = 1)
def qf_lb (d a : Int) : Nat → Int → List qf_F → List qf_F
  | 0, _, acc => acc
  | n + 1, b, acc => qf_lb d a n (b + 1) (if qf_ok d a b = true then acc ++ [(a, b, qf_third d a b)] else acc)
def qf_la (d : Int) : Nat → Nat → List qf_F → List qf_F
  | 0, _, acc => acc
  | n + 1, a, acc => qf_la d n (a + 1) (qf_lb d (a : Int) (2 * a) (1 - (a : Int)) acc)
def qf_ly (d : Nat) : Nat → Nat → List qf_F → List qf_F
  | 0, _, acc => acc
  | n + 1, a, acc => if 3 * a * a ≤ d then qf_ly d n (a + 1) (qf_lb d (a : Int) (2 * a) (1 - (a : Int)) acc) else acc
/-- the reference's search for a product -/
def qf_cs (p r q : Int) : Nat → Int → Option Int
  | 0, _ => none
  | n + 1, s => if p * s - q * r = 1 then some s else qf_cs p r q n (s + 1)
def qf_cq (p r : Int) : Nat → Int → Option (Int × Int)
  | 0, _ => none
  | n + 1, q => match qf_cs p r q 27 (-13) with | some s => some (q, s) | none => qf_cq p r n (q + 1)
def qf_ctN : Nat := 0x2cf2f03a8c2f3d955005aa4c19b9790eaeb4e52dd3f008ae4421a971666746828c47bda7dfb6156322f58ac1748a4de9338fdc841bfa5d3f2bf15155c776d415c15b9d297d44e003e5f60eb6f06be02189c9493eda237a158ba06775a4697ab9f9afc720ae4c062f6d72e7137a117db7d76382ca300837f2569a36a422c0d5cf4c87cc5093b2ad55c80eb6c8db0ccbae00dcaa214bd11763ea45967a81a9bb24bc96617871eaeb9cf6961a936f92c4939352c8435400a96e9593c31f5fa5217525c1ff0af1b8f12d0a43267411e9e28e9176a1ef587d7aefb2ca1a2a0fc295627226571e4044aa49f48b6ed4f6fd61c910831501f53dcedf756970b39a7af149e8dddc81e98e313c3901d6eccc8fc9b8163f9aaf4ecfd65c90f030e08bc1c682816834f4c32f7a9a9e00ad0c3b46dc2c77d78effc32e1333c75881bd280508efb46cb331a111de09ce2b4034f79fd941b31d1924d25da318e4ba546b2ec61b39e7c1bede6f909cfd69ea2648cda57ba19f5f2e11aca4ec4e82ae3975880c489e16
def qf_ctd (p r : Int) : Nat := qf_ctN / 729 ^ (25 * p + r + 12).toNat % 729
def qf_ct (p r : Int) : Int × Int := (((qf_ctd p r / 27 : Nat) : Int) - 13, ((qf_ctd p r % 27 : Nat) : Int) - 13)
def qf_val (f : qf_F) (x y : Int) : Int := f.1 * x * x + f.2.1 * x * y + f.2.2 * y * y
def qf_mid (f : qf_F) (p r : Int) (z : Int × Int) : Int := 2 * f.1 * p * z.1 + f.2.1 * (p * z.2 + z.1 * r) + 2 * f.2.2 * r * z.2
def qf_sy (f : qf_F) (o x : Int) : Nat → Int → Option (Int × Int)
  | 0, _ => none
  | n + 1, y => if Nat.gcd x.natAbs y.natAbs = 1 then (if Nat.gcd (qf_val f x y).natAbs o.natAbs = 1 then some (qf_val f x y, qf_mid f x y (qf_ct x y)) else qf_sy f o x n (y + 1)) else qf_sy f o x n (y + 1)
def qf_sx (f : qf_F) (o : Int) : Nat → Int → Option (Int × Int)
  | 0, _ => none
  | n + 1, x => match qf_sy f o x 25 (-12) with | some r => some r | none => qf_sx f o n (x + 1)
def qf_is (a f : Int) : Nat → Int → Int
  | 0, _ => 0
  | n + 1, s => if (1 + s * f) % a = 0 then (1 + s * f) / a else qf_is a f n (s + 1)
def qf_t0 (a b f m : Int) : Int := ((m - b) / 2 * qf_is a f 11 0) % f
def qf_yk (d : Int) (L : List qf_F) (a b P : Int) : Option (Int × Int) → Bool
  | none => false
  | some z => decide (0 < z.1) && (decide (z.1 < 100000) && (decide (-1000000 < z.2) && (decide (z.2 < 1000000) && (decide (Nat.gcd a.natAbs z.1.natAbs = 1) && (decide ((b + 2 * a * qf_t0 a b z.1 z.2 - z.2) % (2 * z.1) = 0) && decide (qf_fcl d L (a * z.1) (b + 2 * a * qf_t0 a b z.1 z.2) = P))))))
/-- the table of products, 5 bits a class -/
def qf_P (N h i j : Nat) : Nat := N / 32 ^ (h * i + j) % 32
def qf_at (L : List qf_F) (k : Nat) : qf_F := L.getD k (0, 0, 0)
def qf_it (N h i : Nat) : Nat → Nat → Nat
  | 0, k => k
  | n + 1, k => qf_it N h i n (qf_P N h k i)
def qf_ent (d : Int) (f : qf_F) : Bool := decide (1 ≤ f.1) && (decide (f.1 ≤ 11) && (qf_red f.1 f.2.1 f.2.2 && (decide (4 * f.1 * f.2.2 = f.2.1 * f.2.1 + d) && (decide (qf_g3 f.1 f.2.1 f.2.2 = 1) && decide (f.2.2 ≤ 120)))))
def qf_c1 (d : Nat) (L : List qf_F) : Bool := decide (qf_la d 11 1 [] = L) && (decide (qf_ly d 20 1 [] = L) && (decide (L.length ≤ 31) && (decide (0 < L.length) && decide ((qf_at L 0).1 = 1))))
def qf_c2 (d : Nat) (L : List qf_F) : Bool := L.all (qf_ent d)
def qf_c3 (d : Nat) (L : List qf_F) : Bool := (List.range 12).all fun a => (List.range (2 * a)).all fun t => !qf_ok d a (1 - (a : Int) + t) || decide (0 ≤ qf_ix L a (1 - (a : Int) + t) 0)
def qf_c4 (d : Nat) (L : List qf_F) (N : Nat) : Bool := (List.range L.length).all fun i => (List.range L.length).all fun j => decide (qf_P N L.length i j < L.length) && (decide (qf_fe d L j (qf_at L i).1 (qf_at L i).2.1 (1001 - (qf_at L j).1.toNat) (qf_at L j).1.toNat = qf_P N L.length i j) && qf_yk d L (qf_at L i).1 (qf_at L i).2.1 (qf_P N L.length i j) (qf_sx (qf_at L j) (qf_at L i).1 13 0))
def qf_inv (d : Nat) (L : List qf_F) (i : Nat) : Nat := (qf_fcl d L (qf_at L i).1 (-(qf_at L i).2.1)).toNat
def qf_c5 (d : Nat) (L : List qf_F) (N : Nat) : Bool := (List.range L.length).all fun i => decide (0 ≤ qf_fcl d L (qf_at L i).1 (-(qf_at L i).2.1)) && (decide (qf_inv d L i < L.length) && (decide (qf_P N L.length i (qf_inv d L i) = 0) && ((List.range (qf_inv d L i)).all (fun j => !decide (qf_P N L.length i j = 0)) && (List.range L.length).any fun t => decide (qf_it N L.length i t i = 0))))
def qf_chk (d : Nat) (L : List qf_F) (N : Nat) : Bool := qf_c1 d L && (qf_c2 d L && (qf_c3 d L && (qf_c4 d L N && qf_c5 d L N)))
theorem qf_ct_ok : (List.range 13).all (fun p => (List.range 25).all fun r => !decide (Nat.gcd p ((r : Int) - 12).natAbs = 1) || decide (qf_cq p ((r : Int) - 12) 27 (-13) = some (qf_ct p ((r : Int) - 12)))) = true := by decide +kernel
