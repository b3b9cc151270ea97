section
/-! forms of discriminant -d: the pure pictures, and the check of a table -/
abbrev qf_F : Type := Int × Int × Int
def qf_NO : Int := -1000001
/-- the c of (a, b), 0 if there is none -/
def qf_third (d a b : Int) : Int := if a < 1 then 0 else if (b * b + d) % (4 * a) = 0 then (b * b + d) / (4 * a) else 0
def qf_near (b a : Int) : Int := if a < b % (2 * a) then b % (2 * a) - 2 * a else b % (2 * a)
def qf_red (a b c : Int) : Bool := decide (-a < b) && (decide (b ≤ a) && (decide (a < c) || (decide (a = c) && decide (0 ≤ b))))
def qf_ix : List qf_F → Int → Int → Int → Int
  | [], _, _, _ => qf_NO
  | f :: t, a, b, k => if f.1 = a then (if f.2.1 = b then k else qf_ix t a b (k + 1)) else qf_ix t a b (k + 1)
def qf_fc (d : Int) (L : List qf_F) : Nat → Int → Int → Int
  | 0, _, _ => qf_NO
  | n + 1, a, b => if qf_red a (qf_near b a) (qf_third d a (qf_near b a)) = true then qf_ix L a (qf_near b a) 0 else qf_fc d L n (qf_third d a (qf_near b a)) (-qf_near b a)
def qf_fcl (d : Int) (L : List qf_F) (a b : Int) : Int := if qf_third d a b = 0 then qf_NO else qf_fc d L 1000 a b
/-- the search of the component for a product: t, then e -/
def qf_ft (d : Int) (L : List qf_F) (j a e : Int) : Nat → Int → Option Int
  | 0, _ => none
  | n + 1, b => if qf_fcl d L e b = j then some (qf_fcl d L (a * e) b) else qf_ft d L j a e n (b + 2 * a)
def qf_fe (d : Int) (L : List qf_F) (j a b : Int) : Nat → Nat → Int
  | 0, _ => qf_NO
  | n + 1, e => if Nat.gcd a.natAbs e = 1 then (match qf_ft d L j a (e : Int) e b with | some r => r | none => qf_fe d L j a b n (e + 1)) else qf_fe d L j a b n (e + 1)
/-- the lists of the component and of the reference -/
def qf_g3 (a b c : Int) : Nat := Nat.gcd (Nat.gcd a.natAbs b.natAbs) c.natAbs
def qf_ok (d a b : Int) : Bool := qf_red a b (qf_third d a b) && decide (qf_g3 a b (qf_third d a b) = 1)
def qf_lb (d a : Int) : Nat → Int → List qf_F → List qf_F
  | 0, _, acc => acc
  | n + 1, b, acc => qf_lb d a n (b + 1) (if qf_ok d a b = true then acc ++ [(a, b, qf_third d a b)] else acc)
def qf_la (d : Int) : Nat → Nat → List qf_F → List qf_F
  | 0, _, acc => acc
  | n + 1, a, acc => qf_la d n (a + 1) (qf_lb d (a : Int) (2 * a) (1 - (a : Int)) acc)
def qf_ly (d : Nat) : Nat → Nat → List qf_F → List qf_F
  | 0, _, acc => acc
  | n + 1, a, acc => if 3 * a * a ≤ d then qf_ly d n (a + 1) (qf_lb d (a : Int) (2 * a) (1 - (a : Int)) acc) else acc
/-- the reference's search for a product -/
def qf_cs (p r q : Int) : Nat → Int → Option Int
  | 0, _ => none
  | n + 1, s => if p * s - q * r = 1 then some s else qf_cs p r q n (s + 1)
def qf_cq (p r : Int) : Nat → Int → Option (Int × Int)
  | 0, _ => none
  | n + 1, q => match qf_cs p r q 27 (-13) with | some s => some (q, s) | none => qf_cq p r n (q + 1)
def qf_ctN : Nat := 0x2cf2f03a8c2f3d955005aa4c19b9790eaeb4e52dd3f008ae4421a971666746828c47bda7dfb6156322f58ac1748a4de9338fdc841bfa5d3f2bf15155c776d415c15b9d297d44e003e5f60eb6f06be02189c9493eda237a158ba06775a4697ab9f9afc720ae4c062f6d72e7137a117db7d76382ca300837f2569a36a422c0d5cf4c87cc5093b2ad55c80eb6c8db0ccbae00dcaa214bd11763ea45967a81a9bb24bc96617871eaeb9cf6961a936f92c4939352c8435400a96e9593c31f5fa5217525c1ff0af1b8f12d0a43267411e9e28e9176a1ef587d7aefb2ca1a2a0fc295627226571e4044aa49f48b6ed4f6fd61c910831501f53dcedf756970b39a7af149e8dddc81e98e313c3901d6eccc8fc9b8163f9aaf4ecfd65c90f030e08bc1c682816834f4c32f7a9a9e00ad0c3b46dc2c77d78effc32e1333c75881bd280508efb46cb331a111de09ce2b4034f79fd941b31d1924d25da318e4ba546b2ec61b39e7c1bede6f909cfd69ea2648cda57ba19f5f2e11aca4ec4e82ae3975880c489e16
def qf_ctd (p r : Int) : Nat := qf_ctN / 729 ^ (25 * p + r + 12).toNat % 729
def qf_ct (p r : Int) : Int × Int := (((qf_ctd p r / 27 : Nat) : Int) - 13, ((qf_ctd p r % 27 : Nat) : Int) - 13)
def qf_val (f : qf_F) (x y : Int) : Int := f.1 * x * x + f.2.1 * x * y + f.2.2 * y * y
def qf_mid (f : qf_F) (p r : Int) (z : Int × Int) : Int := 2 * f.1 * p * z.1 + f.2.1 * (p * z.2 + z.1 * r) + 2 * f.2.2 * r * z.2
def qf_sy (f : qf_F) (o x : Int) : Nat → Int → Option (Int × Int)
  | 0, _ => none
  | n + 1, y => if Nat.gcd x.natAbs y.natAbs = 1 then (if Nat.gcd (qf_val f x y).natAbs o.natAbs = 1 then some (qf_val f x y, qf_mid f x y (qf_ct x y)) else qf_sy f o x n (y + 1)) else qf_sy f o x n (y + 1)
def qf_sx (f : qf_F) (o : Int) : Nat → Int → Option (Int × Int)
  | 0, _ => none
  | n + 1, x => match qf_sy f o x 25 (-12) with | some r => some r | none => qf_sx f o n (x + 1)
def qf_is (a f : Int) : Nat → Int → Int
  | 0, _ => 0
  | n + 1, s => if (1 + s * f) % a = 0 then (1 + s * f) / a else qf_is a f n (s + 1)
def qf_t0 (a b f m : Int) : Int := ((m - b) / 2 * qf_is a f 11 0) % f
def qf_yk (d : Int) (L : List qf_F) (a b P : Int) : Option (Int × Int) → Bool
  | none => false
  | some z => decide (0 < z.1) && (decide (z.1 < 100000) && (decide (-1000000 < z.2) && (decide (z.2 < 1000000) && (decide (Nat.gcd a.natAbs z.1.natAbs = 1) && (decide ((b + 2 * a * qf_t0 a b z.1 z.2 - z.2) % (2 * z.1) = 0) && decide (qf_fcl d L (a * z.1) (b + 2 * a * qf_t0 a b z.1 z.2) = P))))))
/-- the table of products, 5 bits a class -/
def qf_P (N h i j : Nat) : Nat := N / 32 ^ (h * i + j) % 32
def qf_at (L : List qf_F) (k : Nat) : qf_F := L.getD k (0, 0, 0)
def qf_it (N h i : Nat) : Nat → Nat → Nat
  | 0, k => k
  | n + 1, k => qf_it N h i n (qf_P N h k i)
def qf_ent (d : Int) (f : qf_F) : Bool := decide (1 ≤ f.1) && (decide (f.1 ≤ 11) && (qf_red f.1 f.2.1 f.2.2 && (decide (4 * f.1 * f.2.2 = f.2.1 * f.2.1 + d) && (decide (qf_g3 f.1 f.2.1 f.2.2 = 1) && decide (f.2.2 ≤ 120)))))
def qf_c1 (d : Nat) (L : List qf_F) : Bool := decide (qf_la d 11 1 [] = L) && (decide (qf_ly d 20 1 [] = L) && (decide (L.length ≤ 31) && (decide (0 < L.length) && decide ((qf_at L 0).1 = 1))))
def qf_c2 (d : Nat) (L : List qf_F) : Bool := L.all (qf_ent d)
def qf_c3 (d : Nat) (L : List qf_F) : Bool := (List.range 12).all fun a => (List.range (2 * a)).all fun t => !qf_ok d a (1 - (a : Int) + t) || decide (0 ≤ qf_ix L a (1 - (a : Int) + t) 0)
def qf_c4 (d : Nat) (L : List qf_F) (N : Nat) : Bool := (List.range L.length).all fun i => (List.range L.length).all fun j => decide (qf_P N L.length i j < L.length) && (decide (qf_fe d L j (qf_at L i).1 (qf_at L i).2.1 (1001 - (qf_at L j).1.toNat) (qf_at L j).1.toNat = qf_P N L.length i j) && qf_yk d L (qf_at L i).1 (qf_at L i).2.1 (qf_P N L.length i j) (qf_sx (qf_at L j) (qf_at L i).1 13 0))
def qf_inv (d : Nat) (L : List qf_F) (i : Nat) : Nat := (qf_fcl d L (qf_at L i).1 (-(qf_at L i).2.1)).toNat
def qf_c5 (d : Nat) (L : List qf_F) (N : Nat) : Bool := (List.range L.length).all fun i => decide (0 ≤ qf_fcl d L (qf_at L i).1 (-(qf_at L i).2.1)) && (decide (qf_inv d L i < L.length) && (decide (qf_P N L.length i (qf_inv d L i) = 0) && ((List.range (qf_inv d L i)).all (fun j => !decide (qf_P N L.length i j = 0)) && (List.range L.length).any fun t => decide (qf_it N L.length i t i = 0))))
def qf_chk (d : Nat) (L : List qf_F) (N : Nat) : Bool := qf_c1 d L && (qf_c2 d L && (qf_c3 d L && (qf_c4 d L N && qf_c5 d L N)))
theorem qf_ct_ok : (List.range 13).all (fun p => (List.range 25).all fun r => !decide (Nat.gcd p ((r : Int) - 12).natAbs = 1) || decide (qf_cq p ((r : Int) - 12) 27 (-13) = some (qf_ct p ((r : Int) - 12)))) = true := by decide +kernel
end
section
/-! tables, part 0: written by wip/tables.py -/
theorem qf_t3 : qf_chk 3 [(.ofNat 1, .ofNat 1, .ofNat 1)] 0x0 = true := by decide +kernel
theorem qf_t4 : qf_chk 4 [(.ofNat 1, .ofNat 0, .ofNat 1)] 0x0 = true := by decide +kernel
theorem qf_t7 : qf_chk 7 [(.ofNat 1, .ofNat 1, .ofNat 2)] 0x0 = true := by decide +kernel
theorem qf_t8 : qf_chk 8 [(.ofNat 1, .ofNat 0, .ofNat 2)] 0x0 = true := by decide +kernel
theorem qf_t11 : qf_chk 11 [(.ofNat 1, .ofNat 1, .ofNat 3)] 0x0 = true := by decide +kernel
theorem qf_t12 : qf_chk 12 [(.ofNat 1, .ofNat 0, .ofNat 3)] 0x0 = true := by decide +kernel
theorem qf_t15 : qf_chk 15 [(.ofNat 1, .ofNat 1, .ofNat 4), (.ofNat 2, .ofNat 1, .ofNat 2)] 0x420 = true := by decide +kernel
theorem qf_t16 : qf_chk 16 [(.ofNat 1, .ofNat 0, .ofNat 4)] 0x0 = true := by decide +kernel
theorem qf_t19 : qf_chk 19 [(.ofNat 1, .ofNat 1, .ofNat 5)] 0x0 = true := by decide +kernel
theorem qf_t20 : qf_chk 20 [(.ofNat 1, .ofNat 0, .ofNat 5), (.ofNat 2, .ofNat 2, .ofNat 3)] 0x420 = true := by decide +kernel
theorem qf_t23 : qf_chk 23 [(.ofNat 1, .ofNat 1, .ofNat 6), (.ofNat 2, .negSucc 0, .ofNat 3), (.ofNat 2, .ofNat 1, .ofNat 3)] 0x10080208820 = true := by decide +kernel
theorem qf_t24 : qf_chk 24 [(.ofNat 1, .ofNat 0, .ofNat 6), (.ofNat 2, .ofNat 0, .ofNat 3)] 0x420 = true := by decide +kernel
theorem qf_t27 : qf_chk 27 [(.ofNat 1, .ofNat 1, .ofNat 7)] 0x0 = true := by decide +kernel
theorem qf_t28 : qf_chk 28 [(.ofNat 1, .ofNat 0, .ofNat 7)] 0x0 = true := by decide +kernel
theorem qf_t31 : qf_chk 31 [(.ofNat 1, .ofNat 1, .ofNat 8), (.ofNat 2, .negSucc 0, .ofNat 4), (.ofNat 2, .ofNat 1, .ofNat 4)] 0x10080208820 = true := by decide +kernel
theorem qf_t32 : qf_chk 32 [(.ofNat 1, .ofNat 0, .ofNat 8), (.ofNat 3, .ofNat 2, .ofNat 3)] 0x420 = true := by decide +kernel
theorem qf_t35 : qf_chk 35 [(.ofNat 1, .ofNat 1, .ofNat 9), (.ofNat 3, .ofNat 1, .ofNat 3)] 0x420 = true := by decide +kernel
theorem qf_t36 : qf_chk 36 [(.ofNat 1, .ofNat 0, .ofNat 9), (.ofNat 2, .ofNat 2, .ofNat 5)] 0x420 = true := by decide +kernel
theorem qf_t39 : qf_chk 39 [(.ofNat 1, .ofNat 1, .ofNat 10), (.ofNat 2, .negSucc 0, .ofNat 5), (.ofNat 2, .ofNat 1, .ofNat 5), (.ofNat 3, .ofNat 3, .ofNat 4)] 0x44308c021006118820 = true := by decide +kernel
theorem qf_t40 : qf_chk 40 [(.ofNat 1, .ofNat 0, .ofNat 10), (.ofNat 2, .ofNat 0, .ofNat 5)] 0x420 = true := by decide +kernel
theorem qf_t43 : qf_chk 43 [(.ofNat 1, .ofNat 1, .ofNat 11)] 0x0 = true := by decide +kernel
theorem qf_t44 : qf_chk 44 [(.ofNat 1, .ofNat 0, .ofNat 11), (.ofNat 3, .negSucc 1, .ofNat 4), (.ofNat 3, .ofNat 2, .ofNat 4)] 0x10080208820 = true := by decide +kernel
theorem qf_t47 : qf_chk 47 [(.ofNat 1, .ofNat 1, .ofNat 12), (.ofNat 2, .negSucc 0, .ofNat 6), (.ofNat 2, .ofNat 1, .ofNat 6), (.ofNat 3, .negSucc 0, .ofNat 4), (.ofNat 3, .ofNat 1, .ofNat 4)] 0x2004640048218483008620102418820 = true := by decide +kernel
theorem qf_t48 : qf_chk 48 [(.ofNat 1, .ofNat 0, .ofNat 12), (.ofNat 3, .ofNat 0, .ofNat 4)] 0x420 = true := by decide +kernel
theorem qf_t51 : qf_chk 51 [(.ofNat 1, .ofNat 1, .ofNat 13), (.ofNat 3, .ofNat 3, .ofNat 5)] 0x420 = true := by decide +kernel
theorem qf_t52 : qf_chk 52 [(.ofNat 1, .ofNat 0, .ofNat 13), (.ofNat 2, .ofNat 2, .ofNat 7)] 0x420 = true := by decide +kernel
theorem qf_t55 : qf_chk 55 [(.ofNat 1, .ofNat 1, .ofNat 14), (.ofNat 2, .negSucc 0, .ofNat 7), (.ofNat 2, .ofNat 1, .ofNat 7), (.ofNat 4, .ofNat 3, .ofNat 4)] 0x44308c021006118820 = true := by decide +kernel
theorem qf_t56 : qf_chk 56 [(.ofNat 1, .ofNat 0, .ofNat 14), (.ofNat 2, .ofNat 0, .ofNat 7), (.ofNat 3, .negSucc 1, .ofNat 5), (.ofNat 3, .ofNat 2, .ofNat 5)] 0x80430046210c0118820 = true := by decide +kernel
theorem qf_t59 : qf_chk 59 [(.ofNat 1, .ofNat 1, .ofNat 15), (.ofNat 3, .negSucc 0, .ofNat 5), (.ofNat 3, .ofNat 1, .ofNat 5)] 0x10080208820 = true := by decide +kernel
theorem qf_t60 : qf_chk 60 [(.ofNat 1, .ofNat 0, .ofNat 15), (.ofNat 3, .ofNat 0, .ofNat 5)] 0x420 = true := by decide +kernel
theorem qf_t63 : qf_chk 63 [(.ofNat 1, .ofNat 1, .ofNat 16), (.ofNat 2, .negSucc 0, .ofNat 8), (.ofNat 2, .ofNat 1, .ofNat 8), (.ofNat 4, .ofNat 1, .ofNat 4)] 0x44308c021006118820 = true := by decide +kernel
theorem qf_t64 : qf_chk 64 [(.ofNat 1, .ofNat 0, .ofNat 16), (.ofNat 4, .ofNat 4, .ofNat 5)] 0x420 = true := by decide +kernel
theorem qf_t67 : qf_chk 67 [(.ofNat 1, .ofNat 1, .ofNat 17)] 0x0 = true := by decide +kernel
theorem qf_t68 : qf_chk 68 [(.ofNat 1, .ofNat 0, .ofNat 17), (.ofNat 2, .ofNat 2, .ofNat 9), (.ofNat 3, .negSucc 1, .ofNat 6), (.ofNat 3, .ofNat 2, .ofNat 6)] 0x80430046210c0118820 = true := by decide +kernel
theorem qf_t71 : qf_chk 71 [(.ofNat 1, .ofNat 1, .ofNat 18), (.ofNat 2, .negSucc 0, .ofNat 9), (.ofNat 2, .ofNat 1, .ofNat 9), (.ofNat 3, .negSucc 0, .ofNat 6), (.ofNat 3, .ofNat 1, .ofNat 6), (.ofNat 4, .negSucc 2, .ofNat 5), (.ofNat 4, .ofNat 3, .ofNat 5)] 0x4008a11980330482288c100ca4284023106120cc50086229006098a418820 = true := by decide +kernel
theorem qf_t72 : qf_chk 72 [(.ofNat 1, .ofNat 0, .ofNat 18), (.ofNat 2, .ofNat 0, .ofNat 9)] 0x420 = true := by decide +kernel
theorem qf_t75 : qf_chk 75 [(.ofNat 1, .ofNat 1, .ofNat 19), (.ofNat 3, .ofNat 3, .ofNat 7)] 0x420 = true := by decide +kernel
theorem qf_t76 : qf_chk 76 [(.ofNat 1, .ofNat 0, .ofNat 19), (.ofNat 4, .negSucc 1, .ofNat 5), (.ofNat 4, .ofNat 2, .ofNat 5)] 0x10080208820 = true := by decide +kernel
theorem qf_t79 : qf_chk 79 [(.ofNat 1, .ofNat 1, .ofNat 20), (.ofNat 2, .negSucc 0, .ofNat 10), (.ofNat 2, .ofNat 1, .ofNat 10), (.ofNat 4, .negSucc 0, .ofNat 5), (.ofNat 4, .ofNat 1, .ofNat 5)] 0x100c440082418c240084400c2418820 = true := by decide +kernel
theorem qf_t80 : qf_chk 80 [(.ofNat 1, .ofNat 0, .ofNat 20), (.ofNat 3, .negSucc 1, .ofNat 7), (.ofNat 3, .ofNat 2, .ofNat 7), (.ofNat 4, .ofNat 0, .ofNat 5)] 0x44308c021006118820 = true := by decide +kernel
theorem qf_t83 : qf_chk 83 [(.ofNat 1, .ofNat 1, .ofNat 21), (.ofNat 3, .negSucc 0, .ofNat 7), (.ofNat 3, .ofNat 1, .ofNat 7)] 0x10080208820 = true := by decide +kernel
theorem qf_t84 : qf_chk 84 [(.ofNat 1, .ofNat 0, .ofNat 21), (.ofNat 2, .ofNat 2, .ofNat 11), (.ofNat 3, .ofNat 0, .ofNat 7), (.ofNat 5, .ofNat 4, .ofNat 5)] 0x4430806210c0118820 = true := by decide +kernel
theorem qf_t87 : qf_chk 87 [(.ofNat 1, .ofNat 1, .ofNat 22), (.ofNat 2, .negSucc 0, .ofNat 11), (.ofNat 2, .ofNat 1, .ofNat 11), (.ofNat 3, .ofNat 3, .ofNat 8), (.ofNat 4, .negSucc 2, .ofNat 6), (.ofNat 4, .ofNat 3, .ofNat 6)] 0x200411940508c441040520c232900218880284a418820 = true := by decide +kernel
theorem qf_t88 : qf_chk 88 [(.ofNat 1, .ofNat 0, .ofNat 22), (.ofNat 2, .ofNat 0, .ofNat 11)] 0x420 = true := by decide +kernel
theorem qf_t91 : qf_chk 91 [(.ofNat 1, .ofNat 1, .ofNat 23), (.ofNat 5, .ofNat 3, .ofNat 5)] 0x420 = true := by decide +kernel
theorem qf_t92 : qf_chk 92 [(.ofNat 1, .ofNat 0, .ofNat 23), (.ofNat 3, .negSucc 1, .ofNat 8), (.ofNat 3, .ofNat 2, .ofNat 8)] 0x10080208820 = true := by decide +kernel
theorem qf_t95 : qf_chk 95 [(.ofNat 1, .ofNat 1, .ofNat 24), (.ofNat 2, .negSucc 0, .ofNat 12), (.ofNat 2, .ofNat 1, .ofNat 12), (.ofNat 3, .negSucc 0, .ofNat 8), (.ofNat 3, .ofNat 1, .ofNat 8), (.ofNat 4, .negSucc 0, .ofNat 6), (.ofNat 4, .ofNat 1, .ofNat 6), (.ofNat 5, .ofNat 5, .ofNat 6)] 0x14c20906729c0120c46300e31048510466014e40904029cc320c253980218887300a1398a418820 = true := by decide +kernel
theorem qf_t96 : qf_chk 96 [(.ofNat 1, .ofNat 0, .ofNat 24), (.ofNat 3, .ofNat 0, .ofNat 8), (.ofNat 4, .ofNat 4, .ofNat 7), (.ofNat 5, .ofNat 2, .ofNat 5)] 0x4430806210c0118820 = true := by decide +kernel
theorem qf_t99 : qf_chk 99 [(.ofNat 1, .ofNat 1, .ofNat 25), (.ofNat 5, .ofNat 1, .ofNat 5)] 0x420 = true := by decide +kernel
theorem qf_t100 : qf_chk 100 [(.ofNat 1, .ofNat 0, .ofNat 25), (.ofNat 2, .ofNat 2, .ofNat 13)] 0x420 = true := by decide +kernel
theorem qf_b3 (d : Nat) (h1 : 3 ≤ d) (h2 : d ≤ 20) (hv : d % 4 = 0 ∨ d % 4 = 3) : ∃ L N, qf_chk d L N = true := by
  have h : d = 3 ∨ d = 4 ∨ d = 7 ∨ d = 8 ∨ d = 11 ∨ d = 12 ∨ d = 15 ∨ d = 16 ∨ d = 19 ∨ d = 20 := by omega
  rcases h with rfl | rfl | rfl | rfl | rfl | rfl | rfl | rfl | rfl | rfl
  · exact ⟨_, _, qf_t3⟩
  · exact ⟨_, _, qf_t4⟩
  · exact ⟨_, _, qf_t7⟩
  · exact ⟨_, _, qf_t8⟩
  · exact ⟨_, _, qf_t11⟩
  · exact ⟨_, _, qf_t12⟩
  · exact ⟨_, _, qf_t15⟩
  · exact ⟨_, _, qf_t16⟩
  · exact ⟨_, _, qf_t19⟩
  · exact ⟨_, _, qf_t20⟩
theorem qf_b23 (d : Nat) (h1 : 23 ≤ d) (h2 : d ≤ 40) (hv : d % 4 = 0 ∨ d % 4 = 3) : ∃ L N, qf_chk d L N = true := by
  have h : d = 23 ∨ d = 24 ∨ d = 27 ∨ d = 28 ∨ d = 31 ∨ d = 32 ∨ d = 35 ∨ d = 36 ∨ d = 39 ∨ d = 40 := by omega
  rcases h with rfl | rfl | rfl | rfl | rfl | rfl | rfl | rfl | rfl | rfl
  · exact ⟨_, _, qf_t23⟩
  · exact ⟨_, _, qf_t24⟩
  · exact ⟨_, _, qf_t27⟩
  · exact ⟨_, _, qf_t28⟩
  · exact ⟨_, _, qf_t31⟩
  · exact ⟨_, _, qf_t32⟩
  · exact ⟨_, _, qf_t35⟩
  · exact ⟨_, _, qf_t36⟩
  · exact ⟨_, _, qf_t39⟩
  · exact ⟨_, _, qf_t40⟩
theorem qf_b43 (d : Nat) (h1 : 43 ≤ d) (h2 : d ≤ 60) (hv : d % 4 = 0 ∨ d % 4 = 3) : ∃ L N, qf_chk d L N = true := by
  have h : d = 43 ∨ d = 44 ∨ d = 47 ∨ d = 48 ∨ d = 51 ∨ d = 52 ∨ d = 55 ∨ d = 56 ∨ d = 59 ∨ d = 60 := by omega
  rcases h with rfl | rfl | rfl | rfl | rfl | rfl | rfl | rfl | rfl | rfl
  · exact ⟨_, _, qf_t43⟩
  · exact ⟨_, _, qf_t44⟩
  · exact ⟨_, _, qf_t47⟩
  · exact ⟨_, _, qf_t48⟩
  · exact ⟨_, _, qf_t51⟩
  · exact ⟨_, _, qf_t52⟩
  · exact ⟨_, _, qf_t55⟩
  · exact ⟨_, _, qf_t56⟩
  · exact ⟨_, _, qf_t59⟩
  · exact ⟨_, _, qf_t60⟩
theorem qf_b63 (d : Nat) (h1 : 63 ≤ d) (h2 : d ≤ 80) (hv : d % 4 = 0 ∨ d % 4 = 3) : ∃ L N, qf_chk d L N = true := by
  have h : d = 63 ∨ d = 64 ∨ d = 67 ∨ d = 68 ∨ d = 71 ∨ d = 72 ∨ d = 75 ∨ d = 76 ∨ d = 79 ∨ d = 80 := by omega
  rcases h with rfl | rfl | rfl | rfl | rfl | rfl | rfl | rfl | rfl | rfl
  · exact ⟨_, _, qf_t63⟩
  · exact ⟨_, _, qf_t64⟩
  · exact ⟨_, _, qf_t67⟩
  · exact ⟨_, _, qf_t68⟩
  · exact ⟨_, _, qf_t71⟩
  · exact ⟨_, _, qf_t72⟩
  · exact ⟨_, _, qf_t75⟩
  · exact ⟨_, _, qf_t76⟩
  · exact ⟨_, _, qf_t79⟩
  · exact ⟨_, _, qf_t80⟩
theorem qf_b83 (d : Nat) (h1 : 83 ≤ d) (h2 : d ≤ 100) (hv : d % 4 = 0 ∨ d % 4 = 3) : ∃ L N, qf_chk d L N = true := by
  have h : d = 83 ∨ d = 84 ∨ d = 87 ∨ d = 88 ∨ d = 91 ∨ d = 92 ∨ d = 95 ∨ d = 96 ∨ d = 99 ∨ d = 100 := by omega
  rcases h with rfl | rfl | rfl | rfl | rfl | rfl | rfl | rfl | rfl | rfl
  · exact ⟨_, _, qf_t83⟩
  · exact ⟨_, _, qf_t84⟩
  · exact ⟨_, _, qf_t87⟩
  · exact ⟨_, _, qf_t88⟩
  · exact ⟨_, _, qf_t91⟩
  · exact ⟨_, _, qf_t92⟩
  · exact ⟨_, _, qf_t95⟩
  · exact ⟨_, _, qf_t96⟩
  · exact ⟨_, _, qf_t99⟩
  · exact ⟨_, _, qf_t100⟩
end
section
/-! tables, part 1: written by wip/tables.py -/
theorem qf_t103 : qf_chk 103 [(.ofNat 1, .ofNat 1, .ofNat 26), (.ofNat 2, .negSucc 0, .ofNat 13), (.ofNat 2, .ofNat 1, .ofNat 13), (.ofNat 4, .negSucc 2, .ofNat 7), (.ofNat 4, .ofNat 3, .ofNat 7)] 0x2004640048218483008620102418820 = true := by decide +kernel
theorem qf_t104 : qf_chk 104 [(.ofNat 1, .ofNat 0, .ofNat 26), (.ofNat 2, .ofNat 0, .ofNat 13), (.ofNat 3, .negSucc 1, .ofNat 9), (.ofNat 3, .ofNat 2, .ofNat 9), (.ofNat 5, .negSucc 3, .ofNat 6), (.ofNat 5, .ofNat 4, .ofNat 6)] 0x1008119403094442044028c2500c82188a4004a418820 = true := by decide +kernel
theorem qf_t107 : qf_chk 107 [(.ofNat 1, .ofNat 1, .ofNat 27), (.ofNat 3, .negSucc 0, .ofNat 9), (.ofNat 3, .ofNat 1, .ofNat 9)] 0x10080208820 = true := by decide +kernel
theorem qf_t108 : qf_chk 108 [(.ofNat 1, .ofNat 0, .ofNat 27), (.ofNat 4, .negSucc 1, .ofNat 7), (.ofNat 4, .ofNat 2, .ofNat 7)] 0x10080208820 = true := by decide +kernel
theorem qf_t111 : qf_chk 111 [(.ofNat 1, .ofNat 1, .ofNat 28), (.ofNat 2, .negSucc 0, .ofNat 14), (.ofNat 2, .ofNat 1, .ofNat 14), (.ofNat 3, .ofNat 3, .ofNat 10), (.ofNat 4, .negSucc 0, .ofNat 7), (.ofNat 4, .ofNat 1, .ofNat 7), (.ofNat 5, .negSucc 2, .ofNat 6), (.ofNat 5, .ofNat 3, .ofNat 6)] 0x2802611067010e208ca609c602184530803284e41048501cc320cc1394021944730081398a418820 = true := by decide +kernel
theorem qf_t112 : qf_chk 112 [(.ofNat 1, .ofNat 0, .ofNat 28), (.ofNat 4, .ofNat 0, .ofNat 7)] 0x420 = true := by decide +kernel
theorem qf_t115 : qf_chk 115 [(.ofNat 1, .ofNat 1, .ofNat 29), (.ofNat 5, .ofNat 5, .ofNat 7)] 0x420 = true := by decide +kernel
theorem qf_t116 : qf_chk 116 [(.ofNat 1, .ofNat 0, .ofNat 29), (.ofNat 2, .ofNat 2, .ofNat 15), (.ofNat 3, .negSucc 1, .ofNat 10), (.ofNat 3, .ofNat 2, .ofNat 10), (.ofNat 5, .negSucc 1, .ofNat 6), (.ofNat 5, .ofNat 2, .ofNat 6)] 0x200231140510464088a020c61010a210c85004a418820 = true := by decide +kernel
theorem qf_t119 : qf_chk 119 [(.ofNat 1, .ofNat 1, .ofNat 30), (.ofNat 2, .negSucc 0, .ofNat 15), (.ofNat 2, .ofNat 1, .ofNat 15), (.ofNat 3, .negSucc 0, .ofNat 10), (.ofNat 3, .ofNat 1, .ofNat 10), (.ofNat 4, .negSucc 2, .ofNat 8), (.ofNat 4, .ofNat 3, .ofNat 8), (.ofNat 5, .negSucc 0, .ofNat 6), (.ofNat 5, .ofNat 1, .ofNat 6), (.ofNat 6, .ofNat 5, .ofNat 6)] 0x18a8388241a4c20112128ce8280291984821d0448803384a63a4600a0861144130d0501d2409447200c940c83404c74940219c851250030528398a418820 = true := by decide +kernel
theorem qf_t120 : qf_chk 120 [(.ofNat 1, .ofNat 0, .ofNat 30), (.ofNat 2, .ofNat 0, .ofNat 15), (.ofNat 3, .ofNat 0, .ofNat 10), (.ofNat 5, .ofNat 0, .ofNat 6)] 0x4430806210c0118820 = true := by decide +kernel
theorem qf_t123 : qf_chk 123 [(.ofNat 1, .ofNat 1, .ofNat 31), (.ofNat 3, .ofNat 3, .ofNat 11)] 0x420 = true := by decide +kernel
theorem qf_t124 : qf_chk 124 [(.ofNat 1, .ofNat 0, .ofNat 31), (.ofNat 5, .negSucc 3, .ofNat 7), (.ofNat 5, .ofNat 4, .ofNat 7)] 0x10080208820 = true := by decide +kernel
theorem qf_t127 : qf_chk 127 [(.ofNat 1, .ofNat 1, .ofNat 32), (.ofNat 2, .negSucc 0, .ofNat 16), (.ofNat 2, .ofNat 1, .ofNat 16), (.ofNat 4, .negSucc 0, .ofNat 8), (.ofNat 4, .ofNat 1, .ofNat 8)] 0x100c440082418c240084400c2418820 = true := by decide +kernel
theorem qf_t128 : qf_chk 128 [(.ofNat 1, .ofNat 0, .ofNat 32), (.ofNat 3, .negSucc 1, .ofNat 11), (.ofNat 3, .ofNat 2, .ofNat 11), (.ofNat 4, .ofNat 4, .ofNat 9)] 0x44308c021006118820 = true := by decide +kernel
theorem qf_t131 : qf_chk 131 [(.ofNat 1, .ofNat 1, .ofNat 33), (.ofNat 3, .negSucc 0, .ofNat 11), (.ofNat 3, .ofNat 1, .ofNat 11), (.ofNat 5, .negSucc 2, .ofNat 7), (.ofNat 5, .ofNat 3, .ofNat 7)] 0x100c440082418c240084400c2418820 = true := by decide +kernel
theorem qf_t132 : qf_chk 132 [(.ofNat 1, .ofNat 0, .ofNat 33), (.ofNat 2, .ofNat 2, .ofNat 17), (.ofNat 3, .ofNat 0, .ofNat 11), (.ofNat 6, .ofNat 6, .ofNat 7)] 0x4430806210c0118820 = true := by decide +kernel
theorem qf_t135 : qf_chk 135 [(.ofNat 1, .ofNat 1, .ofNat 34), (.ofNat 2, .negSucc 0, .ofNat 17), (.ofNat 2, .ofNat 1, .ofNat 17), (.ofNat 4, .negSucc 2, .ofNat 9), (.ofNat 4, .ofNat 3, .ofNat 9), (.ofNat 5, .ofNat 5, .ofNat 8)] 0x82419443004a40808510c8128c0219440204a418820 = true := by decide +kernel
theorem qf_t136 : qf_chk 136 [(.ofNat 1, .ofNat 0, .ofNat 34), (.ofNat 2, .ofNat 0, .ofNat 17), (.ofNat 5, .negSucc 1, .ofNat 7), (.ofNat 5, .ofNat 2, .ofNat 7)] 0x80430046210c0118820 = true := by decide +kernel
theorem qf_t139 : qf_chk 139 [(.ofNat 1, .ofNat 1, .ofNat 35), (.ofNat 5, .negSucc 0, .ofNat 7), (.ofNat 5, .ofNat 1, .ofNat 7)] 0x10080208820 = true := by decide +kernel
theorem qf_t140 : qf_chk 140 [(.ofNat 1, .ofNat 0, .ofNat 35), (.ofNat 3, .negSucc 1, .ofNat 12), (.ofNat 3, .ofNat 2, .ofNat 12), (.ofNat 4, .negSucc 1, .ofNat 9), (.ofNat 4, .ofNat 2, .ofNat 9), (.ofNat 5, .ofNat 0, .ofNat 7)] 0x82419443004a40808510c8128c0219440204a418820 = true := by decide +kernel
theorem qf_t143 : qf_chk 143 [(.ofNat 1, .ofNat 1, .ofNat 36), (.ofNat 2, .negSucc 0, .ofNat 18), (.ofNat 2, .ofNat 1, .ofNat 18), (.ofNat 3, .negSucc 0, .ofNat 12), (.ofNat 3, .ofNat 1, .ofNat 12), (.ofNat 4, .negSucc 0, .ofNat 9), (.ofNat 4, .ofNat 1, .ofNat 9), (.ofNat 6, .negSucc 4, .ofNat 7), (.ofNat 6, .ofNat 1, .ofNat 6), (.ofNat 6, .ofNat 5, .ofNat 7)] 0x21801408e51a4c02a4e110c88014681242431c294100329c4641c40198814944148cc5020e438825200c940ca321c2849802190c249d0028528398a418820 = true := by decide +kernel
theorem qf_t144 : qf_chk 144 [(.ofNat 1, .ofNat 0, .ofNat 36), (.ofNat 4, .ofNat 0, .ofNat 9), (.ofNat 5, .negSucc 3, .ofNat 8), (.ofNat 5, .ofNat 4, .ofNat 8)] 0x80430046210c0118820 = true := by decide +kernel
theorem qf_t147 : qf_chk 147 [(.ofNat 1, .ofNat 1, .ofNat 37), (.ofNat 3, .ofNat 3, .ofNat 13)] 0x420 = true := by decide +kernel
theorem qf_t148 : qf_chk 148 [(.ofNat 1, .ofNat 0, .ofNat 37), (.ofNat 2, .ofNat 2, .ofNat 19)] 0x420 = true := by decide +kernel
theorem qf_t151 : qf_chk 151 [(.ofNat 1, .ofNat 1, .ofNat 38), (.ofNat 2, .negSucc 0, .ofNat 19), (.ofNat 2, .ofNat 1, .ofNat 19), (.ofNat 4, .negSucc 2, .ofNat 10), (.ofNat 4, .ofNat 3, .ofNat 10), (.ofNat 5, .negSucc 2, .ofNat 8), (.ofNat 5, .ofNat 3, .ofNat 8)] 0x100885198021848628866004a42040530865204c30086628804098a418820 = true := by decide +kernel
theorem qf_t152 : qf_chk 152 [(.ofNat 1, .ofNat 0, .ofNat 38), (.ofNat 2, .ofNat 0, .ofNat 19), (.ofNat 3, .negSucc 1, .ofNat 13), (.ofNat 3, .ofNat 2, .ofNat 13), (.ofNat 6, .negSucc 3, .ofNat 7), (.ofNat 6, .ofNat 4, .ofNat 7)] 0x200231140510464088a020c61010a210c85004a418820 = true := by decide +kernel
theorem qf_t155 : qf_chk 155 [(.ofNat 1, .ofNat 1, .ofNat 39), (.ofNat 3, .negSucc 0, .ofNat 13), (.ofNat 3, .ofNat 1, .ofNat 13), (.ofNat 5, .ofNat 5, .ofNat 9)] 0x44308c021006118820 = true := by decide +kernel
theorem qf_t156 : qf_chk 156 [(.ofNat 1, .ofNat 0, .ofNat 39), (.ofNat 3, .ofNat 0, .ofNat 13), (.ofNat 5, .negSucc 1, .ofNat 8), (.ofNat 5, .ofNat 2, .ofNat 8)] 0x80430046210c0118820 = true := by decide +kernel
theorem qf_t159 : qf_chk 159 [(.ofNat 1, .ofNat 1, .ofNat 40), (.ofNat 2, .negSucc 0, .ofNat 20), (.ofNat 2, .ofNat 1, .ofNat 20), (.ofNat 3, .ofNat 3, .ofNat 14), (.ofNat 4, .negSucc 0, .ofNat 10), (.ofNat 4, .ofNat 1, .ofNat 10), (.ofNat 5, .negSucc 0, .ofNat 8), (.ofNat 5, .ofNat 1, .ofNat 8), (.ofNat 6, .negSucc 2, .ofNat 7), (.ofNat 6, .ofNat 3, .ofNat 7)] 0x2004741423324053048911c681192008ca441ce102062224a641023480e6114a918808304e4088a43980848c67224c14140230d0511d2020528398a418820 = true := by decide +kernel
theorem qf_t160 : qf_chk 160 [(.ofNat 1, .ofNat 0, .ofNat 40), (.ofNat 4, .ofNat 4, .ofNat 11), (.ofNat 5, .ofNat 0, .ofNat 8), (.ofNat 7, .ofNat 6, .ofNat 7)] 0x4430806210c0118820 = true := by decide +kernel
theorem qf_t163 : qf_chk 163 [(.ofNat 1, .ofNat 1, .ofNat 41)] 0x0 = true := by decide +kernel
theorem qf_t164 : qf_chk 164 [(.ofNat 1, .ofNat 0, .ofNat 41), (.ofNat 2, .ofNat 2, .ofNat 21), (.ofNat 3, .negSucc 1, .ofNat 14), (.ofNat 3, .ofNat 2, .ofNat 14), (.ofNat 5, .negSucc 3, .ofNat 9), (.ofNat 5, .ofNat 4, .ofNat 9), (.ofNat 6, .negSucc 1, .ofNat 7), (.ofNat 6, .ofNat 2, .ofNat 7)] 0x2804620467010e30944611c2030c8530c0111ca4204c2280e309467010c21888539801398a418820 = true := by decide +kernel
theorem qf_t167 : qf_chk 167 [(.ofNat 1, .ofNat 1, .ofNat 42), (.ofNat 2, .negSucc 0, .ofNat 21), (.ofNat 2, .ofNat 1, .ofNat 21), (.ofNat 3, .negSucc 0, .ofNat 14), (.ofNat 3, .ofNat 1, .ofNat 14), (.ofNat 4, .negSucc 2, .ofNat 11), (.ofNat 4, .ofNat 3, .ofNat 11), (.ofNat 6, .negSucc 4, .ofNat 8), (.ofNat 6, .negSucc 0, .ofNat 7), (.ofNat 6, .ofNat 1, .ofNat 7), (.ofNat 6, .ofNat 5, .ofNat 8)] 0x929c08088861a8a1028e33090449c023114128d28028c812461214e839043015215182352404418e2288c11950a024e4208a1498075206640c813a54500864495423a0060a928398a418820 = true := by decide +kernel
theorem qf_t168 : qf_chk 168 [(.ofNat 1, .ofNat 0, .ofNat 42), (.ofNat 2, .ofNat 0, .ofNat 21), (.ofNat 3, .ofNat 0, .ofNat 14), (.ofNat 6, .ofNat 0, .ofNat 7)] 0x4430806210c0118820 = true := by decide +kernel
theorem qf_t171 : qf_chk 171 [(.ofNat 1, .ofNat 1, .ofNat 43), (.ofNat 5, .negSucc 2, .ofNat 9), (.ofNat 5, .ofNat 3, .ofNat 9), (.ofNat 7, .ofNat 5, .ofNat 7)] 0x44308c021006118820 = true := by decide +kernel
theorem qf_t172 : qf_chk 172 [(.ofNat 1, .ofNat 0, .ofNat 43), (.ofNat 4, .negSucc 1, .ofNat 11), (.ofNat 4, .ofNat 2, .ofNat 11)] 0x10080208820 = true := by decide +kernel
theorem qf_t175 : qf_chk 175 [(.ofNat 1, .ofNat 1, .ofNat 44), (.ofNat 2, .negSucc 0, .ofNat 22), (.ofNat 2, .ofNat 1, .ofNat 22), (.ofNat 4, .negSucc 0, .ofNat 11), (.ofNat 4, .ofNat 1, .ofNat 11), (.ofNat 7, .ofNat 7, .ofNat 8)] 0x44321423014441008128c6509002208a0184a418820 = true := by decide +kernel
theorem qf_t176 : qf_chk 176 [(.ofNat 1, .ofNat 0, .ofNat 44), (.ofNat 3, .negSucc 1, .ofNat 15), (.ofNat 3, .ofNat 2, .ofNat 15), (.ofNat 4, .ofNat 0, .ofNat 11), (.ofNat 5, .negSucc 1, .ofNat 9), (.ofNat 5, .ofNat 2, .ofNat 9)] 0x200411940508c441040520c232900218880284a418820 = true := by decide +kernel
theorem qf_t179 : qf_chk 179 [(.ofNat 1, .ofNat 1, .ofNat 45), (.ofNat 3, .negSucc 0, .ofNat 15), (.ofNat 3, .ofNat 1, .ofNat 15), (.ofNat 5, .negSucc 0, .ofNat 9), (.ofNat 5, .ofNat 1, .ofNat 9)] 0x2004640048218483008620102418820 = true := by decide +kernel
theorem qf_t180 : qf_chk 180 [(.ofNat 1, .ofNat 0, .ofNat 45), (.ofNat 2, .ofNat 2, .ofNat 23), (.ofNat 5, .ofNat 0, .ofNat 9), (.ofNat 7, .ofNat 4, .ofNat 7)] 0x4430806210c0118820 = true := by decide +kernel
theorem qf_t183 : qf_chk 183 [(.ofNat 1, .ofNat 1, .ofNat 46), (.ofNat 2, .negSucc 0, .ofNat 23), (.ofNat 2, .ofNat 1, .ofNat 23), (.ofNat 3, .ofNat 3, .ofNat 16), (.ofNat 4, .negSucc 2, .ofNat 12), (.ofNat 4, .ofNat 3, .ofNat 12), (.ofNat 6, .negSucc 2, .ofNat 8), (.ofNat 6, .ofNat 3, .ofNat 8)] 0x2804608c87010e11146611c60204c53040329c4408885018e3194273100220cc2380a1398a418820 = true := by decide +kernel
theorem qf_t184 : qf_chk 184 [(.ofNat 1, .ofNat 0, .ofNat 46), (.ofNat 2, .ofNat 0, .ofNat 23), (.ofNat 5, .negSucc 3, .ofNat 10), (.ofNat 5, .ofNat 4, .ofNat 10)] 0x80430046210c0118820 = true := by decide +kernel
theorem qf_t187 : qf_chk 187 [(.ofNat 1, .ofNat 1, .ofNat 47), (.ofNat 7, .ofNat 3, .ofNat 7)] 0x420 = true := by decide +kernel
theorem qf_t188 : qf_chk 188 [(.ofNat 1, .ofNat 0, .ofNat 47), (.ofNat 3, .negSucc 1, .ofNat 16), (.ofNat 3, .ofNat 2, .ofNat 16), (.ofNat 7, .negSucc 5, .ofNat 8), (.ofNat 7, .ofNat 6, .ofNat 8)] 0x100c440082418c240084400c2418820 = true := by decide +kernel
theorem qf_t191 : qf_chk 191 [(.ofNat 1, .ofNat 1, .ofNat 48), (.ofNat 2, .negSucc 0, .ofNat 24), (.ofNat 2, .ofNat 1, .ofNat 24), (.ofNat 3, .negSucc 0, .ofNat 16), (.ofNat 3, .ofNat 1, .ofNat 16), (.ofNat 4, .negSucc 0, .ofNat 12), (.ofNat 4, .ofNat 1, .ofNat 12), (.ofNat 5, .negSucc 2, .ofNat 10), (.ofNat 5, .ofNat 3, .ofNat 10), (.ofNat 6, .negSucc 4, .ofNat 9), (.ofNat 6, .negSucc 0, .ofNat 8), (.ofNat 6, .ofNat 1, .ofNat 8), (.ofNat 6, .ofNat 5, .ofNat 9)] 0xb324012a14221c6c3200c1a829388a45a4072ac8c105033280c2a8c259c61221211acc20118a2a4e82a8820052332d0c3a02c59123014ea1194911d83011060aca23846a3150c02d24209012ace60258a19ca32250a0ad8600864320ec12d2a0142c5a928398a418820 = true := by decide +kernel
theorem qf_t192 : qf_chk 192 [(.ofNat 1, .ofNat 0, .ofNat 48), (.ofNat 3, .ofNat 0, .ofNat 16), (.ofNat 4, .ofNat 4, .ofNat 13), (.ofNat 7, .ofNat 2, .ofNat 7)] 0x4430806210c0118820 = true := by decide +kernel
theorem qf_t195 : qf_chk 195 [(.ofNat 1, .ofNat 1, .ofNat 49), (.ofNat 3, .ofNat 3, .ofNat 17), (.ofNat 5, .ofNat 5, .ofNat 11), (.ofNat 7, .ofNat 1, .ofNat 7)] 0x4430806210c0118820 = true := by decide +kernel
theorem qf_t196 : qf_chk 196 [(.ofNat 1, .ofNat 0, .ofNat 49), (.ofNat 2, .ofNat 2, .ofNat 25), (.ofNat 5, .negSucc 1, .ofNat 10), (.ofNat 5, .ofNat 2, .ofNat 10)] 0x80430046210c0118820 = true := by decide +kernel
theorem qf_t199 : qf_chk 199 [(.ofNat 1, .ofNat 1, .ofNat 50), (.ofNat 2, .negSucc 0, .ofNat 25), (.ofNat 2, .ofNat 1, .ofNat 25), (.ofNat 4, .negSucc 2, .ofNat 13), (.ofNat 4, .ofNat 3, .ofNat 13), (.ofNat 5, .negSucc 0, .ofNat 10), (.ofNat 5, .ofNat 1, .ofNat 10), (.ofNat 7, .negSucc 4, .ofNat 8), (.ofNat 7, .ofNat 5, .ofNat 8)] 0x700866090a802081114c33888100d0539861008e4418a610ce50050409504018e2190c5404e3008a33990201028398a418820 = true := by decide +kernel
theorem qf_t200 : qf_chk 200 [(.ofNat 1, .ofNat 0, .ofNat 50), (.ofNat 2, .ofNat 0, .ofNat 25), (.ofNat 3, .negSucc 1, .ofNat 17), (.ofNat 3, .ofNat 2, .ofNat 17), (.ofNat 6, .negSucc 3, .ofNat 9), (.ofNat 6, .ofNat 4, .ofNat 9)] 0x200231140510464088a020c61010a210c85004a418820 = true := by decide +kernel
theorem qf_b103 (d : Nat) (h1 : 103 ≤ d) (h2 : d ≤ 120) (hv : d % 4 = 0 ∨ d % 4 = 3) : ∃ L N, qf_chk d L N = true := by
  have h : d = 103 ∨ d = 104 ∨ d = 107 ∨ d = 108 ∨ d = 111 ∨ d = 112 ∨ d = 115 ∨ d = 116 ∨ d = 119 ∨ d = 120 := by omega
  rcases h with rfl | rfl | rfl | rfl | rfl | rfl | rfl | rfl | rfl | rfl
  · exact ⟨_, _, qf_t103⟩
  · exact ⟨_, _, qf_t104⟩
  · exact ⟨_, _, qf_t107⟩
  · exact ⟨_, _, qf_t108⟩
  · exact ⟨_, _, qf_t111⟩
  · exact ⟨_, _, qf_t112⟩
  · exact ⟨_, _, qf_t115⟩
  · exact ⟨_, _, qf_t116⟩
  · exact ⟨_, _, qf_t119⟩
  · exact ⟨_, _, qf_t120⟩
theorem qf_b123 (d : Nat) (h1 : 123 ≤ d) (h2 : d ≤ 140) (hv : d % 4 = 0 ∨ d % 4 = 3) : ∃ L N, qf_chk d L N = true := by
  have h : d = 123 ∨ d = 124 ∨ d = 127 ∨ d = 128 ∨ d = 131 ∨ d = 132 ∨ d = 135 ∨ d = 136 ∨ d = 139 ∨ d = 140 := by omega
  rcases h with rfl | rfl | rfl | rfl | rfl | rfl | rfl | rfl | rfl | rfl
  · exact ⟨_, _, qf_t123⟩
  · exact ⟨_, _, qf_t124⟩
  · exact ⟨_, _, qf_t127⟩
  · exact ⟨_, _, qf_t128⟩
  · exact ⟨_, _, qf_t131⟩
  · exact ⟨_, _, qf_t132⟩
  · exact ⟨_, _, qf_t135⟩
  · exact ⟨_, _, qf_t136⟩
  · exact ⟨_, _, qf_t139⟩
  · exact ⟨_, _, qf_t140⟩
theorem qf_b143 (d : Nat) (h1 : 143 ≤ d) (h2 : d ≤ 160) (hv : d % 4 = 0 ∨ d % 4 = 3) : ∃ L N, qf_chk d L N = true := by
  have h : d = 143 ∨ d = 144 ∨ d = 147 ∨ d = 148 ∨ d = 151 ∨ d = 152 ∨ d = 155 ∨ d = 156 ∨ d = 159 ∨ d = 160 := by omega
  rcases h with rfl | rfl | rfl | rfl | rfl | rfl | rfl | rfl | rfl | rfl
  · exact ⟨_, _, qf_t143⟩
  · exact ⟨_, _, qf_t144⟩
  · exact ⟨_, _, qf_t147⟩
  · exact ⟨_, _, qf_t148⟩
  · exact ⟨_, _, qf_t151⟩
  · exact ⟨_, _, qf_t152⟩
  · exact ⟨_, _, qf_t155⟩
  · exact ⟨_, _, qf_t156⟩
  · exact ⟨_, _, qf_t159⟩
  · exact ⟨_, _, qf_t160⟩
theorem qf_b163 (d : Nat) (h1 : 163 ≤ d) (h2 : d ≤ 180) (hv : d % 4 = 0 ∨ d % 4 = 3) : ∃ L N, qf_chk d L N = true := by
  have h : d = 163 ∨ d = 164 ∨ d = 167 ∨ d = 168 ∨ d = 171 ∨ d = 172 ∨ d = 175 ∨ d = 176 ∨ d = 179 ∨ d = 180 := by omega
  rcases h with rfl | rfl | rfl | rfl | rfl | rfl | rfl | rfl | rfl | rfl
  · exact ⟨_, _, qf_t163⟩
  · exact ⟨_, _, qf_t164⟩
  · exact ⟨_, _, qf_t167⟩
  · exact ⟨_, _, qf_t168⟩
  · exact ⟨_, _, qf_t171⟩
  · exact ⟨_, _, qf_t172⟩
  · exact ⟨_, _, qf_t175⟩
  · exact ⟨_, _, qf_t176⟩
  · exact ⟨_, _, qf_t179⟩
  · exact ⟨_, _, qf_t180⟩
theorem qf_b183 (d : Nat) (h1 : 183 ≤ d) (h2 : d ≤ 200) (hv : d % 4 = 0 ∨ d % 4 = 3) : ∃ L N, qf_chk d L N = true := by
  have h : d = 183 ∨ d = 184 ∨ d = 187 ∨ d = 188 ∨ d = 191 ∨ d = 192 ∨ d = 195 ∨ d = 196 ∨ d = 199 ∨ d = 200 := by omega
  rcases h with rfl | rfl | rfl | rfl | rfl | rfl | rfl | rfl | rfl | rfl
  · exact ⟨_, _, qf_t183⟩
  · exact ⟨_, _, qf_t184⟩
  · exact ⟨_, _, qf_t187⟩
  · exact ⟨_, _, qf_t188⟩
  · exact ⟨_, _, qf_t191⟩
  · exact ⟨_, _, qf_t192⟩
  · exact ⟨_, _, qf_t195⟩
  · exact ⟨_, _, qf_t196⟩
  · exact ⟨_, _, qf_t199⟩
  · exact ⟨_, _, qf_t200⟩
end
section
/-! tables, part 2: written by wip/tables.py -/
theorem qf_t203 : qf_chk 203 [(.ofNat 1, .ofNat 1, .ofNat 51), (.ofNat 3, .negSucc 0, .ofNat 17), (.ofNat 3, .ofNat 1, .ofNat 17), (.ofNat 7, .ofNat 7, .ofNat 9)] 0x44308c021006118820 = true := by decide +kernel
theorem qf_t204 : qf_chk 204 [(.ofNat 1, .ofNat 0, .ofNat 51), (.ofNat 3, .ofNat 0, .ofNat 17), (.ofNat 4, .negSucc 1, .ofNat 13), (.ofNat 4, .ofNat 2, .ofNat 13), (.ofNat 5, .negSucc 3, .ofNat 11), (.ofNat 5, .ofNat 4, .ofNat 11)] 0x1802411402284640944020c8100ca210c85004a418820 = true := by decide +kernel
theorem qf_t207 : qf_chk 207 [(.ofNat 1, .ofNat 1, .ofNat 52), (.ofNat 2, .negSucc 0, .ofNat 26), (.ofNat 2, .ofNat 1, .ofNat 26), (.ofNat 4, .negSucc 0, .ofNat 13), (.ofNat 4, .ofNat 1, .ofNat 13), (.ofNat 8, .ofNat 7, .ofNat 8)] 0x44321423014441008128c6509002208a0184a418820 = true := by decide +kernel
theorem qf_t208 : qf_chk 208 [(.ofNat 1, .ofNat 0, .ofNat 52), (.ofNat 4, .ofNat 0, .ofNat 13), (.ofNat 7, .negSucc 3, .ofNat 8), (.ofNat 7, .ofNat 4, .ofNat 8)] 0x80430046210c0118820 = true := by decide +kernel
theorem qf_t211 : qf_chk 211 [(.ofNat 1, .ofNat 1, .ofNat 53), (.ofNat 5, .negSucc 2, .ofNat 11), (.ofNat 5, .ofNat 3, .ofNat 11)] 0x10080208820 = true := by decide +kernel
theorem qf_t212 : qf_chk 212 [(.ofNat 1, .ofNat 0, .ofNat 53), (.ofNat 2, .ofNat 2, .ofNat 27), (.ofNat 3, .negSucc 1, .ofNat 18), (.ofNat 3, .ofNat 2, .ofNat 18), (.ofNat 6, .negSucc 1, .ofNat 9), (.ofNat 6, .ofNat 2, .ofNat 9)] 0x200411940508c441048028c2301482188a4004a418820 = true := by decide +kernel
theorem qf_t215 : qf_chk 215 [(.ofNat 1, .ofNat 1, .ofNat 54), (.ofNat 2, .negSucc 0, .ofNat 27), (.ofNat 2, .ofNat 1, .ofNat 27), (.ofNat 3, .negSucc 0, .ofNat 18), (.ofNat 3, .ofNat 1, .ofNat 18), (.ofNat 4, .negSucc 2, .ofNat 14), (.ofNat 4, .ofNat 3, .ofNat 14), (.ofNat 5, .ofNat 5, .ofNat 12), (.ofNat 6, .negSucc 4, .ofNat 10), (.ofNat 6, .negSucc 0, .ofNat 9), (.ofNat 6, .ofNat 1, .ofNat 9), (.ofNat 6, .ofNat 5, .ofNat 10), (.ofNat 7, .negSucc 2, .ofNat 8), (.ofNat 7, .ofNat 3, .ofNat 8)] 0x580813b142199092b40869c434902b2994c234c550029409871ac272ac096a0c31308a3894041985584836a583024c512d4d090e85242d60803214c859c444a0ab1a80768586185065a8804b0ed114cb10c2d29d890290441582204cd3814b48d263b064405aa594022a86469d6c12120305ac5a928398a418820 = true := by decide +kernel
theorem qf_t216 : qf_chk 216 [(.ofNat 1, .ofNat 0, .ofNat 54), (.ofNat 2, .ofNat 0, .ofNat 27), (.ofNat 5, .negSucc 1, .ofNat 11), (.ofNat 5, .ofNat 2, .ofNat 11), (.ofNat 7, .negSucc 5, .ofNat 9), (.ofNat 7, .ofNat 6, .ofNat 9)] 0x200231140510464088a020c61010a210c85004a418820 = true := by decide +kernel
theorem qf_t219 : qf_chk 219 [(.ofNat 1, .ofNat 1, .ofNat 55), (.ofNat 3, .ofNat 3, .ofNat 19), (.ofNat 5, .negSucc 0, .ofNat 11), (.ofNat 5, .ofNat 1, .ofNat 11)] 0x80430046210c0118820 = true := by decide +kernel
theorem qf_t220 : qf_chk 220 [(.ofNat 1, .ofNat 0, .ofNat 55), (.ofNat 5, .ofNat 0, .ofNat 11), (.ofNat 7, .negSucc 1, .ofNat 8), (.ofNat 7, .ofNat 2, .ofNat 8)] 0x80430046210c0118820 = true := by decide +kernel
theorem qf_t223 : qf_chk 223 [(.ofNat 1, .ofNat 1, .ofNat 56), (.ofNat 2, .negSucc 0, .ofNat 28), (.ofNat 2, .ofNat 1, .ofNat 28), (.ofNat 4, .negSucc 0, .ofNat 14), (.ofNat 4, .ofNat 1, .ofNat 14), (.ofNat 7, .negSucc 0, .ofNat 8), (.ofNat 7, .ofNat 1, .ofNat 8)] 0x20048329801188c42846601444208050986331424008a411803098a418820 = true := by decide +kernel
theorem qf_t224 : qf_chk 224 [(.ofNat 1, .ofNat 0, .ofNat 56), (.ofNat 3, .negSucc 1, .ofNat 19), (.ofNat 3, .ofNat 2, .ofNat 19), (.ofNat 4, .ofNat 4, .ofNat 15), (.ofNat 5, .negSucc 3, .ofNat 12), (.ofNat 5, .ofNat 4, .ofNat 12), (.ofNat 7, .ofNat 0, .ofNat 8), (.ofNat 8, .ofNat 8, .ofNat 9)] 0xc853044718022390a6204e0118652880708cc431c4101483090c329c0211466200e1398a418820 = true := by decide +kernel
theorem qf_t227 : qf_chk 227 [(.ofNat 1, .ofNat 1, .ofNat 57), (.ofNat 3, .negSucc 0, .ofNat 19), (.ofNat 3, .ofNat 1, .ofNat 19), (.ofNat 7, .negSucc 4, .ofNat 9), (.ofNat 7, .ofNat 5, .ofNat 9)] 0x100c440082418c240084400c2418820 = true := by decide +kernel
theorem qf_t228 : qf_chk 228 [(.ofNat 1, .ofNat 0, .ofNat 57), (.ofNat 2, .ofNat 2, .ofNat 29), (.ofNat 3, .ofNat 0, .ofNat 19), (.ofNat 6, .ofNat 6, .ofNat 11)] 0x4430806210c0118820 = true := by decide +kernel
theorem qf_t231 : qf_chk 231 [(.ofNat 1, .ofNat 1, .ofNat 58), (.ofNat 2, .negSucc 0, .ofNat 29), (.ofNat 2, .ofNat 1, .ofNat 29), (.ofNat 3, .ofNat 3, .ofNat 20), (.ofNat 4, .negSucc 2, .ofNat 15), (.ofNat 4, .ofNat 3, .ofNat 15), (.ofNat 5, .negSucc 2, .ofNat 12), (.ofNat 5, .ofNat 3, .ofNat 12), (.ofNat 6, .negSucc 2, .ofNat 10), (.ofNat 6, .ofNat 3, .ofNat 10), (.ofNat 7, .ofNat 7, .ofNat 10), (.ofNat 8, .ofNat 5, .ofNat 8)] 0xce64a0415148b1808508909598ea390a012d4808cc9314045852a11c684844b280662290740961010e32a5461214919c80305650a50a30c053ac4452c22214c702123298675242b4100221cc342962480a15a928398a418820 = true := by decide +kernel
theorem qf_t232 : qf_chk 232 [(.ofNat 1, .ofNat 0, .ofNat 58), (.ofNat 2, .ofNat 0, .ofNat 29)] 0x420 = true := by decide +kernel
theorem qf_t235 : qf_chk 235 [(.ofNat 1, .ofNat 1, .ofNat 59), (.ofNat 5, .ofNat 5, .ofNat 13)] 0x420 = true := by decide +kernel
theorem qf_t236 : qf_chk 236 [(.ofNat 1, .ofNat 0, .ofNat 59), (.ofNat 3, .negSucc 1, .ofNat 20), (.ofNat 3, .ofNat 2, .ofNat 20), (.ofNat 4, .negSucc 1, .ofNat 15), (.ofNat 4, .ofNat 2, .ofNat 15), (.ofNat 5, .negSucc 1, .ofNat 12), (.ofNat 5, .ofNat 2, .ofNat 12), (.ofNat 7, .negSucc 3, .ofNat 9), (.ofNat 7, .ofNat 4, .ofNat 9)] 0x501c6609048018881142339c820050329868004e2310a6104e30150409502010e619023314e8008432910601c28398a418820 = true := by decide +kernel
theorem qf_t239 : qf_chk 239 [(.ofNat 1, .ofNat 1, .ofNat 60), (.ofNat 2, .negSucc 0, .ofNat 30), (.ofNat 2, .ofNat 1, .ofNat 30), (.ofNat 3, .negSucc 0, .ofNat 20), (.ofNat 3, .ofNat 1, .ofNat 20), (.ofNat 4, .negSucc 0, .ofNat 15), (.ofNat 4, .ofNat 1, .ofNat 15), (.ofNat 5, .negSucc 0, .ofNat 12), (.ofNat 5, .ofNat 1, .ofNat 12), (.ofNat 6, .negSucc 4, .ofNat 11), (.ofNat 6, .negSucc 0, .ofNat 10), (.ofNat 6, .ofNat 1, .ofNat 10), (.ofNat 6, .ofNat 5, .ofNat 11), (.ofNat 8, .negSucc 6, .ofNat 9), (.ofNat 8, .ofNat 7, .ofNat 9)] 0x4021865092158da53b8035952760542711066a16133807691422a46c614ca0342372502391664b80b2904c684e342947034a2721633048c48987091c900cc55a9a8485a31200c2914672ce1511cc58ca801d2d11962525a3310076202e28dc2404c551d8d02d24690a2385664a00e62865424e3229cd0ad86008e61910c6ac4e4a8050b9ac5a928398a418820 = true := by decide +kernel
theorem qf_t240 : qf_chk 240 [(.ofNat 1, .ofNat 0, .ofNat 60), (.ofNat 3, .ofNat 0, .ofNat 20), (.ofNat 4, .ofNat 0, .ofNat 15), (.ofNat 5, .ofNat 0, .ofNat 12)] 0x4430806210c0118820 = true := by decide +kernel
theorem qf_t243 : qf_chk 243 [(.ofNat 1, .ofNat 1, .ofNat 61), (.ofNat 7, .negSucc 2, .ofNat 9), (.ofNat 7, .ofNat 3, .ofNat 9)] 0x10080208820 = true := by decide +kernel
theorem qf_t244 : qf_chk 244 [(.ofNat 1, .ofNat 0, .ofNat 61), (.ofNat 2, .ofNat 2, .ofNat 31), (.ofNat 5, .negSucc 3, .ofNat 13), (.ofNat 5, .ofNat 4, .ofNat 13), (.ofNat 7, .negSucc 5, .ofNat 10), (.ofNat 7, .ofNat 6, .ofNat 10)] 0x1008119403094442044028c2500c82188a4004a418820 = true := by decide +kernel
theorem qf_t247 : qf_chk 247 [(.ofNat 1, .ofNat 1, .ofNat 62), (.ofNat 2, .negSucc 0, .ofNat 31), (.ofNat 2, .ofNat 1, .ofNat 31), (.ofNat 4, .negSucc 2, .ofNat 16), (.ofNat 4, .ofNat 3, .ofNat 16), (.ofNat 8, .ofNat 3, .ofNat 8)] 0x82419443004a40808510c8128c0219440204a418820 = true := by decide +kernel
theorem qf_t248 : qf_chk 248 [(.ofNat 1, .ofNat 0, .ofNat 62), (.ofNat 2, .ofNat 0, .ofNat 31), (.ofNat 3, .negSucc 1, .ofNat 21), (.ofNat 3, .ofNat 2, .ofNat 21), (.ofNat 6, .negSucc 3, .ofNat 11), (.ofNat 6, .ofNat 4, .ofNat 11), (.ofNat 7, .negSucc 1, .ofNat 9), (.ofNat 7, .ofNat 2, .ofNat 9)] 0x8065110c70048228ce6190e0098452880638464114273008320cc101ca231c4321401398a418820 = true := by decide +kernel
theorem qf_t251 : qf_chk 251 [(.ofNat 1, .ofNat 1, .ofNat 63), (.ofNat 3, .negSucc 0, .ofNat 21), (.ofNat 3, .ofNat 1, .ofNat 21), (.ofNat 5, .negSucc 2, .ofNat 13), (.ofNat 5, .ofNat 3, .ofNat 13), (.ofNat 7, .negSucc 0, .ofNat 9), (.ofNat 7, .ofNat 1, .ofNat 9)] 0x301441218040986229422018641180121461198850088219406098a418820 = true := by decide +kernel
theorem qf_t252 : qf_chk 252 [(.ofNat 1, .ofNat 0, .ofNat 63), (.ofNat 7, .ofNat 0, .ofNat 9), (.ofNat 8, .negSucc 5, .ofNat 9), (.ofNat 8, .ofNat 6, .ofNat 9)] 0x80430046210c0118820 = true := by decide +kernel
theorem qf_t255 : qf_chk 255 [(.ofNat 1, .ofNat 1, .ofNat 64), (.ofNat 2, .negSucc 0, .ofNat 32), (.ofNat 2, .ofNat 1, .ofNat 32), (.ofNat 3, .ofNat 3, .ofNat 22), (.ofNat 4, .negSucc 0, .ofNat 16), (.ofNat 4, .ofNat 1, .ofNat 16), (.ofNat 5, .ofNat 5, .ofNat 14), (.ofNat 6, .negSucc 2, .ofNat 11), (.ofNat 6, .ofNat 3, .ofNat 11), (.ofNat 7, .negSucc 4, .ofNat 10), (.ofNat 7, .ofNat 5, .ofNat 10), (.ofNat 8, .ofNat 1, .ofNat 8)] 0x20ea48c22310ab4100258523298ea380ab0886a220c950964014e608d284ac20290c81286718445201075a5460a4673208052c4510d4641c05485643148112d4901d0321903525613940229cc91a84b400815a928398a418820 = true := by decide +kernel
theorem qf_t256 : qf_chk 256 [(.ofNat 1, .ofNat 0, .ofNat 64), (.ofNat 4, .ofNat 4, .ofNat 17), (.ofNat 5, .negSucc 1, .ofNat 13), (.ofNat 5, .ofNat 2, .ofNat 13)] 0x80430046210c0118820 = true := by decide +kernel
theorem qf_t259 : qf_chk 259 [(.ofNat 1, .ofNat 1, .ofNat 65), (.ofNat 5, .negSucc 0, .ofNat 13), (.ofNat 5, .ofNat 1, .ofNat 13), (.ofNat 7, .ofNat 7, .ofNat 11)] 0x44308c021006118820 = true := by decide +kernel
theorem qf_t260 : qf_chk 260 [(.ofNat 1, .ofNat 0, .ofNat 65), (.ofNat 2, .ofNat 2, .ofNat 33), (.ofNat 3, .negSucc 1, .ofNat 22), (.ofNat 3, .ofNat 2, .ofNat 22), (.ofNat 5, .ofNat 0, .ofNat 13), (.ofNat 6, .negSucc 1, .ofNat 11), (.ofNat 6, .ofNat 2, .ofNat 11), (.ofNat 9, .ofNat 8, .ofNat 9)] 0x14c110c8729c0220466300e30904508860298e411025380c31848601ca220c4731401398a418820 = true := by decide +kernel
theorem qf_t263 : qf_chk 263 [(.ofNat 1, .ofNat 1, .ofNat 66), (.ofNat 2, .negSucc 0, .ofNat 33), (.ofNat 2, .ofNat 1, .ofNat 33), (.ofNat 3, .negSucc 0, .ofNat 22), (.ofNat 3, .ofNat 1, .ofNat 22), (.ofNat 4, .negSucc 2, .ofNat 17), (.ofNat 4, .ofNat 3, .ofNat 17), (.ofNat 6, .negSucc 4, .ofNat 12), (.ofNat 6, .negSucc 0, .ofNat 11), (.ofNat 6, .ofNat 1, .ofNat 11), (.ofNat 6, .ofNat 5, .ofNat 12), (.ofNat 8, .negSucc 4, .ofNat 9), (.ofNat 8, .ofNat 5, .ofNat 9)] 0xa0242758866220ac01d8a12081194c95a5812ac08208c71a82a28c0c399025912712c043154148d885a00c308692848a388883946902981598612194902167608a6189012a96c024e4214c24858702d481a0c758c8162545008a91918a588e80182c5a928398a418820 = true := by decide +kernel
theorem qf_t264 : qf_chk 264 [(.ofNat 1, .ofNat 0, .ofNat 66), (.ofNat 2, .ofNat 0, .ofNat 33), (.ofNat 3, .ofNat 0, .ofNat 22), (.ofNat 5, .negSucc 3, .ofNat 14), (.ofNat 5, .ofNat 4, .ofNat 14), (.ofNat 6, .ofNat 0, .ofNat 11), (.ofNat 7, .negSucc 3, .ofNat 10), (.ofNat 7, .ofNat 4, .ofNat 10)] 0x10081298670086509c8620c0730445094e200cc4284c0110e331c23200a21904639401398a418820 = true := by decide +kernel
theorem qf_t267 : qf_chk 267 [(.ofNat 1, .ofNat 1, .ofNat 67), (.ofNat 3, .ofNat 3, .ofNat 23)] 0x420 = true := by decide +kernel
theorem qf_t268 : qf_chk 268 [(.ofNat 1, .ofNat 0, .ofNat 67), (.ofNat 4, .negSucc 1, .ofNat 17), (.ofNat 4, .ofNat 2, .ofNat 17)] 0x10080208820 = true := by decide +kernel
theorem qf_t271 : qf_chk 271 [(.ofNat 1, .ofNat 1, .ofNat 68), (.ofNat 2, .negSucc 0, .ofNat 34), (.ofNat 2, .ofNat 1, .ofNat 34), (.ofNat 4, .negSucc 0, .ofNat 17), (.ofNat 4, .ofNat 1, .ofNat 17), (.ofNat 5, .negSucc 2, .ofNat 14), (.ofNat 5, .ofNat 3, .ofNat 14), (.ofNat 7, .negSucc 2, .ofNat 10), (.ofNat 7, .ofNat 3, .ofNat 10), (.ofNat 8, .negSucc 6, .ofNat 10), (.ofNat 8, .ofNat 7, .ofNat 10)] 0x801125104e33280750c26408a4491410086649ca848c0220545320e50888900d0a398461840a391092850650ce50244438925410060a86329cca42424008c42a0e9128030a928398a418820 = true := by decide +kernel
theorem qf_t272 : qf_chk 272 [(.ofNat 1, .ofNat 0, .ofNat 68), (.ofNat 3, .negSucc 1, .ofNat 23), (.ofNat 3, .ofNat 2, .ofNat 23), (.ofNat 4, .ofNat 0, .ofNat 17), (.ofNat 7, .negSucc 5, .ofNat 11), (.ofNat 7, .ofNat 6, .ofNat 11), (.ofNat 8, .negSucc 3, .ofNat 9), (.ofNat 8, .ofNat 4, .ofNat 9)] 0x180253104700c82384a6090e0118652880608ce431c4101483204c329c0211467200c1398a418820 = true := by decide +kernel
theorem qf_t275 : qf_chk 275 [(.ofNat 1, .ofNat 1, .ofNat 69), (.ofNat 3, .negSucc 0, .ofNat 23), (.ofNat 3, .ofNat 1, .ofNat 23), (.ofNat 9, .ofNat 7, .ofNat 9)] 0x44308c021006118820 = true := by decide +kernel
theorem qf_t276 : qf_chk 276 [(.ofNat 1, .ofNat 0, .ofNat 69), (.ofNat 2, .ofNat 2, .ofNat 35), (.ofNat 3, .ofNat 0, .ofNat 23), (.ofNat 5, .negSucc 1, .ofNat 14), (.ofNat 5, .ofNat 2, .ofNat 14), (.ofNat 6, .ofNat 6, .ofNat 13), (.ofNat 7, .negSucc 1, .ofNat 10), (.ofNat 7, .ofNat 2, .ofNat 10)] 0x280c111067014e208c8631c03204450886501cc410480298e320c27300a21904639401398a418820 = true := by decide +kernel
theorem qf_t279 : qf_chk 279 [(.ofNat 1, .ofNat 1, .ofNat 70), (.ofNat 2, .negSucc 0, .ofNat 35), (.ofNat 2, .ofNat 1, .ofNat 35), (.ofNat 4, .negSucc 2, .ofNat 18), (.ofNat 4, .ofNat 3, .ofNat 18), (.ofNat 5, .negSucc 0, .ofNat 14), (.ofNat 5, .ofNat 1, .ofNat 14), (.ofNat 7, .negSucc 0, .ofNat 10), (.ofNat 7, .ofNat 1, .ofNat 10), (.ofNat 8, .negSucc 2, .ofNat 9), (.ofNat 8, .ofNat 3, .ofNat 9), (.ofNat 9, .ofNat 9, .ofNat 10)] 0x254418828398ab4ac022a066090ea50166090e22a069208c70054359528194204244b228c71208148c0551d6608cea1008932d05418435952700544384ab228c0424433110551d6148c0229c6932d0a100815a928398a418820 = true := by decide +kernel
theorem qf_t280 : qf_chk 280 [(.ofNat 1, .ofNat 0, .ofNat 70), (.ofNat 2, .ofNat 0, .ofNat 35), (.ofNat 5, .ofNat 0, .ofNat 14), (.ofNat 7, .ofNat 0, .ofNat 10)] 0x4430806210c0118820 = true := by decide +kernel
theorem qf_t283 : qf_chk 283 [(.ofNat 1, .ofNat 1, .ofNat 71), (.ofNat 7, .negSucc 4, .ofNat 11), (.ofNat 7, .ofNat 5, .ofNat 11)] 0x10080208820 = true := by decide +kernel
theorem qf_t284 : qf_chk 284 [(.ofNat 1, .ofNat 0, .ofNat 71), (.ofNat 3, .negSucc 1, .ofNat 24), (.ofNat 3, .ofNat 2, .ofNat 24), (.ofNat 5, .negSucc 3, .ofNat 15), (.ofNat 5, .ofNat 4, .ofNat 15), (.ofNat 8, .negSucc 1, .ofNat 9), (.ofNat 8, .ofNat 2, .ofNat 9)] 0x301441218040986229422018641180121461198850088219406098a418820 = true := by decide +kernel
theorem qf_t287 : qf_chk 287 [(.ofNat 1, .ofNat 1, .ofNat 72), (.ofNat 2, .negSucc 0, .ofNat 36), (.ofNat 2, .ofNat 1, .ofNat 36), (.ofNat 3, .negSucc 0, .ofNat 24), (.ofNat 3, .ofNat 1, .ofNat 24), (.ofNat 4, .negSucc 0, .ofNat 18), (.ofNat 4, .ofNat 1, .ofNat 18), (.ofNat 6, .negSucc 4, .ofNat 13), (.ofNat 6, .negSucc 0, .ofNat 12), (.ofNat 6, .ofNat 1, .ofNat 12), (.ofNat 6, .ofNat 5, .ofNat 13), (.ofNat 7, .ofNat 7, .ofNat 12), (.ofNat 8, .negSucc 0, .ofNat 9), (.ofNat 8, .ofNat 1, .ofNat 9)] 0x812452d0510cec3340242567184ca215ac4a0016b044198a752c89094cd01d0262c6a52da6081833944822567634022a88130d2840c40614c95342459ca121c6a4b0085b44611868391406ad216146a308a16a16c024e4390ac1182b481aa40d853ad032342951802335432256261d00285ac5a928398a418820 = true := by decide +kernel
theorem qf_t288 : qf_chk 288 [(.ofNat 1, .ofNat 0, .ofNat 72), (.ofNat 4, .ofNat 4, .ofNat 19), (.ofNat 8, .ofNat 0, .ofNat 9), (.ofNat 8, .ofNat 8, .ofNat 11)] 0x4430806210c0118820 = true := by decide +kernel
theorem qf_t291 : qf_chk 291 [(.ofNat 1, .ofNat 1, .ofNat 73), (.ofNat 3, .ofNat 3, .ofNat 25), (.ofNat 5, .negSucc 2, .ofNat 15), (.ofNat 5, .ofNat 3, .ofNat 15)] 0x80430046210c0118820 = true := by decide +kernel
theorem qf_t292 : qf_chk 292 [(.ofNat 1, .ofNat 0, .ofNat 73), (.ofNat 2, .ofNat 2, .ofNat 37), (.ofNat 7, .negSucc 3, .ofNat 11), (.ofNat 7, .ofNat 4, .ofNat 11)] 0x80430046210c0118820 = true := by decide +kernel
theorem qf_t295 : qf_chk 295 [(.ofNat 1, .ofNat 1, .ofNat 74), (.ofNat 2, .negSucc 0, .ofNat 37), (.ofNat 2, .ofNat 1, .ofNat 37), (.ofNat 4, .negSucc 2, .ofNat 19), (.ofNat 4, .ofNat 3, .ofNat 19), (.ofNat 5, .ofNat 5, .ofNat 16), (.ofNat 8, .negSucc 4, .ofNat 10), (.ofNat 8, .ofNat 5, .ofNat 10)] 0x200223146700c47090a608803218e511c65004c43048029c43290c138c02194e610081398a418820 = true := by decide +kernel
theorem qf_t296 : qf_chk 296 [(.ofNat 1, .ofNat 0, .ofNat 74), (.ofNat 2, .ofNat 0, .ofNat 37), (.ofNat 3, .negSucc 1, .ofNat 25), (.ofNat 3, .ofNat 2, .ofNat 25), (.ofNat 5, .negSucc 1, .ofNat 15), (.ofNat 5, .ofNat 2, .ofNat 15), (.ofNat 6, .negSucc 3, .ofNat 13), (.ofNat 6, .ofNat 4, .ofNat 13), (.ofNat 9, .negSucc 7, .ofNat 10), (.ofNat 9, .ofNat 8, .ofNat 10)] 0x100c4385032a40329c2612488315001a42411c87025022846638468100864942648803395044082521d2030c69204c5020e2290434a0c700528398a418820 = true := by decide +kernel
theorem qf_t299 : qf_chk 299 [(.ofNat 1, .ofNat 1, .ofNat 75), (.ofNat 3, .negSucc 0, .ofNat 25), (.ofNat 3, .ofNat 1, .ofNat 25), (.ofNat 5, .negSucc 0, .ofNat 15), (.ofNat 5, .ofNat 1, .ofNat 15), (.ofNat 7, .negSucc 2, .ofNat 11), (.ofNat 7, .ofNat 3, .ofNat 11), (.ofNat 9, .ofNat 5, .ofNat 9)] 0xc853044718807090a6200223986529c4100cc4304e011483090c329c0211466200e1398a418820 = true := by decide +kernel
theorem qf_t300 : qf_chk 300 [(.ofNat 1, .ofNat 0, .ofNat 75), (.ofNat 3, .ofNat 0, .ofNat 25), (.ofNat 4, .negSucc 1, .ofNat 19), (.ofNat 4, .ofNat 2, .ofNat 19), (.ofNat 7, .negSucc 5, .ofNat 12), (.ofNat 7, .ofNat 6, .ofNat 12)] 0x1008119403094442044028c2500c82188a4004a418820 = true := by decide +kernel
theorem qf_b203 (d : Nat) (h1 : 203 ≤ d) (h2 : d ≤ 220) (hv : d % 4 = 0 ∨ d % 4 = 3) : ∃ L N, qf_chk d L N = true := by
  have h : d = 203 ∨ d = 204 ∨ d = 207 ∨ d = 208 ∨ d = 211 ∨ d = 212 ∨ d = 215 ∨ d = 216 ∨ d = 219 ∨ d = 220 := by omega
  rcases h with rfl | rfl | rfl | rfl | rfl | rfl | rfl | rfl | rfl | rfl
  · exact ⟨_, _, qf_t203⟩
  · exact ⟨_, _, qf_t204⟩
  · exact ⟨_, _, qf_t207⟩
  · exact ⟨_, _, qf_t208⟩
  · exact ⟨_, _, qf_t211⟩
  · exact ⟨_, _, qf_t212⟩
  · exact ⟨_, _, qf_t215⟩
  · exact ⟨_, _, qf_t216⟩
  · exact ⟨_, _, qf_t219⟩
  · exact ⟨_, _, qf_t220⟩
theorem qf_b223 (d : Nat) (h1 : 223 ≤ d) (h2 : d ≤ 240) (hv : d % 4 = 0 ∨ d % 4 = 3) : ∃ L N, qf_chk d L N = true := by
  have h : d = 223 ∨ d = 224 ∨ d = 227 ∨ d = 228 ∨ d = 231 ∨ d = 232 ∨ d = 235 ∨ d = 236 ∨ d = 239 ∨ d = 240 := by omega
  rcases h with rfl | rfl | rfl | rfl | rfl | rfl | rfl | rfl | rfl | rfl
  · exact ⟨_, _, qf_t223⟩
  · exact ⟨_, _, qf_t224⟩
  · exact ⟨_, _, qf_t227⟩
  · exact ⟨_, _, qf_t228⟩
  · exact ⟨_, _, qf_t231⟩
  · exact ⟨_, _, qf_t232⟩
  · exact ⟨_, _, qf_t235⟩
  · exact ⟨_, _, qf_t236⟩
  · exact ⟨_, _, qf_t239⟩
  · exact ⟨_, _, qf_t240⟩
theorem qf_b243 (d : Nat) (h1 : 243 ≤ d) (h2 : d ≤ 260) (hv : d % 4 = 0 ∨ d % 4 = 3) : ∃ L N, qf_chk d L N = true := by
  have h : d = 243 ∨ d = 244 ∨ d = 247 ∨ d = 248 ∨ d = 251 ∨ d = 252 ∨ d = 255 ∨ d = 256 ∨ d = 259 ∨ d = 260 := by omega
  rcases h with rfl | rfl | rfl | rfl | rfl | rfl | rfl | rfl | rfl | rfl
  · exact ⟨_, _, qf_t243⟩
  · exact ⟨_, _, qf_t244⟩
  · exact ⟨_, _, qf_t247⟩
  · exact ⟨_, _, qf_t248⟩
  · exact ⟨_, _, qf_t251⟩
  · exact ⟨_, _, qf_t252⟩
  · exact ⟨_, _, qf_t255⟩
  · exact ⟨_, _, qf_t256⟩
  · exact ⟨_, _, qf_t259⟩
  · exact ⟨_, _, qf_t260⟩
theorem qf_b263 (d : Nat) (h1 : 263 ≤ d) (h2 : d ≤ 280) (hv : d % 4 = 0 ∨ d % 4 = 3) : ∃ L N, qf_chk d L N = true := by
  have h : d = 263 ∨ d = 264 ∨ d = 267 ∨ d = 268 ∨ d = 271 ∨ d = 272 ∨ d = 275 ∨ d = 276 ∨ d = 279 ∨ d = 280 := by omega
  rcases h with rfl | rfl | rfl | rfl | rfl | rfl | rfl | rfl | rfl | rfl
  · exact ⟨_, _, qf_t263⟩
  · exact ⟨_, _, qf_t264⟩
  · exact ⟨_, _, qf_t267⟩
  · exact ⟨_, _, qf_t268⟩
  · exact ⟨_, _, qf_t271⟩
  · exact ⟨_, _, qf_t272⟩
  · exact ⟨_, _, qf_t275⟩
  · exact ⟨_, _, qf_t276⟩
  · exact ⟨_, _, qf_t279⟩
  · exact ⟨_, _, qf_t280⟩
theorem qf_b283 (d : Nat) (h1 : 283 ≤ d) (h2 : d ≤ 300) (hv : d % 4 = 0 ∨ d % 4 = 3) : ∃ L N, qf_chk d L N = true := by
  have h : d = 283 ∨ d = 284 ∨ d = 287 ∨ d = 288 ∨ d = 291 ∨ d = 292 ∨ d = 295 ∨ d = 296 ∨ d = 299 ∨ d = 300 := by omega
  rcases h with rfl | rfl | rfl | rfl | rfl | rfl | rfl | rfl | rfl | rfl
  · exact ⟨_, _, qf_t283⟩
  · exact ⟨_, _, qf_t284⟩
  · exact ⟨_, _, qf_t287⟩
  · exact ⟨_, _, qf_t288⟩
  · exact ⟨_, _, qf_t291⟩
  · exact ⟨_, _, qf_t292⟩
  · exact ⟨_, _, qf_t295⟩
  · exact ⟨_, _, qf_t296⟩
  · exact ⟨_, _, qf_t299⟩
  · exact ⟨_, _, qf_t300⟩
end
section
/-! tables, part 3: written by wip/tables.py -/
theorem qf_t303 : qf_chk 303 [(.ofNat 1, .ofNat 1, .ofNat 76), (.ofNat 2, .negSucc 0, .ofNat 38), (.ofNat 2, .ofNat 1, .ofNat 38), (.ofNat 3, .ofNat 3, .ofNat 26), (.ofNat 4, .negSucc 0, .ofNat 19), (.ofNat 4, .ofNat 1, .ofNat 19), (.ofNat 6, .negSucc 2, .ofNat 13), (.ofNat 6, .ofNat 3, .ofNat 13), (.ofNat 8, .negSucc 6, .ofNat 11), (.ofNat 8, .ofNat 7, .ofNat 11)] 0x3804808ca4324064846221ca8124803142341d01014871246608cc4381281146229c0640524290224a00638c871a5013140231503124e020528398a418820 = true := by decide +kernel
theorem qf_t304 : qf_chk 304 [(.ofNat 1, .ofNat 0, .ofNat 76), (.ofNat 4, .ofNat 0, .ofNat 19), (.ofNat 5, .negSucc 3, .ofNat 16), (.ofNat 5, .ofNat 4, .ofNat 16), (.ofNat 7, .negSucc 1, .ofNat 11), (.ofNat 7, .ofNat 2, .ofNat 11)] 0x1008119403094442044028c2500c82188a4004a418820 = true := by decide +kernel
theorem qf_t307 : qf_chk 307 [(.ofNat 1, .ofNat 1, .ofNat 77), (.ofNat 7, .negSucc 0, .ofNat 11), (.ofNat 7, .ofNat 1, .ofNat 11)] 0x10080208820 = true := by decide +kernel
theorem qf_t308 : qf_chk 308 [(.ofNat 1, .ofNat 0, .ofNat 77), (.ofNat 2, .ofNat 2, .ofNat 39), (.ofNat 3, .negSucc 1, .ofNat 26), (.ofNat 3, .ofNat 2, .ofNat 26), (.ofNat 6, .negSucc 1, .ofNat 13), (.ofNat 6, .ofNat 2, .ofNat 13), (.ofNat 7, .ofNat 0, .ofNat 11), (.ofNat 9, .ofNat 4, .ofNat 9)] 0x48510cc708043214e6208e03046528c0709844110c1380a31942601c8231c6229001398a418820 = true := by decide +kernel
theorem qf_t311 : qf_chk 311 [(.ofNat 1, .ofNat 1, .ofNat 78), (.ofNat 2, .negSucc 0, .ofNat 39), (.ofNat 2, .ofNat 1, .ofNat 39), (.ofNat 3, .negSucc 0, .ofNat 26), (.ofNat 3, .ofNat 1, .ofNat 26), (.ofNat 4, .negSucc 2, .ofNat 20), (.ofNat 4, .ofNat 3, .ofNat 20), (.ofNat 5, .negSucc 2, .ofNat 16), (.ofNat 5, .ofNat 3, .ofNat 16), (.ofNat 6, .negSucc 4, .ofNat 14), (.ofNat 6, .negSucc 0, .ofNat 13), (.ofNat 6, .ofNat 1, .ofNat 13), (.ofNat 6, .ofNat 5, .ofNat 14), (.ofNat 7, .negSucc 4, .ofNat 12), (.ofNat 7, .ofNat 5, .ofNat 12), (.ofNat 8, .negSucc 2, .ofNat 10), (.ofNat 8, .ofNat 3, .ofNat 10), (.ofNat 9, .negSucc 6, .ofNat 10), (.ofNat 9, .ofNat 7, .ofNat 10)] 0xe015878ac298344f1988a4480d49a487b04a0b890194eb8952b00d5273d822442d418f06180a591306c461148ee415e790d62005102c54c23cc96ba285100133ce25c8692c1cc6adf2484d02c404429c23b46c0b1d043ca3048cd49d428916913db03c404338a86056392a0a644a2048cf38dab4048e4b4221c564338ec015504c9e8138815490d28c095998f844ef2444c1a9286956703a41818700c88971d8b518088b5e22986d3bca25051063a3202d242150e340e25852f934116286a399097362324a017ad850090b395ac1924e7c6024a8060ca307b9ac5a928398a418820 = true := by decide +kernel
theorem qf_t312 : qf_chk 312 [(.ofNat 1, .ofNat 0, .ofNat 78), (.ofNat 2, .ofNat 0, .ofNat 39), (.ofNat 3, .ofNat 0, .ofNat 26), (.ofNat 6, .ofNat 0, .ofNat 13)] 0x4430806210c0118820 = true := by decide +kernel
theorem qf_t315 : qf_chk 315 [(.ofNat 1, .ofNat 1, .ofNat 79), (.ofNat 5, .ofNat 5, .ofNat 17), (.ofNat 7, .ofNat 7, .ofNat 13), (.ofNat 9, .ofNat 9, .ofNat 11)] 0x4430806210c0118820 = true := by decide +kernel
theorem qf_t316 : qf_chk 316 [(.ofNat 1, .ofNat 0, .ofNat 79), (.ofNat 5, .negSucc 1, .ofNat 16), (.ofNat 5, .ofNat 2, .ofNat 16), (.ofNat 8, .negSucc 5, .ofNat 11), (.ofNat 8, .ofNat 6, .ofNat 11)] 0x2004640048218483008620102418820 = true := by decide +kernel
theorem qf_t319 : qf_chk 319 [(.ofNat 1, .ofNat 1, .ofNat 80), (.ofNat 2, .negSucc 0, .ofNat 40), (.ofNat 2, .ofNat 1, .ofNat 40), (.ofNat 4, .negSucc 0, .ofNat 20), (.ofNat 4, .ofNat 1, .ofNat 20), (.ofNat 5, .negSucc 0, .ofNat 16), (.ofNat 5, .ofNat 1, .ofNat 16), (.ofNat 8, .negSucc 0, .ofNat 10), (.ofNat 8, .ofNat 1, .ofNat 10), (.ofNat 10, .ofNat 9, .ofNat 10)] 0xc8209d062a466004e911488200a81052331c414100329d2609c4019889414e908cc50204440925200c138cc519d2809002290c9408e018528398a418820 = true := by decide +kernel
theorem qf_t320 : qf_chk 320 [(.ofNat 1, .ofNat 0, .ofNat 80), (.ofNat 3, .negSucc 1, .ofNat 27), (.ofNat 3, .ofNat 2, .ofNat 27), (.ofNat 4, .ofNat 4, .ofNat 21), (.ofNat 5, .ofNat 0, .ofNat 16), (.ofNat 7, .negSucc 3, .ofNat 12), (.ofNat 7, .ofNat 4, .ofNat 12), (.ofNat 9, .ofNat 2, .ofNat 9)] 0x14c32044729c0111066300e208c8518440394c420827018a30906531c0210c86280e1398a418820 = true := by decide +kernel
theorem qf_t323 : qf_chk 323 [(.ofNat 1, .ofNat 1, .ofNat 81), (.ofNat 3, .negSucc 0, .ofNat 27), (.ofNat 3, .ofNat 1, .ofNat 27), (.ofNat 9, .ofNat 1, .ofNat 9)] 0x44308c021006118820 = true := by decide +kernel
theorem qf_t324 : qf_chk 324 [(.ofNat 1, .ofNat 0, .ofNat 81), (.ofNat 2, .ofNat 2, .ofNat 41), (.ofNat 5, .negSucc 3, .ofNat 17), (.ofNat 5, .ofNat 4, .ofNat 17), (.ofNat 9, .negSucc 5, .ofNat 10), (.ofNat 9, .ofNat 6, .ofNat 10)] 0x200411940508c441048028c2301482188a4004a418820 = true := by decide +kernel
theorem qf_t327 : qf_chk 327 [(.ofNat 1, .ofNat 1, .ofNat 82), (.ofNat 2, .negSucc 0, .ofNat 41), (.ofNat 2, .ofNat 1, .ofNat 41), (.ofNat 3, .ofNat 3, .ofNat 28), (.ofNat 4, .negSucc 2, .ofNat 21), (.ofNat 4, .ofNat 3, .ofNat 21), (.ofNat 6, .negSucc 2, .ofNat 14), (.ofNat 6, .ofNat 3, .ofNat 14), (.ofNat 7, .negSucc 2, .ofNat 12), (.ofNat 7, .ofNat 3, .ofNat 12), (.ofNat 8, .negSucc 4, .ofNat 11), (.ofNat 8, .ofNat 5, .ofNat 11)] 0x18026494475208b00ce2220c15952a09d0012c65228c9308095048329d684904a2816608d072a161010ea124661186459d2040545384a3328084ac4452c8508909018e3415471a42b31002224cb40d42380a15a928398a418820 = true := by decide +kernel
theorem qf_t328 : qf_chk 328 [(.ofNat 1, .ofNat 0, .ofNat 82), (.ofNat 2, .ofNat 0, .ofNat 41), (.ofNat 7, .negSucc 5, .ofNat 13), (.ofNat 7, .ofNat 6, .ofNat 13)] 0x80430046210c0118820 = true := by decide +kernel
theorem qf_t331 : qf_chk 331 [(.ofNat 1, .ofNat 1, .ofNat 83), (.ofNat 5, .negSucc 2, .ofNat 17), (.ofNat 5, .ofNat 3, .ofNat 17)] 0x10080208820 = true := by decide +kernel
theorem qf_t332 : qf_chk 332 [(.ofNat 1, .ofNat 0, .ofNat 83), (.ofNat 3, .negSucc 1, .ofNat 28), (.ofNat 3, .ofNat 2, .ofNat 28), (.ofNat 4, .negSucc 1, .ofNat 21), (.ofNat 4, .ofNat 2, .ofNat 21), (.ofNat 7, .negSucc 1, .ofNat 12), (.ofNat 7, .ofNat 2, .ofNat 12), (.ofNat 9, .negSucc 7, .ofNat 11), (.ofNat 9, .ofNat 8, .ofNat 11)] 0x501c6609048018881142339c820050329868004e2310a6104e30150409502010e619023314e8008432910601c28398a418820 = true := by decide +kernel
theorem qf_t335 : qf_chk 335 [(.ofNat 1, .ofNat 1, .ofNat 84), (.ofNat 2, .negSucc 0, .ofNat 42), (.ofNat 2, .ofNat 1, .ofNat 42), (.ofNat 3, .negSucc 0, .ofNat 28), (.ofNat 3, .ofNat 1, .ofNat 28), (.ofNat 4, .negSucc 0, .ofNat 21), (.ofNat 4, .ofNat 1, .ofNat 21), (.ofNat 5, .ofNat 5, .ofNat 18), (.ofNat 6, .negSucc 4, .ofNat 15), (.ofNat 6, .negSucc 0, .ofNat 14), (.ofNat 6, .ofNat 1, .ofNat 14), (.ofNat 6, .ofNat 5, .ofNat 15), (.ofNat 7, .negSucc 0, .ofNat 12), (.ofNat 7, .ofNat 1, .ofNat 12), (.ofNat 8, .negSucc 6, .ofNat 12), (.ofNat 8, .ofNat 7, .ofNat 12), (.ofNat 9, .negSucc 4, .ofNat 10), (.ofNat 9, .ofNat 5, .ofNat 10)] 0x2808d13d0b3243050dc76440660dc15150b1262f234f0231208a1ae3894119a055bda30297009dec490512a0ce13a2b4018123cc339549835e14400b70c4d29c893454c429a163a0688085488ef1ad6571c23324107c50d1308a320ef20a20515cb805836a52b131ed040b11a8c7091c8089493148f70c0d62d1089e09090672c56a6a00c7b8465446239128819805b9a17946f344a9134275b1d00290471205518e26050f6822b48ced2a1317b0648382a5980261d66828646ba227a120286307b9ac5a928398a418820 = true := by decide +kernel
theorem qf_t336 : qf_chk 336 [(.ofNat 1, .ofNat 0, .ofNat 84), (.ofNat 3, .ofNat 0, .ofNat 28), (.ofNat 4, .ofNat 0, .ofNat 21), (.ofNat 5, .negSucc 1, .ofNat 17), (.ofNat 5, .ofNat 2, .ofNat 17), (.ofNat 7, .ofNat 0, .ofNat 12), (.ofNat 8, .negSucc 3, .ofNat 11), (.ofNat 8, .ofNat 4, .ofNat 11)] 0x10065098870088129c661900638445284c200ce4094e0110c331c23200a220c4731401398a418820 = true := by decide +kernel
theorem qf_t339 : qf_chk 339 [(.ofNat 1, .ofNat 1, .ofNat 85), (.ofNat 3, .ofNat 3, .ofNat 29), (.ofNat 5, .negSucc 0, .ofNat 17), (.ofNat 5, .ofNat 1, .ofNat 17), (.ofNat 7, .negSucc 4, .ofNat 13), (.ofNat 7, .ofNat 5, .ofNat 13)] 0x200231140510464088a020c61010a210c85004a418820 = true := by decide +kernel
theorem qf_t340 : qf_chk 340 [(.ofNat 1, .ofNat 0, .ofNat 85), (.ofNat 2, .ofNat 2, .ofNat 43), (.ofNat 5, .ofNat 0, .ofNat 17), (.ofNat 10, .ofNat 10, .ofNat 11)] 0x4430806210c0118820 = true := by decide +kernel
theorem qf_t343 : qf_chk 343 [(.ofNat 1, .ofNat 1, .ofNat 86), (.ofNat 2, .negSucc 0, .ofNat 43), (.ofNat 2, .ofNat 1, .ofNat 43), (.ofNat 4, .negSucc 2, .ofNat 22), (.ofNat 4, .ofNat 3, .ofNat 22), (.ofNat 8, .negSucc 2, .ofNat 11), (.ofNat 8, .ofNat 3, .ofNat 11)] 0x200c2429801110c328c45004c40900628864304a3008a330804098a418820 = true := by decide +kernel
theorem qf_t344 : qf_chk 344 [(.ofNat 1, .ofNat 0, .ofNat 86), (.ofNat 2, .ofNat 0, .ofNat 43), (.ofNat 3, .negSucc 1, .ofNat 29), (.ofNat 3, .ofNat 2, .ofNat 29), (.ofNat 5, .negSucc 3, .ofNat 18), (.ofNat 5, .ofNat 4, .ofNat 18), (.ofNat 6, .negSucc 3, .ofNat 15), (.ofNat 6, .ofNat 4, .ofNat 15), (.ofNat 9, .negSucc 3, .ofNat 10), (.ofNat 9, .ofNat 4, .ofNat 10)] 0x3010708c45224073244120ca8419201942411ce90208228466088643812641461288063a1241102549d0030ca3204c8024e221443424c700528398a418820 = true := by decide +kernel
theorem qf_t347 : qf_chk 347 [(.ofNat 1, .ofNat 1, .ofNat 87), (.ofNat 3, .negSucc 0, .ofNat 29), (.ofNat 3, .ofNat 1, .ofNat 29), (.ofNat 9, .negSucc 6, .ofNat 11), (.ofNat 9, .ofNat 7, .ofNat 11)] 0x100c440082418c240084400c2418820 = true := by decide +kernel
theorem qf_t348 : qf_chk 348 [(.ofNat 1, .ofNat 0, .ofNat 87), (.ofNat 3, .ofNat 0, .ofNat 29), (.ofNat 7, .negSucc 3, .ofNat 13), (.ofNat 7, .ofNat 4, .ofNat 13), (.ofNat 8, .negSucc 1, .ofNat 11), (.ofNat 8, .ofNat 2, .ofNat 11)] 0x1802411402284640944020c8100ca210c85004a418820 = true := by decide +kernel
theorem qf_t351 : qf_chk 351 [(.ofNat 1, .ofNat 1, .ofNat 88), (.ofNat 2, .negSucc 0, .ofNat 44), (.ofNat 2, .ofNat 1, .ofNat 44), (.ofNat 4, .negSucc 0, .ofNat 22), (.ofNat 4, .ofNat 1, .ofNat 22), (.ofNat 5, .negSucc 2, .ofNat 18), (.ofNat 5, .ofNat 3, .ofNat 18), (.ofNat 8, .negSucc 0, .ofNat 11), (.ofNat 8, .ofNat 1, .ofNat 11), (.ofNat 9, .negSucc 2, .ofNat 10), (.ofNat 9, .ofNat 3, .ofNat 10), (.ofNat 10, .ofNat 7, .ofNat 10)] 0x10674044a494cb224013090359caa1814511c2b21909384ab0286612488418405912128d47088ea20c0542d2612023480873296550d66094e9020444ac822a0c0504e329cc91ad48090023150452562380615a928398a418820 = true := by decide +kernel
theorem qf_t352 : qf_chk 352 [(.ofNat 1, .ofNat 0, .ofNat 88), (.ofNat 4, .ofNat 4, .ofNat 23), (.ofNat 8, .ofNat 0, .ofNat 11), (.ofNat 8, .ofNat 8, .ofNat 13)] 0x4430806210c0118820 = true := by decide +kernel
theorem qf_t355 : qf_chk 355 [(.ofNat 1, .ofNat 1, .ofNat 89), (.ofNat 5, .ofNat 5, .ofNat 19), (.ofNat 7, .negSucc 2, .ofNat 13), (.ofNat 7, .ofNat 3, .ofNat 13)] 0x80430046210c0118820 = true := by decide +kernel
theorem qf_t356 : qf_chk 356 [(.ofNat 1, .ofNat 0, .ofNat 89), (.ofNat 2, .ofNat 2, .ofNat 45), (.ofNat 3, .negSucc 1, .ofNat 30), (.ofNat 3, .ofNat 2, .ofNat 30), (.ofNat 5, .negSucc 1, .ofNat 18), (.ofNat 5, .ofNat 2, .ofNat 18), (.ofNat 6, .negSucc 1, .ofNat 15), (.ofNat 6, .ofNat 2, .ofNat 15), (.ofNat 7, .negSucc 5, .ofNat 14), (.ofNat 7, .ofNat 6, .ofNat 14), (.ofNat 9, .negSucc 1, .ofNat 10), (.ofNat 9, .ofNat 2, .ofNat 10)] 0x2804649c2a40c8b010e332161124aa11c202ac665110930c01510e22ad28498aa58048204673a16402923094460ac671248032145504c240c0549d6440945204c9580e31a48b09507028c2215091894b398015a928398a418820 = true := by decide +kernel
theorem qf_t359 : qf_chk 359 [(.ofNat 1, .ofNat 1, .ofNat 90), (.ofNat 2, .negSucc 0, .ofNat 45), (.ofNat 2, .ofNat 1, .ofNat 45), (.ofNat 3, .negSucc 0, .ofNat 30), (.ofNat 3, .ofNat 1, .ofNat 30), (.ofNat 4, .negSucc 2, .ofNat 23), (.ofNat 4, .ofNat 3, .ofNat 23), (.ofNat 5, .negSucc 0, .ofNat 18), (.ofNat 5, .ofNat 1, .ofNat 18), (.ofNat 6, .negSucc 4, .ofNat 16), (.ofNat 6, .negSucc 0, .ofNat 15), (.ofNat 6, .ofNat 1, .ofNat 15), (.ofNat 6, .ofNat 5, .ofNat 16), (.ofNat 8, .negSucc 4, .ofNat 12), (.ofNat 8, .ofNat 5, .ofNat 12), (.ofNat 9, .negSucc 0, .ofNat 10), (.ofNat 9, .ofNat 1, .ofNat 10), (.ofNat 10, .negSucc 8, .ofNat 11), (.ofNat 10, .ofNat 9, .ofNat 11)] 0x4038ac7a02b6893019a2a3c80333609728476048f9150b8b8c202a2b6a4612a24c21df02b40192c8c728c289c69821ec82a4b005ed89c62220c92b9e98ac0a93a022206129ccc6a1cb206472bc098a8c28346c0a9ac7b8b2040664a0e28916b125cd83c113148760503929a71aa22040c8930ab7848e4898131c891964d02e0a73e28484a21a2262300e7a9ab940f0222221a9272adec03a416986f91c813218b828098b5c229a4c1a0a2385ea6ba3002d248948931e02405cb9340f6286a41e093362323e4172d85008eb7a0ac1924e8c1a24a8060ca307b9ac5a928398a418820 = true := by decide +kernel
theorem qf_t360 : qf_chk 360 [(.ofNat 1, .ofNat 0, .ofNat 90), (.ofNat 2, .ofNat 0, .ofNat 45), (.ofNat 5, .ofNat 0, .ofNat 18), (.ofNat 7, .negSucc 1, .ofNat 13), (.ofNat 7, .ofNat 2, .ofNat 13), (.ofNat 9, .negSucc 5, .ofNat 11), (.ofNat 9, .ofNat 0, .ofNat 10), (.ofNat 9, .ofNat 6, .ofNat 11)] 0x3140111067280e32044601cc208c8508c4601ca411020314e320467280c21888539801398a418820 = true := by decide +kernel
theorem qf_t363 : qf_chk 363 [(.ofNat 1, .ofNat 1, .ofNat 91), (.ofNat 3, .ofNat 3, .ofNat 31), (.ofNat 7, .negSucc 0, .ofNat 13), (.ofNat 7, .ofNat 1, .ofNat 13)] 0x80430046210c0118820 = true := by decide +kernel
theorem qf_t364 : qf_chk 364 [(.ofNat 1, .ofNat 0, .ofNat 91), (.ofNat 4, .negSucc 1, .ofNat 23), (.ofNat 4, .ofNat 2, .ofNat 23), (.ofNat 5, .negSucc 3, .ofNat 19), (.ofNat 5, .ofNat 4, .ofNat 19), (.ofNat 7, .ofNat 0, .ofNat 13)] 0x8241944100ca40804520c832840219480104a418820 = true := by decide +kernel
theorem qf_t367 : qf_chk 367 [(.ofNat 1, .ofNat 1, .ofNat 92), (.ofNat 2, .negSucc 0, .ofNat 46), (.ofNat 2, .ofNat 1, .ofNat 46), (.ofNat 4, .negSucc 0, .ofNat 23), (.ofNat 4, .ofNat 1, .ofNat 23), (.ofNat 7, .negSucc 4, .ofNat 14), (.ofNat 7, .ofNat 5, .ofNat 14), (.ofNat 8, .negSucc 6, .ofNat 13), (.ofNat 8, .ofNat 7, .ofNat 13)] 0x70088130ca802061288c438861020853988100867418a12a06601c44308870142818cc541c24008a43984800c28398a418820 = true := by decide +kernel
theorem qf_t368 : qf_chk 368 [(.ofNat 1, .ofNat 0, .ofNat 92), (.ofNat 3, .negSucc 1, .ofNat 31), (.ofNat 3, .ofNat 2, .ofNat 31), (.ofNat 4, .ofNat 0, .ofNat 23), (.ofNat 9, .negSucc 7, .ofNat 12), (.ofNat 9, .ofNat 8, .ofNat 12)] 0x2002311405104640880428c612140210ca0204a418820 = true := by decide +kernel
theorem qf_t371 : qf_chk 371 [(.ofNat 1, .ofNat 1, .ofNat 93), (.ofNat 3, .negSucc 0, .ofNat 31), (.ofNat 3, .ofNat 1, .ofNat 31), (.ofNat 5, .negSucc 2, .ofNat 19), (.ofNat 5, .ofNat 3, .ofNat 19), (.ofNat 7, .ofNat 7, .ofNat 15), (.ofNat 9, .negSucc 4, .ofNat 11), (.ofNat 9, .ofNat 5, .ofNat 11)] 0x280c310487014e120c4631c02090651844601ca411020394c308c872980220865300e1398a418820 = true := by decide +kernel
theorem qf_t372 : qf_chk 372 [(.ofNat 1, .ofNat 0, .ofNat 93), (.ofNat 2, .ofNat 2, .ofNat 47), (.ofNat 3, .ofNat 0, .ofNat 31), (.ofNat 6, .ofNat 6, .ofNat 17)] 0x4430806210c0118820 = true := by decide +kernel
theorem qf_t375 : qf_chk 375 [(.ofNat 1, .ofNat 1, .ofNat 94), (.ofNat 2, .negSucc 0, .ofNat 47), (.ofNat 2, .ofNat 1, .ofNat 47), (.ofNat 3, .ofNat 3, .ofNat 32), (.ofNat 4, .negSucc 2, .ofNat 24), (.ofNat 4, .ofNat 3, .ofNat 24), (.ofNat 6, .negSucc 2, .ofNat 16), (.ofNat 6, .ofNat 3, .ofNat 16), (.ofNat 8, .negSucc 2, .ofNat 12), (.ofNat 8, .ofNat 3, .ofNat 12)] 0x3804818485324064844329c88124a02182341d01010e512466188873010149423314074a044214224240638ca71a4283100231103488e028528398a418820 = true := by decide +kernel
theorem qf_t376 : qf_chk 376 [(.ofNat 1, .ofNat 0, .ofNat 94), (.ofNat 2, .ofNat 0, .ofNat 47), (.ofNat 5, .negSucc 1, .ofNat 19), (.ofNat 5, .ofNat 2, .ofNat 19), (.ofNat 7, .negSucc 3, .ofNat 14), (.ofNat 7, .ofNat 4, .ofNat 14), (.ofNat 10, .negSucc 7, .ofNat 11), (.ofNat 10, .ofNat 8, .ofNat 11)] 0x200c30944701447204663082038c8519c01118a4090e2280c328466010e210c8531c01398a418820 = true := by decide +kernel
theorem qf_t379 : qf_chk 379 [(.ofNat 1, .ofNat 1, .ofNat 95), (.ofNat 5, .negSucc 0, .ofNat 19), (.ofNat 5, .ofNat 1, .ofNat 19)] 0x10080208820 = true := by decide +kernel
theorem qf_t380 : qf_chk 380 [(.ofNat 1, .ofNat 0, .ofNat 95), (.ofNat 3, .negSucc 1, .ofNat 32), (.ofNat 3, .ofNat 2, .ofNat 32), (.ofNat 5, .ofNat 0, .ofNat 19), (.ofNat 8, .negSucc 5, .ofNat 13), (.ofNat 8, .ofNat 6, .ofNat 13), (.ofNat 9, .negSucc 3, .ofNat 11), (.ofNat 9, .ofNat 4, .ofNat 11)] 0x180453048700c8139446110e008cc52840611c6431c22010a30946721802208c3280e1398a418820 = true := by decide +kernel
theorem qf_t383 : qf_chk 383 [(.ofNat 1, .ofNat 1, .ofNat 96), (.ofNat 2, .negSucc 0, .ofNat 48), (.ofNat 2, .ofNat 1, .ofNat 48), (.ofNat 3, .negSucc 0, .ofNat 32), (.ofNat 3, .ofNat 1, .ofNat 32), (.ofNat 4, .negSucc 0, .ofNat 24), (.ofNat 4, .ofNat 1, .ofNat 24), (.ofNat 6, .negSucc 4, .ofNat 17), (.ofNat 6, .negSucc 0, .ofNat 16), (.ofNat 6, .ofNat 1, .ofNat 16), (.ofNat 6, .ofNat 5, .ofNat 17), (.ofNat 7, .negSucc 2, .ofNat 14), (.ofNat 7, .ofNat 3, .ofNat 14), (.ofNat 8, .negSucc 0, .ofNat 12), (.ofNat 8, .ofNat 1, .ofNat 12), (.ofNat 9, .negSucc 6, .ofNat 12), (.ofNat 9, .ofNat 7, .ofNat 12)] 0xd03d012a5c71306622d50039303082a6a08b194ec7bd2a010ec0c1a3115683391001d4373c4b091862a5a1311420146971e086bd6c288e3005a8219ea725905a42c715a433c0b408f01a9ca0bc683301029d62691276c04923c0b2a8c160dc8121ab7181028d2c5048f3b08309deb2a9280360e1186b1120a41ccc025ee0b4a61958870961535f0024e4215666a4e26060e03d481ace82bd9068c8e0a5460094c32570191cf134e8014307b9ac5a928398a418820 = true := by decide +kernel
theorem qf_t384 : qf_chk 384 [(.ofNat 1, .ofNat 0, .ofNat 96), (.ofNat 3, .ofNat 0, .ofNat 32), (.ofNat 4, .ofNat 4, .ofNat 25), (.ofNat 5, .negSucc 3, .ofNat 20), (.ofNat 5, .ofNat 4, .ofNat 20), (.ofNat 7, .negSucc 5, .ofNat 15), (.ofNat 7, .ofNat 6, .ofNat 15), (.ofNat 11, .ofNat 10, .ofNat 11)] 0xc85304471880709486200413986529c2200cc4304e0110a3094c3200e21106629c01398a418820 = true := by decide +kernel
theorem qf_t387 : qf_chk 387 [(.ofNat 1, .ofNat 1, .ofNat 97), (.ofNat 9, .negSucc 2, .ofNat 11), (.ofNat 9, .ofNat 3, .ofNat 11), (.ofNat 9, .ofNat 9, .ofNat 13)] 0x44308c021006118820 = true := by decide +kernel
theorem qf_t388 : qf_chk 388 [(.ofNat 1, .ofNat 0, .ofNat 97), (.ofNat 2, .ofNat 2, .ofNat 49), (.ofNat 7, .negSucc 1, .ofNat 14), (.ofNat 7, .ofNat 2, .ofNat 14)] 0x80430046210c0118820 = true := by decide +kernel
theorem qf_t391 : qf_chk 391 [(.ofNat 1, .ofNat 1, .ofNat 98), (.ofNat 2, .negSucc 0, .ofNat 49), (.ofNat 2, .ofNat 1, .ofNat 49), (.ofNat 4, .negSucc 2, .ofNat 25), (.ofNat 4, .ofNat 3, .ofNat 25), (.ofNat 5, .negSucc 2, .ofNat 20), (.ofNat 5, .ofNat 3, .ofNat 20), (.ofNat 7, .negSucc 0, .ofNat 14), (.ofNat 7, .ofNat 1, .ofNat 14), (.ofNat 8, .negSucc 4, .ofNat 13), (.ofNat 8, .ofNat 5, .ofNat 13), (.ofNat 10, .negSucc 6, .ofNat 11), (.ofNat 10, .ofNat 3, .ofNat 10), (.ofNat 10, .ofNat 7, .ofNat 11)] 0x51006588614a1853b4801a0ea4882d598ac00d2d2902a130e832cc86840561d622246a59ca0130cd40c245244a215810246669d681a42c3004452cad41c2251da920c0542d864844b40d4021ccc6950d60866594ea0052462ce40b4a83012a10ca6424876ad8150c02394c352d0c6a440205ac5a928398a418820 = true := by decide +kernel
theorem qf_t392 : qf_chk 392 [(.ofNat 1, .ofNat 0, .ofNat 98), (.ofNat 2, .ofNat 0, .ofNat 49), (.ofNat 3, .negSucc 1, .ofNat 33), (.ofNat 3, .ofNat 2, .ofNat 33), (.ofNat 6, .negSucc 3, .ofNat 17), (.ofNat 6, .ofNat 4, .ofNat 17), (.ofNat 9, .negSucc 1, .ofNat 11), (.ofNat 9, .ofNat 2, .ofNat 11)] 0x808228cc700465110e620cc009c4511407304642882638083190e1018a231c4321401398a418820 = true := by decide +kernel
theorem qf_t395 : qf_chk 395 [(.ofNat 1, .ofNat 1, .ofNat 99), (.ofNat 3, .negSucc 0, .ofNat 33), (.ofNat 3, .ofNat 1, .ofNat 33), (.ofNat 5, .ofNat 5, .ofNat 21), (.ofNat 7, .negSucc 4, .ofNat 15), (.ofNat 7, .ofNat 5, .ofNat 15), (.ofNat 9, .negSucc 0, .ofNat 11), (.ofNat 9, .ofNat 1, .ofNat 11)] 0x180253104700c82384a6090e0118652880608ce431c4101483204c329c0211467200c1398a418820 = true := by decide +kernel
theorem qf_t396 : qf_chk 396 [(.ofNat 1, .ofNat 0, .ofNat 99), (.ofNat 4, .negSucc 1, .ofNat 25), (.ofNat 4, .ofNat 2, .ofNat 25), (.ofNat 5, .negSucc 1, .ofNat 20), (.ofNat 5, .ofNat 2, .ofNat 20), (.ofNat 9, .ofNat 0, .ofNat 11)] 0x8241944100ca40804520c832840219480104a418820 = true := by decide +kernel
theorem qf_t399 : qf_chk 399 [(.ofNat 1, .ofNat 1, .ofNat 100), (.ofNat 2, .negSucc 0, .ofNat 50), (.ofNat 2, .ofNat 1, .ofNat 50), (.ofNat 3, .ofNat 3, .ofNat 34), (.ofNat 4, .negSucc 0, .ofNat 25), (.ofNat 4, .ofNat 1, .ofNat 25), (.ofNat 5, .negSucc 0, .ofNat 20), (.ofNat 5, .ofNat 1, .ofNat 20), (.ofNat 6, .negSucc 2, .ofNat 17), (.ofNat 6, .ofNat 3, .ofNat 17), (.ofNat 7, .ofNat 7, .ofNat 16), (.ofNat 8, .negSucc 6, .ofNat 14), (.ofNat 8, .ofNat 7, .ofNat 14), (.ofNat 10, .negSucc 8, .ofNat 12), (.ofNat 10, .ofNat 1, .ofNat 10), (.ofNat 10, .ofNat 9, .ofNat 12)] 0x514074358112c6e224cf2808848d6c089ed518ee0114933c4b605c329d0d3a125009cf1b42b3114c424c0205ae78d823a8ab68de2080e64a0857316a62c4e69c802a90608de90b16f71805510e913468105837a4aa200c85b9a75882d1a1440152763dc61bdc161107325406ac457346b114c941c0a78584228a63b8225b1af02123498e45306d73d614140231d0a2ade36b84c480817b9ac5a928398a418820 = true := by decide +kernel
theorem qf_t400 : qf_chk 400 [(.ofNat 1, .ofNat 0, .ofNat 100), (.ofNat 4, .ofNat 0, .ofNat 25), (.ofNat 8, .negSucc 3, .ofNat 13), (.ofNat 8, .ofNat 4, .ofNat 13)] 0x80430046210c0118820 = true := by decide +kernel
theorem qf_b303 (d : Nat) (h1 : 303 ≤ d) (h2 : d ≤ 320) (hv : d % 4 = 0 ∨ d % 4 = 3) : ∃ L N, qf_chk d L N = true := by
  have h : d = 303 ∨ d = 304 ∨ d = 307 ∨ d = 308 ∨ d = 311 ∨ d = 312 ∨ d = 315 ∨ d = 316 ∨ d = 319 ∨ d = 320 := by omega
  rcases h with rfl | rfl | rfl | rfl | rfl | rfl | rfl | rfl | rfl | rfl
  · exact ⟨_, _, qf_t303⟩
  · exact ⟨_, _, qf_t304⟩
  · exact ⟨_, _, qf_t307⟩
  · exact ⟨_, _, qf_t308⟩
  · exact ⟨_, _, qf_t311⟩
  · exact ⟨_, _, qf_t312⟩
  · exact ⟨_, _, qf_t315⟩
  · exact ⟨_, _, qf_t316⟩
  · exact ⟨_, _, qf_t319⟩
  · exact ⟨_, _, qf_t320⟩
theorem qf_b323 (d : Nat) (h1 : 323 ≤ d) (h2 : d ≤ 340) (hv : d % 4 = 0 ∨ d % 4 = 3) : ∃ L N, qf_chk d L N = true := by
  have h : d = 323 ∨ d = 324 ∨ d = 327 ∨ d = 328 ∨ d = 331 ∨ d = 332 ∨ d = 335 ∨ d = 336 ∨ d = 339 ∨ d = 340 := by omega
  rcases h with rfl | rfl | rfl | rfl | rfl | rfl | rfl | rfl | rfl | rfl
  · exact ⟨_, _, qf_t323⟩
  · exact ⟨_, _, qf_t324⟩
  · exact ⟨_, _, qf_t327⟩
  · exact ⟨_, _, qf_t328⟩
  · exact ⟨_, _, qf_t331⟩
  · exact ⟨_, _, qf_t332⟩
  · exact ⟨_, _, qf_t335⟩
  · exact ⟨_, _, qf_t336⟩
  · exact ⟨_, _, qf_t339⟩
  · exact ⟨_, _, qf_t340⟩
theorem qf_b343 (d : Nat) (h1 : 343 ≤ d) (h2 : d ≤ 360) (hv : d % 4 = 0 ∨ d % 4 = 3) : ∃ L N, qf_chk d L N = true := by
  have h : d = 343 ∨ d = 344 ∨ d = 347 ∨ d = 348 ∨ d = 351 ∨ d = 352 ∨ d = 355 ∨ d = 356 ∨ d = 359 ∨ d = 360 := by omega
  rcases h with rfl | rfl | rfl | rfl | rfl | rfl | rfl | rfl | rfl | rfl
  · exact ⟨_, _, qf_t343⟩
  · exact ⟨_, _, qf_t344⟩
  · exact ⟨_, _, qf_t347⟩
  · exact ⟨_, _, qf_t348⟩
  · exact ⟨_, _, qf_t351⟩
  · exact ⟨_, _, qf_t352⟩
  · exact ⟨_, _, qf_t355⟩
  · exact ⟨_, _, qf_t356⟩
  · exact ⟨_, _, qf_t359⟩
  · exact ⟨_, _, qf_t360⟩
theorem qf_b363 (d : Nat) (h1 : 363 ≤ d) (h2 : d ≤ 380) (hv : d % 4 = 0 ∨ d % 4 = 3) : ∃ L N, qf_chk d L N = true := by
  have h : d = 363 ∨ d = 364 ∨ d = 367 ∨ d = 368 ∨ d = 371 ∨ d = 372 ∨ d = 375 ∨ d = 376 ∨ d = 379 ∨ d = 380 := by omega
  rcases h with rfl | rfl | rfl | rfl | rfl | rfl | rfl | rfl | rfl | rfl
  · exact ⟨_, _, qf_t363⟩
  · exact ⟨_, _, qf_t364⟩
  · exact ⟨_, _, qf_t367⟩
  · exact ⟨_, _, qf_t368⟩
  · exact ⟨_, _, qf_t371⟩
  · exact ⟨_, _, qf_t372⟩
  · exact ⟨_, _, qf_t375⟩
  · exact ⟨_, _, qf_t376⟩
  · exact ⟨_, _, qf_t379⟩
  · exact ⟨_, _, qf_t380⟩
theorem qf_b383 (d : Nat) (h1 : 383 ≤ d) (h2 : d ≤ 400) (hv : d % 4 = 0 ∨ d % 4 = 3) : ∃ L N, qf_chk d L N = true := by
  have h : d = 383 ∨ d = 384 ∨ d = 387 ∨ d = 388 ∨ d = 391 ∨ d = 392 ∨ d = 395 ∨ d = 396 ∨ d = 399 ∨ d = 400 := by omega
  rcases h with rfl | rfl | rfl | rfl | rfl | rfl | rfl | rfl | rfl | rfl
  · exact ⟨_, _, qf_t383⟩
  · exact ⟨_, _, qf_t384⟩
  · exact ⟨_, _, qf_t387⟩
  · exact ⟨_, _, qf_t388⟩
  · exact ⟨_, _, qf_t391⟩
  · exact ⟨_, _, qf_t392⟩
  · exact ⟨_, _, qf_t395⟩
  · exact ⟨_, _, qf_t396⟩
  · exact ⟨_, _, qf_t399⟩
  · exact ⟨_, _, qf_t400⟩
theorem qf_ex (d : Nat) (h1 : 3 ≤ d) (h2 : d ≤ 400) (hv : d % 4 = 0 ∨ d % 4 = 3) : ∃ L N, qf_chk d L N = true := by
  by_cases g3 : d ≤ 20
  · exact qf_b3 d (by omega) g3 hv
  by_cases g23 : d ≤ 40
  · exact qf_b23 d (by omega) g23 hv
  by_cases g43 : d ≤ 60
  · exact qf_b43 d (by omega) g43 hv
  by_cases g63 : d ≤ 80
  · exact qf_b63 d (by omega) g63 hv
  by_cases g83 : d ≤ 100
  · exact qf_b83 d (by omega) g83 hv
  by_cases g103 : d ≤ 120
  · exact qf_b103 d (by omega) g103 hv
  by_cases g123 : d ≤ 140
  · exact qf_b123 d (by omega) g123 hv
  by_cases g143 : d ≤ 160
  · exact qf_b143 d (by omega) g143 hv
  by_cases g163 : d ≤ 180
  · exact qf_b163 d (by omega) g163 hv
  by_cases g183 : d ≤ 200
  · exact qf_b183 d (by omega) g183 hv
  by_cases g203 : d ≤ 220
  · exact qf_b203 d (by omega) g203 hv
  by_cases g223 : d ≤ 240
  · exact qf_b223 d (by omega) g223 hv
  by_cases g243 : d ≤ 260
  · exact qf_b243 d (by omega) g243 hv
  by_cases g263 : d ≤ 280
  · exact qf_b263 d (by omega) g263 hv
  by_cases g283 : d ≤ 300
  · exact qf_b283 d (by omega) g283 hv
  by_cases g303 : d ≤ 320
  · exact qf_b303 d (by omega) g303 hv
  by_cases g323 : d ≤ 340
  · exact qf_b323 d (by omega) g323 hv
  by_cases g343 : d ≤ 360
  · exact qf_b343 d (by omega) g343 hv
  by_cases g363 : d ≤ 380
  · exact qf_b363 d (by omega) g363 hv
  by_cases g383 : d ≤ 400
  · exact qf_b383 d (by omega) g383 hv
  omega
end
section
/-! numbers: Int32 and Int64 as images of integers -/
def qz_i (z : Int) : Int32 := Int32.ofInt z
def qz_l (z : Int) : Int64 := Int64.ofInt z
theorem qz_add (a b : Int) : qz_i a + qz_i b = qz_i (a + b) := (Int32.ofInt_add a b).symm
theorem qz_sub (a b : Int) : qz_i a - qz_i b = qz_i (a - b) := (Int32.ofInt_sub a b).symm
theorem qz_mul (a b : Int) : qz_i a * qz_i b = qz_i (a * b) := (Int32.ofInt_mul a b).symm
theorem qz_neg (a : Int) : -qz_i a = qz_i (-a) := (Int32.ofInt_neg a).symm
theorem qz_nI (n : Nat) : nI n = qz_i (n : Int) := (Int32.ofInt_eq_ofNat (n := n)).symm
theorem qz_self (x : Int32) : x = qz_i x.toInt := (Int32.ofInt_toInt x).symm
theorem qz_toInt {a : Int} (h1 : -2147483648 ≤ a) (h2 : a < 2147483648) : (qz_i a).toInt = a :=
  Int32.toInt_ofInt_of_le (by omega) (by omega)
theorem qz_le {a b : Int} (h1 : -2147483648 ≤ a ∧ a < 2147483648) (h3 : -2147483648 ≤ b ∧ b < 2147483648) : qz_i a ≤ qz_i b ↔ a ≤ b := by
  rw [Int32.le_iff_toInt_le, qz_toInt h1.1 h1.2, qz_toInt h3.1 h3.2]
theorem qz_lt {a b : Int} (h1 : -2147483648 ≤ a ∧ a < 2147483648) (h3 : -2147483648 ≤ b ∧ b < 2147483648) : qz_i a < qz_i b ↔ a < b := by
  rw [Int32.lt_iff_toInt_lt, qz_toInt h1.1 h1.2, qz_toInt h3.1 h3.2]
theorem qz_eq {a b : Int} (h1 : -2147483648 ≤ a ∧ a < 2147483648) (h3 : -2147483648 ≤ b ∧ b < 2147483648) : qz_i a = qz_i b ↔ a = b := by
  rw [← Int32.toInt_inj, qz_toInt h1.1 h1.2, qz_toInt h3.1 h3.2]
theorem qz_min32 : Int32.minValue.toInt = -2147483648 := by decide
theorem qz_max32 : Int32.maxValue.toInt = 2147483647 := by decide
theorem qz_div {a b : Int} (h1 : -2147483648 ≤ a ∧ a < 2147483648) (h3 : -2147483648 ≤ b ∧ b < 2147483648) : qz_i a / qz_i b = qz_i (a.tdiv b) := by
  refine (Int32.ofInt_tdiv ?_ ?_ ?_ ?_).symm
  · rw [qz_min32]; omega
  · rw [qz_max32]; omega
  · rw [qz_min32]; omega
  · rw [qz_max32]; omega
theorem qz_rem {a b : Int} (h1 : -2147483648 ≤ a ∧ a < 2147483648) (h3 : -2147483648 ≤ b ∧ b < 2147483648) : qz_i a - qz_i a / qz_i b * qz_i b = qz_i (a.tmod b) := by
  rw [qz_div h1 h3, qz_mul, qz_sub, Int.tmod_def, Int.mul_comm b]
theorem qz_in {a : Int} {N : Nat} (h0 : 0 ≤ a) (h : a < N) (hN : N < 2147483648) : vp_in (qz_i a) N := by
  rw [vp_in_iff, qz_toInt (by omega) (by omega)]
  exact ⟨h0, h⟩
theorem qz_cl {a : Int} (h0 : 0 ≤ a) (h : a < 2147483648) : (qz_i a).toNatClampNeg = a.toNat := by
  obtain ⟨n, rfl⟩ : ∃ n : Nat, a = n := ⟨a.toNat, by omega⟩
  rw [← qz_nI, nI_clamp (by omega)]
  rfl
/-! branches -/
theorem qz_cle {X Y : Int32} {A B : Prop} (x y : Int) (hX : X = qz_i x) (hY : Y = qz_i y) (bx : -2147483648 ≤ x ∧ x < 2147483648) (bb : -2147483648 ≤ y ∧ y < 2147483648) (f : x ≤ y → A) (g : y < x → B) : (X ≤ Y → A) ∧ (¬ X ≤ Y → B) := by
  subst hX hY
  rw [qz_le bx bb]
  exact ⟨f, fun z => g (by omega)⟩
theorem qz_clt {X Y : Int32} {A B : Prop} (x y : Int) (hX : X = qz_i x) (hY : Y = qz_i y) (bx : -2147483648 ≤ x ∧ x < 2147483648) (bb : -2147483648 ≤ y ∧ y < 2147483648) (f : x < y → A) (g : y ≤ x → B) : (X < Y → A) ∧ (¬ X < Y → B) := by
  subst hX hY
  rw [qz_lt bx bb]
  exact ⟨f, fun z => g (by omega)⟩
theorem qz_ceq {X Y : Int32} {A B : Prop} (x y : Int) (hX : X = qz_i x) (hY : Y = qz_i y) (bx : -2147483648 ≤ x ∧ x < 2147483648) (bb : -2147483648 ≤ y ∧ y < 2147483648) (f : x = y → A) (g : x ≠ y → B) : (X = Y → A) ∧ (¬ X = Y → B) := by
  subst hX hY
  rw [qz_eq bx bb]
  exact ⟨f, g⟩
/-! longs -/
theorem ql_add (a b : Int) : qz_l a + qz_l b = qz_l (a + b) := (Int64.ofInt_add a b).symm
theorem ql_sub (a b : Int) : qz_l a - qz_l b = qz_l (a - b) := (Int64.ofInt_sub a b).symm
theorem ql_mul (a b : Int) : qz_l a * qz_l b = qz_l (a * b) := (Int64.ofInt_mul a b).symm
theorem ql_neg (a : Int) : -qz_l a = qz_l (-a) := (Int64.ofInt_neg a).symm
theorem ql_toInt {a : Int} (h1 : -9223372036854775808 ≤ a) (h2 : a < 9223372036854775808) : (qz_l a).toInt = a :=
  Int64.toInt_ofInt_of_le (by omega) (by omega)
theorem ql_le {a b : Int} (h1 : -9223372036854775808 ≤ a ∧ a < 9223372036854775808) (h3 : -9223372036854775808 ≤ b ∧ b < 9223372036854775808) : qz_l a ≤ qz_l b ↔ a ≤ b := by
  rw [Int64.le_iff_toInt_le, ql_toInt h1.1 h1.2, ql_toInt h3.1 h3.2]
theorem ql_lt {a b : Int} (h1 : -9223372036854775808 ≤ a ∧ a < 9223372036854775808) (h3 : -9223372036854775808 ≤ b ∧ b < 9223372036854775808) : qz_l a < qz_l b ↔ a < b := by
  rw [Int64.lt_iff_toInt_lt, ql_toInt h1.1 h1.2, ql_toInt h3.1 h3.2]
theorem ql_eq {a b : Int} (h1 : -9223372036854775808 ≤ a ∧ a < 9223372036854775808) (h3 : -9223372036854775808 ≤ b ∧ b < 9223372036854775808) : qz_l a = qz_l b ↔ a = b := by
  rw [← Int64.toInt_inj, ql_toInt h1.1 h1.2, ql_toInt h3.1 h3.2]
theorem ql_min64 : Int64.minValue.toInt = -9223372036854775808 := by decide
theorem ql_max64 : Int64.maxValue.toInt = 9223372036854775807 := by decide
theorem ql_div {a b : Int} (h1 : -9223372036854775808 ≤ a ∧ a < 9223372036854775808) (h3 : -9223372036854775808 ≤ b ∧ b < 9223372036854775808) : qz_l a / qz_l b = qz_l (a.tdiv b) := by
  refine (Int64.ofInt_tdiv ?_ ?_ ?_ ?_).symm
  · rw [ql_min64]; omega
  · rw [ql_max64]; omega
  · rw [ql_min64]; omega
  · rw [ql_max64]; omega
theorem ql_rem {a b : Int} (h1 : -9223372036854775808 ≤ a ∧ a < 9223372036854775808) (h3 : -9223372036854775808 ≤ b ∧ b < 9223372036854775808) : qz_l a - qz_l a / qz_l b * qz_l b = qz_l (a.tmod b) := by
  rw [ql_div h1 h3, ql_mul, ql_sub, Int.tmod_def, Int.mul_comm b]
theorem ql_of {a : Int} (h1 : -2147483648 ≤ a) (h2 : a < 2147483648) : (qz_i a).toInt64 = qz_l a :=
  Int32.toInt64_ofInt (by rw [qz_min32]; omega) (by rw [qz_max32]; omega)
theorem ql_back (a : Int) : (qz_l a).toInt32 = qz_i a := Int64.toInt32_ofInt
theorem ql_cle {X Y : Int64} {A B : Prop} (x y : Int) (hX : X = qz_l x) (hY : Y = qz_l y) (bx : -9223372036854775808 ≤ x ∧ x < 9223372036854775808) (bb : -9223372036854775808 ≤ y ∧ y < 9223372036854775808) (f : x ≤ y → A) (g : y < x → B) : (X ≤ Y → A) ∧ (¬ X ≤ Y → B) := by
  subst hX hY
  rw [ql_le bx bb]
  exact ⟨f, fun z => g (by omega)⟩
theorem ql_clt {X Y : Int64} {A B : Prop} (x y : Int) (hX : X = qz_l x) (hY : Y = qz_l y) (bx : -9223372036854775808 ≤ x ∧ x < 9223372036854775808) (bb : -9223372036854775808 ≤ y ∧ y < 9223372036854775808) (f : x < y → A) (g : y ≤ x → B) : (X < Y → A) ∧ (¬ X < Y → B) := by
  subst hX hY
  rw [ql_lt bx bb]
  exact ⟨f, fun z => g (by omega)⟩
theorem ql_ceq {X Y : Int64} {A B : Prop} (x y : Int) (hX : X = qz_l x) (hY : Y = qz_l y) (bx : -9223372036854775808 ≤ x ∧ x < 9223372036854775808) (bb : -9223372036854775808 ≤ y ∧ y < 9223372036854775808) (f : x = y → A) (g : x ≠ y → B) : (X = Y → A) ∧ (¬ X = Y → B) := by
  subst hX hY
  rw [ql_eq bx bb]
  exact ⟨f, g⟩
/-! rows of kit/rows/PURE-ROWS -/
theorem pk_us {f : Nat → Int32} {k : Nat} {x : Int32} : upd f k x k = x := if_pos rfl
theorem pk_un {f : Nat → Int32} {k j : Nat} {x : Int32} (h : j ≠ k) : upd f k x j = f j := if_neg h
theorem pk_sub {a b : Nat} (h : b ≤ a) : nI a - nI b = nI (a - b) := by
  obtain ⟨c, rfl⟩ : ∃ c, a = c + b := ⟨a - b, by omega⟩
  rw [← nI_add, Int32.add_sub_cancel, Nat.add_sub_cancel]
theorem pk_m1 (n : Nat) : nI (n + 1) + (-1) = nI n := by
  rw [← nI_1, Int32.add_assoc, show (1 : Int32) + (-1) = 0 from rfl, Int32.add_zero]
theorem pk_mul (a b : Nat) : nI a * nI b = nI (a * b) := (Int32.ofNat_mul a b).symm
theorem pk_div {a d : Nat} (ha : a < 2 ^ 31) (h0 : 0 < d) (hd : d < 2 ^ 31) : nI a / nI d = nI (a / d) := by
  apply Int32.toInt_inj.mp
  rw [lg_idiv_nonneg (by rw [nI_toInt ha]; omega) (by rw [nI_toInt hd]; omega), nI_toInt ha, nI_toInt hd, nI_toInt (Nat.lt_of_le_of_lt (Nat.div_le_self a d) ha)]
  first | rfl | exact (Int.natCast_ediv _ _).symm
theorem pk_rem {a d : Nat} (ha : a < 2 ^ 31) (h0 : 0 < d) (hd : d < 2 ^ 31) : nI a - nI a / nI d * nI d = nI (a % d) := by
  rw [pk_div ha h0 hd, pk_mul, pk_sub (Nat.div_mul_le_self a d)]
  exact congrArg nI (by have := Nat.div_add_mod' a d; omega)
theorem pk_ix (x : Int32) {n : Nat} (hn : n < 2 ^ 31) : x < 0 ∨ nI n ≤ x ∨ ∃ j : Nat, j < n ∧ x = nI j := by
  by_cases h : x < 0
  · exact Or.inl h
  · obtain ⟨j, hj, rfl⟩ := nI_of h
    by_cases h2 : j < n
    · exact Or.inr (Or.inr ⟨j, h2, rfl⟩)
    · exact Or.inr (Or.inl (nI_le (by omega) hj))
theorem pk_le {x y : Int32} {A B : Prop} (a b : Nat) (f : a ≤ b → A) (g : b < a → B) (hx : x = nI a := by rfl) (hy : y = nI b := by rfl) (ha : a < 2 ^ 31 := by omega) (hb : b < 2 ^ 31 := by omega) : (x ≤ y → A) ∧ (¬ x ≤ y → B) := by
  subst hx hy
  rw [nI_leI ha hb]
  exact ⟨f, fun z => g (by omega)⟩
theorem pk_lt {x y : Int32} {A B : Prop} (a b : Nat) (f : a < b → A) (g : b ≤ a → B) (hx : x = nI a := by rfl) (hy : y = nI b := by rfl) (ha : a < 2 ^ 31 := by omega) (hb : b < 2 ^ 31 := by omega) : (x < y → A) ∧ (¬ x < y → B) := by
  subst hx hy
  rw [nI_ltI ha hb]
  exact ⟨f, fun z => g (by omega)⟩
theorem pk_eq {x y : Int32} {A B : Prop} (a b : Nat) (f : a = b → A) (g : a ≠ b → B) (hx : x = nI a := by rfl) (hy : y = nI b := by rfl) (ha : a < 2 ^ 31 := by omega) (hb : b < 2 ^ 31 := by omega) : (x = y → A) ∧ (¬ x = y → B) := by
  subst hx hy
  rw [nI_eq ha hb]
  exact ⟨f, g⟩
theorem pk_in {x : Int32} (n N : Nat) (h : n < N) (hx : x = nI n := by rfl) (hN : N < 2 ^ 31 := by omega) : vp_in x N := by
  subst hx
  exact vp_in_nI h hN
theorem pk_cl {x : Int32} (n : Nat) (hx : x = nI n := by rfl) (h : n < 2 ^ 31 := by omega) : x.toNatClampNeg = n := by
  subst hx
  exact nI_clamp h
/-! literals -/
theorem qk_0 : (0 : Int32) = qz_i 0 := by first | rfl | decide
theorem qk_1 : (1 : Int32) = qz_i 1 := by first | rfl | decide
theorem qk_2 : (2 : Int32) = qz_i 2 := by first | rfl | decide
theorem qk_3 : (3 : Int32) = qz_i 3 := by first | rfl | decide
theorem qk_4 : (4 : Int32) = qz_i 4 := by first | rfl | decide
theorem qk_11 : (11 : Int32) = qz_i 11 := by first | rfl | decide
theorem qk_12 : (12 : Int32) = qz_i 12 := by first | rfl | decide
theorem qk_13 : (13 : Int32) = qz_i 13 := by first | rfl | decide
theorem qk_25 : (25 : Int32) = qz_i 25 := by first | rfl | decide
theorem qk_28 : (28 : Int32) = qz_i 28 := by first | rfl | decide
theorem qk_64 : (64 : Int32) = qz_i 64 := by first | rfl | decide
theorem qk_66 : (66 : Int32) = qz_i 66 := by first | rfl | decide
theorem qk_400 : (400 : Int32) = qz_i 400 := by first | rfl | decide
theorem qk_500 : (500 : Int32) = qz_i 500 := by first | rfl | decide
theorem qk_1000 : (1000 : Int32) = qz_i 1000 := by first | rfl | decide
theorem qk_m1 : (-1 : Int32) = qz_i (-1) := by first | rfl | decide
theorem qk_m12 : (-12 : Int32) = qz_i (-12) := by first | rfl | decide
theorem qk_m13 : (-13 : Int32) = qz_i (-13) := by first | rfl | decide
theorem qk_m25 : (-25 : Int32) = qz_i (-25) := by first | rfl | decide
theorem qk_m28 : (-28 : Int32) = qz_i (-28) := by first | rfl | decide
theorem qk_m1000 : (-1000 : Int32) = qz_i (-1000) := by first | rfl | decide
theorem qk_m1000000 : (-1000000 : Int32) = qz_i (-1000000) := by first | rfl | decide
theorem qk_m1000001 : (-1000001 : Int32) = qz_i (-1000001) := by first | rfl | decide
theorem ql_k0 : (0 : Int64) = qz_l 0 := by first | rfl | decide
theorem ql_k1 : (1 : Int64) = qz_l 1 := by first | rfl | decide
theorem ql_k2 : (2 : Int64) = qz_l 2 := by first | rfl | decide
theorem ql_k4 : (4 : Int64) = qz_l 4 := by first | rfl | decide
end
section
/-! the mathematics of reduction -/
theorem qm_sq (b : Int) : 0 ≤ b * b := by
  rcases Int.le_total 0 b with h | h
  · exact Int.mul_nonneg h h
  · have := Int.mul_nonneg (show 0 ≤ -b by omega) (show 0 ≤ -b by omega)
    rw [Int.neg_mul_neg] at this
    exact this
theorem qm_sqle {x a : Int} (h1 : -a ≤ x) (h2 : x ≤ a) : x * x ≤ a * a := by
  have h := Int.mul_nonneg (show 0 ≤ a - x by omega) (show 0 ≤ a + x by omega)
  have e : (a - x) * (a + x) = a * a - x * x := by grind
  omega
theorem qm_pos {a c x : Int} (h : 1 ≤ a) (hx : 4 * a * c = x) (h0 : 0 < x) : 1 ≤ c := by
  rcases (show 0 < c ∨ c ≤ 0 by omega) with g | g
  · omega
  · have := Int.mul_nonneg (show 0 ≤ 4 * a by omega) (show 0 ≤ -c by omega)
    rw [Int.mul_neg] at this
    omega
theorem qm_near_b {a : Int} (b : Int) (h : 1 ≤ a) : -a < qf_near b a ∧ qf_near b a ≤ a := by
  have h1 := Int.emod_nonneg b (show 2 * a ≠ 0 by omega)
  have h2 := Int.emod_lt_of_pos b (show 0 < 2 * a by omega)
  unfold qf_near
  split <;> omega
theorem qm_near_k (a b : Int) : ∃ k, qf_near b a = b + 2 * a * k := by
  have h := Int.emod_add_mul_ediv b (2 * a)
  unfold qf_near
  split
  · refine ⟨-(b / (2 * a)) - 1, ?_⟩
    rw [Int.mul_sub, Int.mul_neg, Int.mul_one]
    omega
  · refine ⟨-(b / (2 * a)), ?_⟩
    rw [Int.mul_neg]
    omega
theorem qm_near_u {a b m k : Int} (h : 1 ≤ a) (h1 : -a < m) (h2 : m ≤ a) (hk : m = b + 2 * a * k) : qf_near b a = m := by
  obtain ⟨k', hk'⟩ := qm_near_k a b
  obtain ⟨g1, g2⟩ := qm_near_b b h
  rcases Int.lt_trichotomy k' k with c | c | c
  · obtain ⟨s, hs⟩ : ∃ s : Nat, k = k' + 1 + s := ⟨(k - 1 - k').toNat, by omega⟩
    have p : 0 ≤ 2 * a * (s : Int) := Int.mul_nonneg (by omega) (by omega)
    have e2 : 2 * a * k = 2 * a * k' + 2 * a + 2 * a * (s : Int) := by rw [hs, Int.mul_add, Int.mul_add, Int.mul_one]
    omega
  · rw [hk', hk, c]
  · obtain ⟨s, hs⟩ : ∃ s : Nat, k' = k + 1 + s := ⟨(k' - 1 - k).toNat, by omega⟩
    have p : 0 ≤ 2 * a * (s : Int) := Int.mul_nonneg (by omega) (by omega)
    have e2 : 2 * a * k' = 2 * a * k + 2 * a + 2 * a * (s : Int) := by rw [hs, Int.mul_add, Int.mul_add, Int.mul_one]
    omega
theorem qm_near_t {a b n : Int} (h : 1 ≤ a) (hn : n = b.tmod (2 * a)) : (a < n → n - 2 * a = qf_near b a) ∧ (n ≤ -a → n + 2 * a = qf_near b a) ∧ (n ≤ a → -a < n → n = qf_near b a) := by
  have h1 := Int.tmod_lt_of_pos b (show 0 < 2 * a by omega)
  have h2 := Int.lt_tmod_of_pos b (show 0 < 2 * a by omega)
  have h3 := Int.tmod_def b (2 * a)
  rw [← hn] at h1 h2 h3
  generalize b.tdiv (2 * a) = q at h3
  refine ⟨fun c => ?_, fun c => ?_, fun c c' => ?_⟩
  · exact (qm_near_u (k := -q - 1) h (by omega) (by omega) (by rw [Int.mul_sub, Int.mul_neg, Int.mul_one]; omega)).symm
  · exact (qm_near_u (k := -q + 1) h (by omega) (by omega) (by rw [Int.mul_add, Int.mul_neg, Int.mul_one]; omega)).symm
  · exact (qm_near_u (k := -q) h (by omega) (by omega) (by rw [Int.mul_neg]; omega)).symm
theorem qm_near_0 (b : Int) : qf_near b 0 = b := by
  unfold qf_near
  simp
theorem qm_third {d a b c : Int} (h : 1 ≤ a) (hc : 4 * a * c = b * b + d) : qf_third d a b = c := by
  unfold qf_third
  rw [if_neg (by omega), ← hc, if_pos (Int.mul_emod_right _ _), Int.mul_ediv_cancel_left _ (by omega)]
theorem qm_third_nz {d a b : Int} (hd : 0 < d) (h : qf_third d a b ≠ 0) : 1 ≤ a ∧ 4 * a * qf_third d a b = b * b + d ∧ 1 ≤ qf_third d a b := by
  by_cases h1 : a < 1
  · exact absurd (by unfold qf_third; rw [if_pos h1]) h
  · by_cases h2 : (b * b + d) % (4 * a) = 0
    · have e : 4 * a * qf_third d a b = b * b + d := by
        unfold qf_third
        rw [if_neg h1, if_pos h2]
        exact Int.mul_ediv_cancel' (Int.dvd_of_emod_eq_zero h2)
      have := qm_sq b
      exact ⟨by omega, e, qm_pos (by omega) e (by omega)⟩
    · exact absurd (by unfold qf_third; rw [if_neg h1, if_neg h2]) h
theorem qm_shift {d a b c k : Int} (hc : 4 * a * c = b * b + d) : 4 * a * (c + b * k + a * k * k) = (b + 2 * a * k) * (b + 2 * a * k) + d := by grind
def qm_prim (a b c : Int) : Prop := ∀ p : Int, p ∣ a → p ∣ b → p ∣ c → p ∣ 1
theorem qm_pshift {a b c : Int} (k : Int) : qm_prim a (b + 2 * a * k) (c + b * k + a * k * k) ↔ qm_prim a b c := by
  constructor
  · intro h p ⟨x, hx⟩ ⟨y, hy⟩ ⟨z, hz⟩
    exact h p ⟨x, hx⟩ ⟨y + 2 * x * k, by subst hx hy; grind⟩ ⟨z + y * k + x * k * k, by subst hx hy hz; grind⟩
  · intro h p ⟨x, hx⟩ ⟨y, hy⟩ ⟨z, hz⟩
    have hb : b = p * (y - 2 * x * k) := by subst hx; grind
    have hcc : c = p * (z - (y - 2 * x * k) * k - x * k * k) := by subst hx hb; grind
    exact h p ⟨x, hx⟩ ⟨_, hb⟩ ⟨_, hcc⟩
theorem qm_pswap {a b c : Int} (h : qm_prim c (-b) a) : qm_prim a b c := fun p ha hb hc => h p hc (Int.dvd_neg.mpr hb) ha
theorem qm_pswap' {a b c : Int} (h : qm_prim a b c) : qm_prim c (-b) a := fun p hc hb ha => h p ha (Int.dvd_neg.mp hb) hc
theorem qm_g3 (a b c : Int) : qf_g3 a b c = 1 ↔ qm_prim a b c := by
  constructor
  · intro h p ha hb hc
    have h1 : p.natAbs ∣ qf_g3 a b c := Nat.dvd_gcd (Nat.dvd_gcd (Int.natAbs_dvd_natAbs.mpr ha) (Int.natAbs_dvd_natAbs.mpr hb)) (Int.natAbs_dvd_natAbs.mpr hc)
    rw [h] at h1
    exact Int.natAbs_dvd_natAbs.mp h1
  · intro h
    have g0 : qf_g3 a b c ∣ Nat.gcd a.natAbs b.natAbs := Nat.gcd_dvd_left _ _
    have g1 : ((qf_g3 a b c : Nat) : Int).natAbs ∣ a.natAbs := Nat.dvd_trans g0 (Nat.gcd_dvd_left _ _)
    have g2 : ((qf_g3 a b c : Nat) : Int).natAbs ∣ b.natAbs := Nat.dvd_trans g0 (Nat.gcd_dvd_right _ _)
    have g3 : ((qf_g3 a b c : Nat) : Int).natAbs ∣ c.natAbs := Nat.gcd_dvd_right _ _
    have g4 := Int.natAbs_dvd_natAbs.mpr (h _ (Int.natAbs_dvd_natAbs.mp g1) (Int.natAbs_dvd_natAbs.mp g2) (Int.natAbs_dvd_natAbs.mp g3))
    exact Nat.dvd_one.mp g4
theorem qm_red (a b c : Int) : qf_red a b c = true ↔ -a < b ∧ b ≤ a ∧ (a < c ∨ (a = c ∧ 0 ≤ b)) := by
  unfold qf_red
  simp only [Bool.and_eq_true, Bool.or_eq_true, decide_eq_true_eq]
theorem qm_at_succ (f : qf_F) (t : List qf_F) (i : Nat) : qf_at (f :: t) (i + 1) = qf_at t i := rfl
theorem qm_ix (a b : Int) : ∀ (L : List qf_F) (k : Int), qf_ix L a b k = qf_NO ∨ ∃ i : Nat, i < L.length ∧ qf_ix L a b k = k + i ∧ (qf_at L i).1 = a ∧ (qf_at L i).2.1 = b := by
  intro L
  induction L with
  | nil => intro k; exact Or.inl rfl
  | cons f t ih =>
    intro k
    have st : qf_ix t a b (k + 1) = qf_NO ∨ ∃ i : Nat, i < (f :: t).length ∧ qf_ix t a b (k + 1) = k + i ∧ (qf_at (f :: t) i).1 = a ∧ (qf_at (f :: t) i).2.1 = b := by
      rcases ih (k + 1) with h | ⟨i, h1, h2, h3, h4⟩
      · exact Or.inl h
      · exact Or.inr ⟨i + 1, by rw [List.length_cons]; omega, by rw [h2]; omega, by rw [qm_at_succ]; exact h3, by rw [qm_at_succ]; exact h4⟩
    by_cases h1 : f.1 = a
    · by_cases h2 : f.2.1 = b
      · refine Or.inr ⟨0, by rw [List.length_cons]; omega, ?_, h1, h2⟩
        rw [qf_ix, if_pos h1, if_pos h2]
        omega
      · rw [qf_ix, if_pos h1, if_neg h2]
        exact st
    · rw [qf_ix, if_neg h1]
      exact st
theorem qm_at_mem {L : List qf_F} {i : Nat} (h : i < L.length) : qf_at L i ∈ L := by
  have e : qf_at L i = L[i] := by simp [qf_at, h]
  rw [e]
  exact List.getElem_mem h
/-! what a checked table says -/
section
variable {d : Nat} {L : List qf_F} {N : Nat}
theorem qg_1 (G : qf_chk d L N = true) : qf_la d 11 1 [] = L ∧ qf_ly d 20 1 [] = L ∧ L.length ≤ 31 ∧ 0 < L.length ∧ (qf_at L 0).1 = 1 := by
  simp only [qf_chk, qf_c1, Bool.and_eq_true, decide_eq_true_eq] at G
  exact G.1
theorem qg_ent (G : qf_chk d L N = true) {i : Nat} (h : i < L.length) : 1 ≤ (qf_at L i).1 ∧ (qf_at L i).1 ≤ 11 ∧ (-(qf_at L i).1 < (qf_at L i).2.1 ∧ (qf_at L i).2.1 ≤ (qf_at L i).1 ∧ ((qf_at L i).1 < (qf_at L i).2.2 ∨ ((qf_at L i).1 = (qf_at L i).2.2 ∧ 0 ≤ (qf_at L i).2.1))) ∧ 4 * (qf_at L i).1 * (qf_at L i).2.2 = (qf_at L i).2.1 * (qf_at L i).2.1 + d ∧ qf_g3 (qf_at L i).1 (qf_at L i).2.1 (qf_at L i).2.2 = 1 ∧ (qf_at L i).2.2 ≤ 120 := by
  simp only [qf_chk, Bool.and_eq_true] at G
  have g := List.all_eq_true.mp G.2.1 _ (qm_at_mem h)
  simp only [qf_ent, Bool.and_eq_true, decide_eq_true_eq, qm_red] at g
  exact g
theorem qg_comp (G : qf_chk d L N = true) {a b : Int} (h1 : 1 ≤ a) (h2 : a ≤ 11) (h3 : -a < b) (h4 : b ≤ a) (ok : qf_ok d a b = true) : 0 ≤ qf_ix L a b 0 := by
  simp only [qf_chk, Bool.and_eq_true] at G
  have g := List.all_eq_true.mp (List.all_eq_true.mp G.2.2.1 a.toNat (List.mem_range.mpr (by omega))) (b - 1 + a).toNat (List.mem_range.mpr (by omega))
  rw [show ((a.toNat : Nat) : Int) = a by omega, show 1 - a + (((b - 1 + a).toNat : Nat) : Int) = b by omega, ok] at g
  simpa using g
theorem qg_P (G : qf_chk d L N = true) {i j : Nat} (hi : i < L.length) (hj : j < L.length) : qf_P N L.length i j < L.length ∧ qf_fe d L j (qf_at L i).1 (qf_at L i).2.1 (1001 - (qf_at L j).1.toNat) (qf_at L j).1.toNat = qf_P N L.length i j ∧ qf_yk d L (qf_at L i).1 (qf_at L i).2.1 (qf_P N L.length i j) (qf_sx (qf_at L j) (qf_at L i).1 13 0) = true := by
  simp only [qf_chk, Bool.and_eq_true] at G
  have g := List.all_eq_true.mp (List.all_eq_true.mp G.2.2.2.1 i (List.mem_range.mpr hi)) j (List.mem_range.mpr hj)
  simp only [Bool.and_eq_true, decide_eq_true_eq] at g
  exact g
theorem qg_inv (G : qf_chk d L N = true) {i : Nat} (hi : i < L.length) : 0 ≤ qf_fcl d L (qf_at L i).1 (-(qf_at L i).2.1) ∧ qf_inv d L i < L.length ∧ qf_P N L.length i (qf_inv d L i) = 0 ∧ (∀ j, j < qf_inv d L i → qf_P N L.length i j ≠ 0) ∧ ∃ t, t < L.length ∧ qf_it N L.length i t i = 0 := by
  simp only [qf_chk, Bool.and_eq_true] at G
  have g := List.all_eq_true.mp G.2.2.2.2 i (List.mem_range.mpr hi)
  simp only [Bool.and_eq_true, decide_eq_true_eq] at g
  obtain ⟨g1, g2, g3, g4, g5⟩ := g
  refine ⟨g1, g2, g3, fun j hj => ?_, ?_⟩
  · have := List.all_eq_true.mp g4 j (List.mem_range.mpr hj)
    simpa using this
  · obtain ⟨t, ht, hh⟩ := List.any_eq_true.mp g5
    exact ⟨t, List.mem_range.mp ht, by simpa using hh⟩
/-! reduction ends at the class of the form -/
theorem qm_rr (G : qf_chk d L N = true) (hd : d ≤ 400) {a m c : Int} (h1 : 1 ≤ a) (hc : 4 * a * c = m * m + d) (hr : -a < m ∧ m ≤ a ∧ (a < c ∨ (a = c ∧ 0 ≤ m))) (hp : qm_prim a m c) : 0 ≤ qf_ix L a m 0 := by
  have q1 : m * m ≤ a * a := qm_sqle (by omega) (by omega)
  have q2 : a * a ≤ a * c := Int.mul_le_mul_of_nonneg_left (by omega) (by omega)
  have q3 : 4 * a * c = 4 * (a * c) := Int.mul_assoc _ _ _
  have q4 : a ≤ 11 := by
    rcases (show 11 < a ∨ a ≤ 11 by omega) with g | g
    · have : 12 * 12 ≤ a * a := Int.mul_le_mul (by omega) (by omega) (by omega) (by omega)
      omega
    · exact g
  refine qg_comp G h1 q4 hr.1 hr.2.1 ?_
  unfold qf_ok
  rw [qm_third h1 hc, (qm_red a m c).mpr hr, (qm_g3 a m c).mpr hp]
  rfl
theorem qm_r1 (G : qf_chk d L N = true) (hd : 0 < d) : ∀ (n : Nat) (a b c : Int), 1 ≤ a → 4 * a * c = b * b + d → qf_fc d L n a b ≠ qf_NO → qm_prim a b c := by
  intro n
  induction n with
  | zero => intro a b c _ _ h; exact absurd rfl h
  | succ n ih =>
    intro a b c h1 hc hne
    obtain ⟨k, hk⟩ := qm_near_k a b
    have hs := qm_shift (k := k) hc
    refine (qm_pshift k).mp ?_
    rw [← hk] at hs ⊢
    generalize c + b * k + a * k * k = c' at hs ⊢
    have ht := qm_third h1 hs
    rw [qf_fc, ht] at hne
    generalize qf_near b a = m at hs ht hne ⊢
    have hm := qm_sq m
    split at hne
    · rcases qm_ix a m L 0 with h | ⟨i, hi, he, ha, hb⟩
      · exact absurd h hne
      · obtain ⟨e1, e2, e3, e4, e5, e6⟩ := qg_ent G hi
        rw [ha, hb] at e4 e5
        have := qm_third h1 e4
        rw [ht] at this
        rw [this]
        exact (qm_g3 _ _ _).mp e5
    · exact qm_pswap (ih c' (-m) a (qm_pos h1 hs (by omega)) (by rw [Int.neg_mul_neg, ← hs]; grind) hne)
theorem qm_r2 (G : qf_chk d L N = true) (hd : 0 < d) (hd4 : d ≤ 400) : ∀ (n : Nat) (a b c : Int), 1 ≤ a → 4 * a * c = b * b + d → qm_prim a b c → a + 2 ≤ n → 0 ≤ qf_fc d L n a b := by
  intro n
  induction n with
  | zero => intro a b c h1 _ _ h; omega
  | succ n ih =>
    intro a b c h1 hc hp hn
    obtain ⟨k, hk⟩ := qm_near_k a b
    obtain ⟨b1, b2⟩ := qm_near_b b h1
    have hs := qm_shift (k := k) hc
    have hp' := (qm_pshift k).mpr hp
    rw [← hk] at hs hp'
    generalize c + b * k + a * k * k = c' at hs hp'
    have ht := qm_third h1 hs
    rw [qf_fc, ht]
    generalize qf_near b a = m at hs ht hp' b1 b2 ⊢
    have hm := qm_sq m
    split
    · rename_i hr
      exact qm_rr G hd4 h1 hs ((qm_red _ _ _).mp hr) hp'
    · rename_i hr
      rw [qm_red] at hr
      have c1 := qm_pos h1 hs (by omega)
      by_cases g : c' < a
      · exact ih c' (-m) a c1 (by rw [Int.neg_mul_neg, ← hs]; grind) (qm_pswap' hp') (by omega)
      · have e : c' = a := by omega
        subst e
        obtain ⟨n', rfl⟩ : ∃ n', n = n' + 1 := ⟨n - 1, by omega⟩
        have hs' : 4 * c' * c' = -m * -m + d := by rw [Int.neg_mul_neg]; exact hs
        have hq : qf_near (-m) c' = -m := qm_near_u (k := 0) h1 (by omega) (by omega) (by omega)
        have hrr : -c' < -m ∧ -m ≤ c' ∧ (c' < c' ∨ (c' = c' ∧ 0 ≤ -m)) := ⟨by omega, by omega, Or.inr ⟨rfl, by omega⟩⟩
        rw [qf_fc, hq, qm_third h1 hs', if_pos ((qm_red _ _ _).mpr hrr)]
        exact qm_rr G hd4 h1 hs' hrr (qm_pswap' hp')
theorem qm_r3 (G : qf_chk d L N = true) (hd : 0 < d) (hd4 : d ≤ 400) {a b c : Int} (h1 : 1 ≤ a) (h2 : a ≤ 1000) (hc : 4 * a * c = b * b + d) (hp : qm_prim a b c) : 0 ≤ qf_fc d L 1000 a b := by
  by_cases h9 : a ≤ 998
  · exact qm_r2 G hd hd4 1000 a b c h1 hc hp (by omega)
  · obtain ⟨k, hk⟩ := qm_near_k a b
    obtain ⟨b1, b2⟩ := qm_near_b b h1
    have hs := qm_shift (k := k) hc
    have hp' := (qm_pshift k).mpr hp
    rw [← hk] at hs hp'
    generalize c + b * k + a * k * k = c' at hs hp'
    have ht := qm_third h1 hs
    rw [show 1000 = 999 + 1 from rfl, qf_fc, ht]
    generalize qf_near b a = m at hs ht hp' b1 b2 ⊢
    have hm := qm_sq m
    have hm2 : m * m ≤ a * a := qm_sqle (by omega) (by omega)
    split
    · rename_i hr
      exact qm_rr G hd4 h1 hs ((qm_red _ _ _).mp hr) hp'
    · have c1 := qm_pos h1 hs (by omega)
      have c2 : c' ≤ 900 := by
        rcases (show 900 < c' ∨ c' ≤ 900 by omega) with g | g
        · have q2 : a * a ≤ a * 1000 := Int.mul_le_mul_of_nonneg_left h2 (by omega)
          have q4 : a * 901 ≤ a * c' := Int.mul_le_mul_of_nonneg_left (by omega) (by omega)
          have q3 : 4 * a * c' = 4 * (a * c') := Int.mul_assoc _ _ _
          omega
        · exact g
      exact qm_r2 G hd hd4 999 c' (-m) a c1 (by rw [Int.neg_mul_neg, ← hs]; grind) (qm_pswap' hp') (by omega)
end
/-! numbers that forms give lie near -/
theorem qm_q {x y : Int} (h : 676 ≤ x * x ∨ 676 ≤ y * y) : 507 ≤ x * x - x * y + y * y := by
  have h1 := qm_sq (2 * x - y)
  have h2 := qm_sq (2 * y - x)
  have e1 : (2 * x - y) * (2 * x - y) = 4 * (x * x) - 4 * (x * y) + y * y := by grind
  have e2 : (2 * y - x) * (2 * y - x) = 4 * (y * y) - 4 * (x * y) + x * x := by grind
  omega
theorem qm_far {x : Int} (h : x < -25 ∨ 25 < x) : 676 ≤ x * x := by
  rcases h with h | h
  · have := Int.mul_le_mul (show (26 : Int) ≤ -x by omega) (show (26 : Int) ≤ -x by omega) (by omega) (by omega)
    rw [Int.neg_mul_neg] at this
    exact this
  · exact Int.mul_le_mul (show (26 : Int) ≤ x by omega) (show (26 : Int) ≤ x by omega) (by omega) (by omega)
theorem qm_big {a b c x y : Int} (h1 : 1 ≤ a) (h2 : -a < b) (h3 : b ≤ a) (h4 : a ≤ c) (h : (x < -25 ∨ 25 < x) ∨ (y < -25 ∨ 25 < y)) : 500 < a * x * x + b * x * y + c * y * y := by
  have hq : 676 ≤ x * x ∨ 676 ≤ y * y := h.elim (fun z => Or.inl (qm_far z)) (fun z => Or.inr (qm_far z))
  have c1 : 0 ≤ (c - a) * (y * y) := Int.mul_nonneg (by omega) (qm_sq y)
  rcases Int.le_total 0 (x * y) with s | s
  · have q := qm_q hq
    have p1 : 0 ≤ (b + a) * (x * y) := Int.mul_nonneg (by omega) s
    have p2 : 0 ≤ (a - 1) * (x * x - x * y + y * y) := Int.mul_nonneg (by omega) (by omega)
    have e : a * x * x + b * x * y + c * y * y = (b + a) * (x * y) + (a - 1) * (x * x - x * y + y * y) + (c - a) * (y * y) + (x * x - x * y + y * y) := by grind
    omega
  · have q := qm_q (x := x) (y := -y) (by rw [Int.neg_mul_neg]; exact hq)
    rw [Int.neg_mul_neg, Int.mul_neg] at q
    have p1 : 0 ≤ (a - b) * (-(x * y)) := Int.mul_nonneg (by omega) (by omega)
    have p2 : 0 ≤ (a - 1) * (x * x - -(x * y) + y * y) := Int.mul_nonneg (by omega) (by omega)
    have e : a * x * x + b * x * y + c * y * y = (a - b) * (-(x * y)) + (a - 1) * (x * x - -(x * y) + y * y) + (c - a) * (y * y) + (x * x - -(x * y) + y * y) := by grind
    omega
/-! counting pairs -/
def qc_y (p : Int → Int → Bool) (x : Int) : Nat → Int → Nat → Nat
  | 0, _, acc => acc
  | n + 1, y, acc => qc_y p x n (y + 1) (if p x y = true then acc + 1 else acc)
def qc_x (p : Int → Int → Bool) (m : Nat) (lo : Int) : Nat → Int → Nat → Nat
  | 0, _, acc => acc
  | n + 1, x, acc => qc_x p m lo n (x + 1) (qc_y p x m lo acc)
theorem qc_y_app (p : Int → Int → Bool) (x : Int) (n : Nat) : ∀ (m : Nat) (y : Int) (acc : Nat), qc_y p x (m + n) y acc = qc_y p x n (y + m) (qc_y p x m y acc) := by
  intro m
  induction m with
  | zero => intro y acc; rw [Nat.zero_add, show y + ((0 : Nat) : Int) = y by omega]; rfl
  | succ m ih =>
    intro y acc
    rw [show m + 1 + n = (m + n) + 1 by omega, qc_y, ih, show y + 1 + (m : Int) = y + ((m + 1 : Nat) : Int) by omega]
    rfl
theorem qc_y_no (p : Int → Int → Bool) (x : Int) : ∀ (n : Nat) (y : Int) (acc : Nat), (∀ z, y ≤ z → z < y + n → p x z = false) → qc_y p x n y acc = acc := by
  intro n
  induction n with
  | zero => intro y acc _; rfl
  | succ n ih =>
    intro y acc h
    rw [qc_y, h y (by omega) (by omega)]
    exact ih _ _ (fun z h1 h2 => h z (by omega) (by omega))
theorem qc_x_app (p : Int → Int → Bool) (l : Nat) (lo : Int) (n : Nat) : ∀ (m : Nat) (y : Int) (acc : Nat), qc_x p l lo (m + n) y acc = qc_x p l lo n (y + m) (qc_x p l lo m y acc) := by
  intro m
  induction m with
  | zero => intro y acc; rw [Nat.zero_add, show y + ((0 : Nat) : Int) = y by omega]; rfl
  | succ m ih =>
    intro y acc
    rw [show m + 1 + n = (m + n) + 1 by omega, qc_x, ih, show y + 1 + (m : Int) = y + ((m + 1 : Nat) : Int) by omega]
    rfl
theorem qc_x_no (p : Int → Int → Bool) (l : Nat) (lo : Int) : ∀ (n : Nat) (x : Int) (acc : Nat), (∀ z y, x ≤ z → z < x + n → p z y = false) → qc_x p l lo n x acc = acc := by
  intro n
  induction n with
  | zero => intro x acc _; rfl
  | succ n ih =>
    intro x acc h
    rw [qc_x, qc_y_no p x l lo acc (fun z _ _ => h x z (by omega) (by omega))]
    exact ih _ _ (fun z y h1 h2 => h z y (by omega) (by omega))
theorem qc_x_eq (p : Int → Int → Bool) (h : ∀ x y, y < -25 ∨ 25 < y → p x y = false) : ∀ (n : Nat) (x : Int) (acc : Nat), qc_x p 57 (-28) n x acc = qc_x p 51 (-25) n x acc := by
  intro n
  induction n with
  | zero => intro x acc; rfl
  | succ n ih =>
    intro x acc
    rw [qc_x, qc_x, ih]
    congr 1
    have e1 : qc_y p x 57 (-28) acc = qc_y p x 54 (-25) (qc_y p x 3 (-28) acc) := by
      first | exact qc_y_app p x 54 3 (-28) acc | simpa using qc_y_app p x 54 3 (-28) acc
    have e2 : qc_y p x 54 (-25) acc = qc_y p x 3 26 (qc_y p x 51 (-25) acc) := by
      first | exact qc_y_app p x 3 51 (-25) acc | simpa using qc_y_app p x 3 51 (-25) acc
    rw [qc_y_no p x 3 (-28) acc (fun z _ _ => h x z (by omega))] at e1
    rw [qc_y_no p x 3 26 (qc_y p x 51 (-25) acc) (fun z _ _ => h x z (by omega))] at e2
    exact e1.trans e2
theorem qc_eq (p : Int → Int → Bool) (h : ∀ x y, (x < -25 ∨ 25 < x) ∨ (y < -25 ∨ 25 < y) → p x y = false) : qc_x p 57 (-28) 57 (-28) 0 = qc_x p 51 (-25) 51 (-25) 0 := by
  rw [qc_x_eq p (fun x y z => h x y (Or.inr z))]
  have e1 : qc_x p 51 (-25) 57 (-28) 0 = qc_x p 51 (-25) 54 (-25) (qc_x p 51 (-25) 3 (-28) 0) := by
    first | exact qc_x_app p 51 (-25) 54 3 (-28) 0 | simpa using qc_x_app p 51 (-25) 54 3 (-28) 0
  have e2 : qc_x p 51 (-25) 54 (-25) 0 = qc_x p 51 (-25) 3 26 (qc_x p 51 (-25) 51 (-25) 0) := by
    first | exact qc_x_app p 51 (-25) 3 51 (-25) 0 | simpa using qc_x_app p 51 (-25) 3 51 (-25) 0
  rw [qc_x_no p 51 (-25) 3 (-28) 0 (fun z y _ _ => h z y (Or.inl (by omega)))] at e1
  rw [qc_x_no p 51 (-25) 3 26 (qc_x p 51 (-25) 51 (-25) 0) (fun z y _ _ => h z y (Or.inl (by omega)))] at e2
  exact e1.trans e2
end
section
/-! bounds of the steps, the reference's find, the reference's loop for the middle number -/
theorem qm_nb {a b B : Int} (h0 : 0 ≤ a) (h1 : a ≤ B) (h2 : -B ≤ b) (h3 : b ≤ B) : -B ≤ qf_near b a ∧ qf_near b a ≤ B := by
  rcases (show 0 < a ∨ a ≤ 0 by omega) with h | h
  · have := qm_near_b b (show 1 ≤ a by omega)
    omega
  · have e : a = 0 := by omega
    rw [e, qm_near_0]
    exact ⟨h2, h3⟩
theorem qm_tb {d a m : Int} (h0 : 0 < d) (hd : d ≤ 400) (h1 : -a ≤ m) (h2 : m ≤ a) : 0 ≤ qf_third d a m ∧ (qf_third d a m ≤ a ∨ qf_third d a m ≤ 400) := by
  by_cases hz : qf_third d a m = 0
  · rw [hz]; omega
  · obtain ⟨g1, g2, g3⟩ := qm_third_nz h0 hz
    refine ⟨by omega, ?_⟩
    generalize qf_third d a m = c at g2 g3 ⊢
    by_cases q : c ≤ a ∨ c ≤ 400
    · exact q
    · have q1 : m * m ≤ a * a := qm_sqle h1 h2
      have q2 : a * a ≤ a * c := Int.mul_le_mul_of_nonneg_left (by omega) (by omega)
      have q3 : 1 * 401 ≤ a * c := Int.mul_le_mul (by omega) (by omega) (by omega) (by omega)
      have q4 : 4 * a * c = 4 * (a * c) := Int.mul_assoc _ _ _
      omega
theorem qm_bnd {d a m B : Int} (h0 : 0 < d) (hd : d ≤ 400) (ha : 0 ≤ a) (haB : a ≤ B) (hB : 400 ≤ B) (h1 : a = 0 ∨ (-a ≤ m ∧ m ≤ a)) : 0 ≤ qf_third d a m ∧ qf_third d a m ≤ B := by
  rcases h1 with h | ⟨h1, h2⟩
  · have : qf_third d a m = 0 := by unfold qf_third; rw [if_pos (by omega)]
    omega
  · have := qm_tb h0 hd h1 h2
    omega
section
variable {d : Nat} {L : List qf_F} {N : Nat}
theorem qm_find (G : qf_chk d L N = true) (hd : 0 < d) {n : Nat} {a b c v : Int} (h1 : 1 ≤ a) (hc : 4 * a * c = b * b + d) (hv : qf_fc d L (n + 1) a b = v) (hne : v ≠ qf_NO) : qf_ix L a (qf_near b a) 0 = v ∨ (qf_ix L a (qf_near b a) 0 = qf_NO ∧ ∃ c', 1 ≤ c' ∧ 4 * a * c' = qf_near b a * qf_near b a + d ∧ qf_fc d L n c' (-qf_near b a) = v) := by
  obtain ⟨k, hk⟩ := qm_near_k a b
  have hs := qm_shift (k := k) hc
  rw [← hk] at hs
  generalize c + b * k + a * k * k = c' at hs
  have ht := qm_third h1 hs
  rw [qf_fc, ht] at hv
  generalize qf_near b a = m at hs ht hv ⊢
  have hm := qm_sq m
  split at hv
  · exact Or.inl hv
  · rename_i hr
    refine Or.inr ⟨?_, c', qm_pos h1 hs (by omega), hs, hv⟩
    rcases qm_ix a m L 0 with h | ⟨i, hi, he, ha, hb⟩
    · exact h
    · obtain ⟨e1, e2, e3, e4, e5, e6⟩ := qg_ent G hi
      rw [ha, hb] at e3 e4
      have e7 := qm_third h1 e4
      rw [ht] at e7
      rw [← e7] at e3
      exact absurd ((qm_red _ _ _).mpr e3) hr
/-- the value of the class of a form, as both sides reckon it -/
theorem qm_fcl_range (G : qf_chk d L N = true) : ∀ (n : Nat) (a b : Int), qf_fc d L n a b = qf_NO ∨ ∃ i : Nat, i < L.length ∧ qf_fc d L n a b = i := by
  intro n
  induction n with
  | zero => intro a b; exact Or.inl rfl
  | succ n ih =>
    intro a b
    rw [qf_fc]
    split
    · rcases qm_ix a (qf_near b a) L 0 with h | ⟨i, hi, he, _, _⟩
      · exact Or.inl h
      · exact Or.inr ⟨i, hi, by rw [he]; omega⟩
    · exact ih _ _
end
theorem qm_uni {a f b m t t0 : Int} (hg : Nat.gcd a.natAbs f.natAbs = 1) (hf : 0 < f) (h1 : 2 * f ∣ b + 2 * a * t0 - m) (h2 : 2 * f ∣ b + 2 * a * t - m) (ht : t ≤ t0) (h0 : 0 ≤ t) (h3 : t0 < f) : t = t0 := by
  obtain ⟨x, hx⟩ := h1
  obtain ⟨y, hy⟩ := h2
  have e : a * (t0 - t) = f * (x - y) := by
    have : 2 * (a * (t0 - t)) = 2 * (f * (x - y)) := by grind
    omega
  have e2 : f.natAbs ∣ a.natAbs * (t0 - t).natAbs := by
    rw [← Int.natAbs_mul, e, Int.natAbs_mul]
    exact Nat.dvd_mul_right _ _
  have hg' : Nat.Coprime f.natAbs a.natAbs := by
    rw [Nat.coprime_iff_gcd_eq_one, Nat.gcd_comm]
    exact hg
  have e3 := Nat.Coprime.dvd_of_dvd_mul_left hg' e2
  rcases Nat.eq_zero_or_pos (t0 - t).natAbs with z | z
  · omega
  · have := Nat.le_of_dvd z e3
    omega
end
section
/-! the component: gcd, third, reduced, nearest, index, class of a form -/
theorem xw_gcd_loop (post : Int32 → Prop) : ∀ (m s h l : Nat), l ≤ m → s + m = 1000 → h < 2147483648 → post (nI (Nat.gcd h l)) → wX_gcd_25 post (m + 1) (nI h) (nI l) (nI s) := by
  intro m
  induction m with
  | zero =>
    intro s h l hl hs hh hp
    have e : l = 0 := by omega
    subst e
    rw [Nat.gcd_zero_right] at hp
    exact pk_le 1000 s (fun _ => hp) (fun z => absurd z (by omega))
  | succ m ih =>
    intro s h l hl hs hh hp
    refine pk_le 1000 s (fun z => absurd z (by omega)) (fun _ => ?_)
    refine pk_eq l 0 (fun z => ?_) (fun z => ?_)
    · subst z
      rw [Nat.gcd_zero_right] at hp
      exact hp
    · have hm := Nat.mod_lt h (show l > 0 by omega)
      rw [Nat.gcd_comm h l, Nat.gcd_rec, Nat.gcd_comm] at hp
      exact ⟨nI_ne0 (by omega) (by omega), nm_r (pk_rem hh (by omega) (by omega)) (nm_r (nI_1 s) (ih _ _ _ (by omega) (by omega) (by omega) hp))⟩
theorem xw_abs {x : Int} (h : 0 ≤ x) : qz_i x = nI x.natAbs := by
  rw [qz_nI]
  congr 1
  omega
theorem xw_absn {x : Int} (h : x < 0) : -qz_i x = nI x.natAbs := by
  rw [qz_neg, qz_nI]
  congr 1
  omega
theorem xw_gcd {post : Int32 → Prop} {X Y : Int32} {x y : Int} (hX : X = qz_i x) (hY : Y = qz_i y) (hx : -1000000 ≤ x ∧ x ≤ 1000000) (hy : -1000 ≤ y ∧ y ≤ 1000) (hp : post (nI (Nat.gcd x.natAbs y.natAbs))) : wpX_gcd post X Y := by
  subst hX hY
  have lp : wX_gcd_25 post 1001 (nI x.natAbs) (nI y.natAbs) 0 := xw_gcd_loop post 1000 0 _ _ (by omega) (by omega) (by omega) hp
  have key : wX_gcd_10 post (qz_i y) (nI x.natAbs) := by
    unfold wX_gcd_10
    refine qz_cle 0 y qk_0 rfl (by omega) (by omega) (fun h => ⟨1001, ?_⟩) (fun h => nm_r (xw_absn h) ⟨1001, lp⟩)
    rw [xw_abs h]
    exact lp
  unfold wpX_gcd
  refine qz_cle 0 x qk_0 rfl (by omega) (by omega) (fun h => ?_) (fun h => ?_)
  · rw [xw_abs h]
    exact key
  · rw [xw_absn h]
    exact key
theorem xw_prim {post : Int32 → Prop} {a b c : Int} (ha : 1 ≤ a ∧ a ≤ 1000) (hb : -1000 ≤ b ∧ b ≤ 1000) (hc : -1000 ≤ c ∧ c ≤ 1000) (h1 : qf_g3 a b c = 1 → post 1) (h0 : qf_g3 a b c ≠ 1 → post 0) : wpX_isPrimitive post (qz_i a) (qz_i b) (qz_i c) := by
  have g1 : Nat.gcd a.natAbs b.natAbs ≤ a.natAbs := Nat.gcd_le_left _ (by omega)
  have g0 : 0 < Nat.gcd a.natAbs b.natAbs := Nat.gcd_pos_of_pos_left _ (by omega)
  have g2 : qf_g3 a b c ≤ Nat.gcd a.natAbs b.natAbs := Nat.gcd_le_left _ g0
  unfold wpX_isPrimitive
  refine xw_gcd rfl rfl (by omega) (by omega) ?_
  refine xw_gcd (qz_nI _) rfl (by omega) (by omega) ?_
  rw [Int.natAbs_natCast]
  exact pk_eq (qf_g3 a b c) 1 h1 h0
theorem qm_t2 {d a b : Int} (hd : 0 < d) : 0 ≤ qf_third d a b ∧ qf_third d a b ≤ b * b + d := by
  have s := qm_sq b
  unfold qf_third
  split
  · omega
  · split
    · exact ⟨Int.ediv_nonneg (by omega) (by omega), Int.ediv_le_self _ (by omega)⟩
    · omega
theorem xw_third {post : Int32 → Prop} {d a b : Int} {cn : Int32} {A B C P : Nat → Int32} (hd : 0 < d ∧ d ≤ 400) (ha : 0 ≤ a ∧ a ≤ 30000) (hb : -30000 ≤ b ∧ b ≤ 30000) (hp : post (qz_i (qf_third d a b))) : wpX_third post (qz_i d, cn, A, B, C, P) (qz_i a) (qz_i b) := by
  have s0 := qm_sq b
  have s1 : b * b ≤ 30000 * 30000 := qm_sqle hb.1 hb.2
  have e4 : (4 : Int32) * qz_i a = qz_i (4 * a) := by rw [qk_4, qz_mul]
  unfold wpX_third
  dsimp only
  rw [e4]
  refine qz_cle 1 a qk_1 rfl (by omega) (by omega) (fun h => ?_) (fun h => ?_)
  · have ez : ¬ qz_i (4 * a) = 0 := by
      rw [qk_0, qz_eq (by omega) (by omega)]
      omega
    refine nm_r (e' := qz_i (b * b + d)) (by rw [qz_mul, qz_add]) ⟨ez, ?_⟩
    have er := qz_rem (a := b * b + d) (b := 4 * a) (by omega) (by omega)
    rw [Int.tmod_eq_emod_of_nonneg (by omega)] at er
    have hm := Int.emod_nonneg (b * b + d) (show 4 * a ≠ 0 by omega)
    have hl := Int.emod_lt_of_pos (b * b + d) (show 0 < 4 * a by omega)
    refine qz_ceq _ 0 er qk_0 (by omega) (by omega) (fun z => ⟨ez, ?_⟩) (fun z => ?_)
    · rw [qz_div (by omega) (by omega), Int.tdiv_eq_ediv_of_nonneg (by omega)]
      unfold qf_third at hp
      rw [if_neg (by omega), if_pos z] at hp
      exact hp
    · unfold qf_third at hp
      rw [if_neg (by omega), if_neg z] at hp
      rw [qk_0]
      exact hp
  · unfold qf_third at hp
    rw [if_pos (by omega)] at hp
    rw [qk_0]
    exact hp
theorem xw_near {post : Int32 → Prop} {a b : Int} (ha : 0 ≤ a ∧ a ≤ 30000) (hb : -30000 ≤ b ∧ b ≤ 30000) (hp : post (qz_i (qf_near b a))) : wpX_nearest post (qz_i b) (qz_i a) := by
  have e2 : (2 : Int32) * qz_i a = qz_i (2 * a) := by rw [qk_2, qz_mul]
  unfold wpX_nearest
  rw [e2]
  refine qz_cle 1 a qk_1 rfl (by omega) (by omega) (fun h => ?_) (fun h => ?_)
  · have ez : ¬ qz_i (2 * a) = 0 := by
      rw [qk_0, qz_eq (by omega) (by omega)]
      omega
    refine ⟨ez, nm_r (e' := qz_i (b.tmod (2 * a))) (qz_rem (by omega) (by omega)) ?_⟩
    have h1 := Int.tmod_lt_of_pos b (show 0 < 2 * a by omega)
    have h2 := Int.lt_tmod_of_pos b (show 0 < 2 * a by omega)
    obtain ⟨t1, t2, t3⟩ := qm_near_t h (rfl : b.tmod (2 * a) = b.tmod (2 * a))
    generalize b.tmod (2 * a) = n at h1 h2 t1 t2 t3 ⊢
    refine qz_cle n a rfl rfl (by omega) (by omega) (fun z => ?_) (fun z => ?_)
    · refine qz_clt (-a) n (qz_neg a) rfl (by omega) (by omega) (fun y => ?_) (fun y => ?_)
      · rw [t3 z y]
        exact hp
      · rw [qz_add, t2 y]
        exact hp
    · rw [qz_sub, t1 z]
      exact hp
  · have e : a = 0 := by omega
    rw [e, qm_near_0] at hp
    exact hp
theorem xw_red {post : Int32 → Prop} {a b c : Int} (ha : -1000000 ≤ a ∧ a ≤ 1000000) (hb : -1000000 ≤ b ∧ b ≤ 1000000) (hc : -1000000 ≤ c ∧ c ≤ 1000000) (h1 : qf_red a b c = true → post 1) (h0 : qf_red a b c = false → post 0) : wpX_isReduced post (qz_i a) (qz_i b) (qz_i c) := by
  have g1 : (-a < b ∧ b ≤ a ∧ (a < c ∨ (a = c ∧ 0 ≤ b))) → post 1 := fun h => h1 ((qm_red a b c).mpr h)
  have g0 : ¬ (-a < b ∧ b ≤ a ∧ (a < c ∨ (a = c ∧ 0 ≤ b))) → post 0 := fun h => h0 (by rw [← Bool.not_eq_true, qm_red]; exact h)
  unfold wpX_isReduced
  refine qz_cle b (-a) rfl (qz_neg a) (by omega) (by omega) (fun z => g0 (by omega)) (fun z => ?_)
  refine qz_clt a b rfl rfl (by omega) (by omega) (fun y => g0 (by omega)) (fun y => ?_)
  refine qz_clt a c rfl rfl (by omega) (by omega) (fun x => g1 (by omega)) (fun x => ?_)
  refine qz_ceq a c rfl rfl (by omega) (by omega) (fun w => ?_) (fun w => g0 (by omega))
  exact qz_clt b 0 rfl qk_0 (by omega) (by omega) (fun v => g0 (by omega)) (fun v => g1 (by omega))
/-- the arrays hold the list -/
def xs_L (L : List qf_F) (cn : Int32) (A B C : Nat → Int32) : Prop := cn = nI L.length ∧ ∀ k, k < L.length → A k = qz_i (qf_at L k).1 ∧ B k = qz_i (qf_at L k).2.1 ∧ C k = qz_i (qf_at L k).2.2
theorem qm_drop {L : List qf_F} {k : Nat} (h : k < L.length) : L.drop k = qf_at L k :: L.drop (k + 1) := by
  have e : qf_at L k = L[k] := by simp [qf_at, h]
  rw [e]
  exact List.drop_eq_getElem_cons h
section
variable {d : Nat} {L : List qf_F} {N : Nat} {md cn : Int32} {A B C P : Nat → Int32} {post : Int32 → Prop}
theorem xw_ix_loop (G : qf_chk d L N = true) (S : xs_L L cn A B C) {a b : Int} (ha : -1000000 ≤ a ∧ a ≤ 1000000) (hb : -1000000 ≤ b ∧ b ≤ 1000000) : ∀ (m k : Nat), k + m = L.length → post (qz_i (qf_ix (L.drop k) a b k)) → wX_indexOf_2 post (qz_i a) (qz_i b) md cn A B C P (m + 1) (nI k) := by
  obtain ⟨rfl, S2⟩ := S
  have hL := (qg_1 G).2.2.1
  intro m
  induction m with
  | zero =>
    intro k hk hp
    rw [List.drop_of_length_le (by omega), qf_ix] at hp
    exact pk_le L.length k (fun _ => by rw [qk_m1000001]; exact hp) (fun z => absurd z (by omega))
  | succ m ih =>
    intro k hk hp
    obtain ⟨eA, eB, eC⟩ := S2 k (by omega)
    obtain ⟨b1, b2, b3, _, _, b6⟩ := qg_ent G (show k < L.length by omega)
    rw [qm_drop (by omega), qf_ix] at hp
    have hin : vp_in (nI k) 66 := vp_in_nI (by omega) (by omega)
    have nx : post (qz_i (qf_ix (L.drop (k + 1)) a b ((k : Int) + 1))) → ∀ y, y = nI k + 1 → wX_indexOf_2 post (qz_i a) (qz_i b) md (nI L.length) A B C P (m + 1) y := fun h => nm_r (nI_1 k) (ih (k + 1) (by omega) h)
    refine pk_le L.length k (fun z => absurd z (by omega)) (fun _ => ⟨hin, ?_⟩)
    rw [nI_clamp (by omega), eA, eB]
    refine qz_ceq _ a rfl rfl (by omega) (by omega) (fun z => ⟨hin, ?_⟩) (fun z => ?_)
    · refine qz_ceq _ b rfl rfl (by omega) (by omega) (fun y => ?_) (fun y => ?_)
      · rw [if_pos z, if_pos y] at hp
        rw [qz_nI]
        exact hp
      · rw [if_pos z, if_neg y] at hp
        exact nx hp
    · rw [if_neg z] at hp
      exact nx hp
theorem xw_ix (G : qf_chk d L N = true) (S : xs_L L cn A B C) {a b : Int} (ha : -1000000 ≤ a ∧ a ≤ 1000000) (hb : -1000000 ≤ b ∧ b ≤ 1000000) (hp : post (qz_i (qf_ix L a b 0))) : wpX_indexOf post (md, cn, A, B, C, P) (qz_i a) (qz_i b) :=
  ⟨L.length + 1, xw_ix_loop G S ha hb L.length 0 (by omega) hp⟩
theorem xw_fc_loop (G : qf_chk d L N = true) (hd : 0 < d ∧ d ≤ 400) (S : xs_L L cn A B C) : ∀ (m s : Nat) (a b : Int), s + m = 1000 → 0 ≤ a ∧ a ≤ 30000 → -30000 ≤ b ∧ b ≤ 30000 → post (qz_i (qf_fc d L m a b)) → wX_formClass_20 post (qz_i d) cn A B C P (m + 1) (qz_i a) (qz_i b) (nI s) := by
  intro m
  induction m with
  | zero =>
    intro s a b hs ha hb hp
    exact pk_le 1000 s (fun _ => by rw [qk_m1000001]; exact hp) (fun z => absurd z (by omega))
  | succ m ih =>
    intro s a b hs ha hb hp
    rw [qf_fc] at hp
    have nb := qm_nb (a := a) (b := b) (B := 30000) ha.1 ha.2 hb.1 hb.2
    have tb : 0 ≤ qf_third d a (qf_near b a) ∧ qf_third d a (qf_near b a) ≤ 30000 := by
      refine qm_bnd (by omega) (by omega) ha.1 ha.2 (by omega) ?_
      rcases (show 0 < a ∨ a ≤ 0 by omega) with h | h
      · have := qm_near_b b (show 1 ≤ a by omega)
        omega
      · omega
    refine pk_le 1000 s (fun z => absurd z (by omega)) (fun _ => ?_)
    refine xw_near ha hb (xw_third (by omega) ha nb (xw_red (by omega) (by omega) (by omega) (fun hr => ?_) (fun hr => ?_)))
    · rw [if_pos hr] at hp
      exact br_f (by decide) (xw_ix G S (by omega) (by omega) hp)
    · rw [if_neg (by rw [hr]; decide)] at hp
      exact br_t rfl (nm_r (qz_neg _) (nm_r (nI_1 s) (ih _ _ _ (by omega) tb (by omega) hp)))
theorem xw_fcl (G : qf_chk d L N = true) (hd : 0 < d ∧ d ≤ 400) (S : xs_L L cn A B C) {X Y : Int32} {a b : Int} (hX : X = qz_i a) (hY : Y = qz_i b) (ha : 0 ≤ a ∧ a ≤ 30000) (hb : -30000 ≤ b ∧ b ≤ 30000) (hp : post (qz_i (qf_fcl d L a b))) : wpX_formClass post (qz_i d, cn, A, B, C, P) X Y := by
  subst hX hY
  have s1 : b * b ≤ 30000 * 30000 := qm_sqle hb.1 hb.2
  have t2 := qm_t2 (d := d) (a := a) (b := b) (by omega)
  unfold qf_fcl at hp
  unfold wpX_formClass
  dsimp only
  refine xw_third (by omega) ha hb ?_
  refine qz_ceq _ 0 rfl qk_0 (by omega) (by omega) (fun z => ?_) (fun z => ⟨1001, ?_⟩)
  · rw [if_pos z] at hp
    rw [qk_m1000001]
    exact hp
  · rw [if_neg z] at hp
    exact xw_fc_loop G hd S 1000 0 a b (by omega) ha hb hp
theorem qm_fcl_b (G : qf_chk d L N = true) (a b : Int) : -1000001 ≤ qf_fcl d L a b ∧ qf_fcl d L a b ≤ 31 := by
  have hL := (qg_1 G).2.2.1
  unfold qf_fcl
  split
  · decide
  · rcases qm_fcl_range G 1000 a b with h | ⟨i, hi, h⟩
    · rw [h]; decide
    · rw [h]; omega
end
end
section
/-! the component: products and lists -/
def xs_P (N h w : Nat) (pr : Nat → Int32) (i j : Nat) : Prop := ∀ i' j', i' < h → j' < h → (i' < i ∨ (i' = i ∧ j' < j)) → pr (w * i' + j') = nI (qf_P N h i' j')
theorem xs_put66 {N h : Nat} {pr : Nat → Int32} {i j : Nat} (hw : h ≤ 31) (hj : j < h) (S : xs_P N h 66 pr i j) : xs_P N h 66 (upd pr (66 * i + j) (nI (qf_P N h i j))) i (j + 1) := by
  intro i' j' h1 h2 h3
  by_cases e : i' = i ∧ j' = j
  · obtain ⟨rfl, rfl⟩ := e
    exact pk_us
  · rw [pk_un (by omega)]
    exact S i' j' h1 h2 (by omega)
theorem xs_put64 {N h : Nat} {pr : Nat → Int32} {i j : Nat} (hw : h ≤ 31) (hj : j < h) (S : xs_P N h 64 pr i j) : xs_P N h 64 (upd pr (64 * i + j) (nI (qf_P N h i j))) i (j + 1) := by
  intro i' j' h1 h2 h3
  by_cases e : i' = i ∧ j' = j
  · obtain ⟨rfl, rfl⟩ := e
    exact pk_us
  · rw [pk_un (by omega)]
    exact S i' j' h1 h2 (by omega)
section
variable {d : Nat} {L : List qf_F} {N : Nat} {cn : Int32} {A B C P : Nat → Int32}
theorem xw_ft_loop (G : qf_chk d L N = true) (hd : 0 < d ∧ d ≤ 400) (S : xs_L L cn A B C) {post : Int32 → Prop} {J15 : Int32 → Prop} {i j e : Nat} (hi : i < L.length) (hj : j < L.length) (he : 1 ≤ e ∧ e ≤ 1000) : ∀ (m t : Nat), t + m = e → (∀ r, qf_ft d L j (qf_at L i).1 e m ((qf_at L i).2.1 + 2 * (qf_at L i).1 * t) = some r → post (qz_i r)) → (qf_ft d L j (qf_at L i).1 e m ((qf_at L i).2.1 + 2 * (qf_at L i).1 * t) = none → J15 (nI (e + 1))) → wX_findProduct_36 post J15 (nI i) (nI j) (qz_i (qf_at L i).1) (nI e) (qz_i d) cn A B C P (m + 1) (nI t) := by
  have hL := (qg_1 G).2.2.1
  obtain ⟨eA, eB, eC⟩ := S.2 i hi
  obtain ⟨b1, b2, b3, _, _, b6⟩ := qg_ent G hi
  generalize (qf_at L i).1 = a at b1 b2 b3 ⊢
  generalize (qf_at L i).2.1 = bi at eB b3 ⊢
  have q3 : a * (e : Int) ≤ 11 * 1000 := Int.mul_le_mul b2 (by omega) (by omega) (by omega)
  have q4 : 0 ≤ a * (e : Int) := Int.mul_nonneg (by omega) (by omega)
  intro m
  induction m with
  | zero =>
    intro t ht h1 h2
    exact pk_le e t (fun _ => nm_r (nI_1 e) (h2 rfl)) (fun z => absurd z (by omega))
  | succ m ih =>
    intro t ht h1 h2
    have q1 : a * (t : Int) ≤ 11 * 1000 := Int.mul_le_mul b2 (by omega) (by omega) (by omega)
    have q0 : 0 ≤ a * (t : Int) := Int.mul_nonneg (by omega) (by omega)
    have q2 : 2 * a * (t : Int) = 2 * (a * t) := Int.mul_assoc _ _ _
    have fb := qm_fcl_b G e (bi + 2 * a * t)
    refine pk_le e t (fun z => absurd z (by omega)) (fun _ => ⟨vp_in_nI (by omega) (by omega), ?_⟩)
    refine nm_r (e' := qz_i (bi + 2 * a * t)) ?_ ?_
    · rw [nI_clamp (by omega), eB, qz_nI t, qk_2, qz_mul, qz_mul, qz_add]
    · refine xw_fcl G hd S (qz_nI e) rfl (by omega) (by omega) ?_
      rw [qf_ft] at h1 h2
      refine qz_ceq _ (j : Int) rfl (qz_nI j) (by omega) (by omega) (fun z => ?_) (fun z => ?_)
      · refine xw_fcl G hd S (a := a * e) (by rw [qz_nI e, qz_mul]) rfl (by omega) (by omega) ?_
        exact h1 _ (by rw [if_pos z])
      · rw [if_neg z] at h1 h2
        have e3 : bi + 2 * a * (t : Int) + 2 * a = bi + 2 * a * ((t + 1 : Nat) : Int) := by
          rw [Int.natCast_add, Int.mul_add]
          omega
        rw [e3] at h1 h2
        exact nm_r (nI_1 t) (ih (t + 1) (by omega) h1 h2)
theorem xw_fe_loop (G : qf_chk d L N = true) (hd : 0 < d ∧ d ≤ 400) (S : xs_L L cn A B C) {post : Int32 → Prop} {i j : Nat} (hi : i < L.length) (hj : j < L.length) : ∀ (m e : Nat), e + m = 1001 → 1 ≤ e → post (qz_i (qf_fe d L j (qf_at L i).1 (qf_at L i).2.1 m e)) → wX_findProduct_15 post (nI i) (nI j) (qz_i (qf_at L i).1) (qz_i d) cn A B C P (m + 1) (nI e) := by
  obtain ⟨b1, b2, b3, _, _, b6⟩ := qg_ent G hi
  intro m
  induction m with
  | zero =>
    intro e he h1 hp
    exact pk_lt 1000 e (fun _ => by rw [qk_m1000001]; exact hp) (fun z => absurd z (by omega))
  | succ m ih =>
    intro e he h1 hp
    have g1 : Nat.gcd (qf_at L i).1.natAbs e ≤ (qf_at L i).1.natAbs := Nat.gcd_le_left _ (by omega)
    rw [qf_fe] at hp
    refine pk_lt 1000 e (fun z => absurd z (by omega)) (fun _ => ?_)
    refine xw_gcd rfl (qz_nI e) (by omega) (by omega) ?_
    rw [Int.natAbs_natCast]
    refine pk_eq (Nat.gcd (qf_at L i).1.natAbs e) 1 (fun z => ⟨e + 1, ?_⟩) (fun z => ?_)
    · rw [if_pos z] at hp
      have e0 : (qf_at L i).2.1 + 2 * (qf_at L i).1 * ((0 : Nat) : Int) = (qf_at L i).2.1 := by simp
      refine xw_ft_loop G hd S hi hj (by omega) e 0 (by omega) (fun r hr => ?_) (fun hr => ?_)
      · rw [e0] at hr
        rw [hr] at hp
        exact hp
      · rw [e0] at hr
        rw [hr] at hp
        exact ih (e + 1) (by omega) (by omega) hp
    · rw [if_neg z] at hp
      exact nm_r (nI_1 e) (ih (e + 1) (by omega) (by omega) hp)
theorem xw_fp (G : qf_chk d L N = true) (hd : 0 < d ∧ d ≤ 400) (S : xs_L L cn A B C) {post : Int32 → Prop} {i j : Nat} (hi : i < L.length) (hj : j < L.length) (hp : post (nI (qf_P N L.length i j))) : wpX_findProduct post (qz_i d, cn, A, B, C, P) (nI i) (nI j) := by
  have hL := (qg_1 G).2.2.1
  obtain ⟨p1, p2, p3⟩ := qg_P G hi hj
  obtain ⟨b1, b2, b3, _, _, b6⟩ := qg_ent G hj
  have ei : A (nI i).toNatClampNeg = qz_i (qf_at L i).1 := by
    rw [nI_clamp (by omega)]
    exact (S.2 i hi).1
  have ej : A (nI j).toNatClampNeg = nI (qf_at L j).1.toNat := by
    rw [nI_clamp (by omega), (S.2 j hj).1, qz_nI]
    congr 1
    omega
  refine ⟨vp_in_nI (by omega) (by omega), nm_r ei ⟨vp_in_nI (by omega) (by omega), nm_r ej ⟨(1001 - (qf_at L j).1.toNat) + 1, xw_fe_loop G hd S hi hj _ _ (by omega) (by omega) ?_⟩⟩⟩
  rw [p2, ← qz_nI]
  exact hp
theorem xw_fill12 (G : qf_chk d L N = true) (hd : 0 < d ∧ d ≤ 400) (S : xs_L L cn A B C) {post : SX → Prop} {J2 : Int32 → (Nat → Int32) → (Nat → Int32) → (Nat → Int32) → (Nat → Int32) → Prop} {i : Nat} (hi : i < L.length) : ∀ (m j : Nat) (pr : Nat → Int32), j + m = L.length → xs_P N L.length 66 pr i j → (∀ pr', xs_P N L.length 66 pr' (i + 1) 0 → J2 (nI (i + 1)) A B C pr') → wX_fillProducts_12 post J2 (nI i) (qz_i d) cn (m + 1) (nI j) A B C pr := by
  have hL := (qg_1 G).2.2.1
  have hc := S.1
  subst hc
  intro m
  induction m with
  | zero =>
    intro j pr hj Q hJ
    exact pk_le L.length j (fun _ => nm_r (nI_1 i) (hJ pr (fun i' j' h1 h2 h3 => Q i' j' h1 h2 (by omega)))) (fun z => absurd z (by omega))
  | succ m ih =>
    intro j pr hj Q hJ
    have ei : (nI i * 66) + nI j = nI (66 * i + j) := by rw [show (66 : Int32) = nI 66 from rfl, pk_mul, nI_add, Nat.mul_comm]
    have eu : upd pr ((nI i * 66) + nI j).toNatClampNeg (nI (qf_P N L.length i j)) = upd pr (66 * i + j) (nI (qf_P N L.length i j)) := by rw [ei, nI_clamp (by omega)]
    refine pk_le L.length j (fun z => absurd z (by omega)) (fun _ => ?_)
    refine xw_fp G hd S hi (by omega) ?_
    refine ⟨by rw [ei]; exact vp_in_nI (by omega) (by omega), nm_r eu (nm_r (nI_1 j) (ih (j + 1) _ (by omega) (xs_put66 hL (by omega) Q) hJ))⟩
theorem xw_fill2 (G : qf_chk d L N = true) (hd : 0 < d ∧ d ≤ 400) (S : xs_L L cn A B C) {post : SX → Prop} : ∀ (m i : Nat) (pr : Nat → Int32), i + m = L.length → xs_P N L.length 66 pr i 0 → (∀ pr', xs_P N L.length 66 pr' L.length 0 → post (qz_i d, cn, A, B, C, pr')) → wX_fillProducts_2 post (qz_i d) cn (m + 1) (nI i) A B C pr := by
  have hL := (qg_1 G).2.2.1
  have hc := S.1
  subst hc
  intro m
  induction m with
  | zero =>
    intro i pr hi Q hp
    have e : i = L.length := by omega
    rw [e] at Q
    exact pk_le L.length i (fun _ => hp pr Q) (fun z => absurd z (by omega))
  | succ m ih =>
    intro i pr hi Q hp
    exact pk_le L.length i (fun z => absurd z (by omega)) (fun _ => ⟨L.length + 1, xw_fill12 G hd S (by omega) L.length 0 pr (by omega) Q (fun pr' Q' => ih (i + 1) pr' (by omega) Q' hp)⟩)
theorem xw_fill (G : qf_chk d L N = true) (hd : 0 < d ∧ d ≤ 400) (S : xs_L L cn A B C) {post : SX → Prop} (hp : ∀ pr', xs_P N L.length 66 pr' L.length 0 → post (qz_i d, cn, A, B, C, pr')) : wpX_fillProducts post (qz_i d, cn, A, B, C, P) :=
  ⟨L.length + 1, xw_fill2 G hd S L.length 0 P (by omega) (fun _ _ _ _ h => absurd h (by omega)) hp⟩
end
theorem qm_lb_len (d a : Int) : ∀ (m : Nat) (b : Int) (acc : List qf_F), acc.length ≤ (qf_lb d a m b acc).length := by
  intro m
  induction m with
  | zero => intro b acc; exact Nat.le_refl _
  | succ m ih =>
    intro b acc
    rw [qf_lb]
    refine Nat.le_trans ?_ (ih _ _)
    split <;> simp
theorem qm_la_len (d : Int) : ∀ (m a : Nat) (acc : List qf_F), acc.length ≤ (qf_la d m a acc).length := by
  intro m
  induction m with
  | zero => intro b acc; exact Nat.le_refl _
  | succ m ih =>
    intro b acc
    rw [qf_la]
    exact Nat.le_trans (qm_lb_len _ _ _ _ _) (ih _ _)
theorem xs_push {acc : List qf_F} {A B C : Nat → Int32} {a b c : Int} (S : xs_L acc (nI acc.length) A B C) (h : acc.length < 1000) : xs_L (acc ++ [(a, b, c)]) (nI (acc.length + 1)) (upd A (nI acc.length).toNatClampNeg (qz_i a)) (upd B (nI acc.length).toNatClampNeg (qz_i b)) (upd C (nI acc.length).toNatClampNeg (qz_i c)) := by
  rw [nI_clamp (by omega)]
  refine ⟨by simp, fun k hk => ?_⟩
  have hk' : k < acc.length + 1 := by simpa using hk
  by_cases e : k = acc.length
  · subst e
    have e2 : qf_at (acc ++ [(a, b, c)]) acc.length = (a, b, c) := by simp [qf_at]
    rw [e2]
    exact ⟨pk_us, pk_us, pk_us⟩
  · have e2 : qf_at (acc ++ [(a, b, c)]) k = qf_at acc k := by simp [qf_at, List.getElem?_append_left (show k < acc.length by omega)]
    rw [e2, pk_un e, pk_un e, pk_un e]
    exact S.2 k (by omega)
section
variable {d : Nat} {L : List qf_F} {N : Nat} {P : Nat → Int32}
theorem xw_lb (hd : 0 < d ∧ d ≤ 400) {a : Int} (ha : 1 ≤ a ∧ a ≤ 11) {post : SX → Prop} {J7 : Int32 → Int32 → (Nat → Int32) → (Nat → Int32) → (Nat → Int32) → (Nat → Int32) → Prop} : ∀ (m : Nat) (b : Int) (acc : List qf_F) (cn : Int32) (A B C : Nat → Int32), b + m = a + 1 → -a < b → xs_L acc cn A B C → (qf_lb d a m b acc).length ≤ 31 → (∀ cn' A' B' C', xs_L (qf_lb d a m b acc) cn' A' B' C' → J7 (qz_i (a + 1)) cn' A' B' C' P) → wX_listForms_17 post J7 (qz_i a) (qz_i d) (m + 1) (qz_i b) cn A B C P := by
  intro m
  induction m with
  | zero =>
    intro b acc cn A B C hb hb' S hl hJ
    exact qz_clt a b rfl rfl (by omega) (by omega) (fun _ => nm_r (by rw [qk_1, qz_add]) (hJ _ _ _ _ S)) (fun z => absurd z (by omega))
  | succ m ih =>
    intro b acc cn A B C hb hb' S hl hJ
    have hc := S.1
    subst hc
    rw [qf_lb] at hl hJ
    have e1 : qz_i b + 1 = qz_i (b + 1) := by rw [qk_1, qz_add]
    have tb := qm_tb (d := d) (a := a) (m := b) (by omega) (by omega) (by omega) (by omega)
    refine qz_clt a b rfl rfl (by omega) (by omega) (fun z => absurd z (by omega)) (fun _ => ?_)
    refine xw_third (by omega) (by omega) (by omega) (xw_red (by omega) (by omega) (by omega) (fun hr => ?_) (fun hr => ?_))
    · refine br_f (by decide) (xw_prim (by omega) (by omega) (by omega) (fun hg => ?_) (fun hg => ?_))
      · have ok : qf_ok d a b = true := by
          unfold qf_ok
          rw [hr, hg]
          rfl
        rw [if_pos ok] at hl hJ
        have ln := qm_lb_len d a m (b + 1) (acc ++ [(a, b, qf_third d a b)])
        rw [List.length_append, List.length_singleton] at ln
        have hin : vp_in (nI acc.length) 66 := vp_in_nI (by omega) (by omega)
        exact br_f (by decide) (pk_le 66 acc.length (fun z => absurd z (by omega)) (fun _ => ⟨hin, nm_e ⟨hin, nm_e ⟨hin, nm_e (nm_r (nI_1 _) (nm_r e1 (ih (b + 1) _ _ _ _ _ (by omega) (by omega) (xs_push S (by omega)) hl hJ)))⟩⟩⟩))
      · have nok : ¬ qf_ok d a b = true := by
          unfold qf_ok
          rw [hr]
          simp [hg]
        rw [if_neg nok] at hl hJ
        exact br_t rfl (nm_r e1 (ih (b + 1) acc _ A B C (by omega) (by omega) S hl hJ))
    · have nok : ¬ qf_ok d a b = true := by
        unfold qf_ok
        rw [hr]
        simp
      rw [if_neg nok] at hl hJ
      exact br_t rfl (nm_r e1 (ih (b + 1) acc _ A B C (by omega) (by omega) S hl hJ))
theorem xw_la (hd : 0 < d ∧ d ≤ 400) {post : SX → Prop} : ∀ (m a : Nat) (acc : List qf_F) (cn : Int32) (A B C : Nat → Int32), a + m = 12 → 1 ≤ a → xs_L acc cn A B C → (qf_la d m a acc).length ≤ 31 → (∀ cn' A' B' C', xs_L (qf_la d m a acc) cn' A' B' C' → post (qz_i d, cn', A', B', C', P)) → wX_listForms_7 post (qz_i d) (m + 1) (qz_i a) cn A B C P := by
  intro m
  induction m with
  | zero =>
    intro a acc cn A B C ha h1 S hl hp
    exact qz_clt 11 a qk_11 rfl (by omega) (by omega) (fun _ => hp _ _ _ _ S) (fun z => absurd z (by omega))
  | succ m ih =>
    intro a acc cn A B C ha h1 S hl hp
    rw [qf_la] at hl hp
    have l1 := qm_la_len d m (a + 1) (qf_lb d a (2 * a) (1 - (a : Int)) acc)
    refine qz_clt 11 a qk_11 rfl (by omega) (by omega) (fun z => absurd z (by omega)) (fun _ => nm_r (e' := qz_i (1 - (a : Int))) (by rw [qk_1, qz_sub]) ⟨2 * a + 1, ?_⟩)
    refine xw_lb hd (by omega) (2 * a) (1 - (a : Int)) acc cn A B C (by omega) (by omega) S (by omega) (fun cn' A' B' C' S' => ?_)
    rw [show (a : Int) + 1 = ((a + 1 : Nat) : Int) by omega]
    exact ih (a + 1) _ _ _ _ _ (by omega) (by omega) S' hl hp
theorem xw_list (G : qf_chk d L N = true) (hd : 0 < d ∧ d ≤ 400) {cn : Int32} {A B C : Nat → Int32} {post : SX → Prop} (hp : ∀ cn' A' B' C', xs_L L cn' A' B' C' → post (qz_i d, cn', A', B', C', P)) : wpX_listForms post (qz_i d, cn, A, B, C, P) := by
  obtain ⟨g1, _, g3, _⟩ := qg_1 G
  refine ⟨12, ?_⟩
  rw [qk_1]
  exact xw_la hd 11 1 [] 0 A B C (by omega) (by omega) ⟨rfl, fun k hk => absurd hk (by simp)⟩ (by rw [g1]; exact g3) (by rw [g1]; exact hp)
end
/-- the component holds the table -/
def xs_S (d : Nat) (L : List qf_F) (N : Nat) (u : SX) : Prop := ∃ A B C P, u = (qz_i d, nI L.length, A, B, C, P) ∧ xs_L L (nI L.length) A B C ∧ xs_P N L.length 66 P L.length 0
end
section
/-! the reference: divisor, isForm, find -/
theorem qm_mulb {x y X Y : Int} (hx : -X ≤ x ∧ x ≤ X) (hy : -Y ≤ y ∧ y ≤ Y) : -(X * Y) ≤ x * y ∧ x * y ≤ X * Y := by
  have h1 : x.natAbs * y.natAbs ≤ X.natAbs * Y.natAbs := Nat.mul_le_mul (by omega) (by omega)
  rw [← Int.natAbs_mul, ← Int.natAbs_mul] at h1
  have h2 : 0 ≤ X * Y := Int.mul_nonneg (by omega) (by omega)
  omega
section
variable {md cn : Int32} {fi mi : Int64} {A B C P : Nat → Int32}
theorem yw_div_loop {post : Int64 → Prop} : ∀ (m h l : Nat), l ≤ m → h < 4611686018427387904 → l < 4611686018427387904 → post (qz_l (Nat.gcd h l : Nat)) → wY_divisor_28 post md cn fi mi A B C P (m + 1) (qz_l h) (qz_l l) := by
  intro m
  induction m with
  | zero =>
    intro h l hl hh hl2 hp
    have e : l = 0 := by omega
    subst e
    rw [Nat.gcd_zero_right] at hp
    exact ql_cle (0 : Nat) 0 rfl ql_k0 (by omega) (by omega) (fun _ => hp) (fun z => absurd z (by omega))
  | succ m ih =>
    intro h l hl hh hl2 hp
    refine ql_cle l 0 rfl ql_k0 (by omega) (by omega) (fun z => ?_) (fun z => ?_)
    · have e : l = 0 := by omega
      subst e
      rw [Nat.gcd_zero_right] at hp
      exact hp
    · have hm := Nat.mod_lt h (show l > 0 by omega)
      rw [Nat.gcd_comm h l, Nat.gcd_rec, Nat.gcd_comm] at hp
      have ez : ¬ qz_l l = 0 := by
        rw [ql_k0, ql_eq (by omega) (by omega)]
        omega
      have er : qz_l h - qz_l h / qz_l l * qz_l l = qz_l ((h % l : Nat) : Int) := by
        rw [ql_rem (by omega) (by omega), Int.tmod_eq_emod_of_nonneg (by omega), Int.natCast_emod]
      exact ⟨ez, nm_r er (ih _ _ (by omega) hl2 (by omega) hp)⟩
theorem yw_abs {x : Int} (h : 0 ≤ x) : qz_l x = qz_l (x.natAbs : Nat) := by
  congr 1
  omega
theorem yw_absn {x : Int} (h : x < 0) : -qz_l x = qz_l (x.natAbs : Nat) := by
  rw [ql_neg]
  congr 1
  omega
theorem yw_div {post : Int64 → Prop} {X Y : Int64} {x y : Int} (hX : X = qz_l x) (hY : Y = qz_l y) (hx : -4611686018427387903 ≤ x ∧ x ≤ 4611686018427387903) (hy : -4611686018427387903 ≤ y ∧ y ≤ 4611686018427387903) (hp : post (qz_l (Nat.gcd x.natAbs y.natAbs : Nat))) : wpY_divisor post (md, cn, fi, mi, A, B, C, P) X Y := by
  subst hX hY
  have lp : wY_divisor_28 post md cn fi mi A B C P (y.natAbs + 1) (qz_l (x.natAbs : Nat)) (qz_l (y.natAbs : Nat)) := yw_div_loop _ _ _ (Nat.le_refl _) (by omega) (by omega) hp
  have key : wY_divisor_12 post (qz_l y) (qz_l (x.natAbs : Nat)) md cn fi mi A B C P := by
    unfold wY_divisor_12
    refine ql_cle 0 y ql_k0 rfl (by omega) (by omega) (fun h => ⟨y.natAbs + 1, ?_⟩) (fun h => nm_r (yw_absn h) ⟨y.natAbs + 1, lp⟩)
    have e := yw_abs h
    generalize qz_l y = Y at e ⊢
    rw [e]
    exact lp
  unfold wpY_divisor
  dsimp only
  refine ql_cle 0 x ql_k0 rfl (by omega) (by omega) (fun h => ?_) (fun h => ?_)
  · have e := yw_abs h
    generalize qz_l x = X at e ⊢
    rw [e]
    exact key
  · rw [yw_absn h]
    exact key
end
section
variable {d : Nat} {L : List qf_F} {N : Nat} {cn : Int32} {fi mi : Int64} {A B C P : Nat → Int32} {post : Int32 → Prop}
theorem yw_form (hd : 0 < d ∧ d ≤ 400) {X Y : Int64} {a b : Int} (hX : X = qz_l a) (hY : Y = qz_l b) (ha : 1 ≤ a ∧ a ≤ 1000000) (hb : -1000000 ≤ b ∧ b ≤ 1000000) (h1 : qf_third d a b ≠ 0 → qf_g3 a b (qf_third d a b) = 1 → post 1) (h0 : qf_third d a b = 0 ∨ qf_g3 a b (qf_third d a b) ≠ 1 → post 0) : wpY_isForm post (qz_i d, cn, fi, mi, A, B, C, P) X Y := by
  subst hX hY
  have s0 := qm_sq b
  have s1 : b * b ≤ 1000000 * 1000000 := qm_sqle hb.1 hb.2
  have e4 : (4 : Int64) * qz_l a = qz_l (4 * a) := by rw [ql_k4, ql_mul]
  have ez : ¬ qz_l (4 * a) = 0 := by
    rw [ql_k0, ql_eq (by omega) (by omega)]
    omega
  have g1 : Nat.gcd a.natAbs b.natAbs ≤ a.natAbs := Nat.gcd_le_left _ (by omega)
  have g0 : 0 < Nat.gcd a.natAbs b.natAbs := Nat.gcd_pos_of_pos_left _ (by omega)
  have t2 := qm_t2 (d := d) (a := a) (b := b) (by omega)
  have g2 : qf_g3 a b (qf_third d a b) ≤ Nat.gcd a.natAbs b.natAbs := Nat.gcd_le_left _ g0
  unfold wpY_isForm
  dsimp only
  rw [e4]
  refine nm_r (e' := qz_l (b * b + d)) (by rw [ql_mul, ql_of (by omega) (by omega), ql_add]) ⟨ez, ?_⟩
  have er := ql_rem (a := b * b + d) (b := 4 * a) (by omega) (by omega)
  rw [Int.tmod_eq_emod_of_nonneg (by omega)] at er
  have hm := Int.emod_nonneg (b * b + d) (show 4 * a ≠ 0 by omega)
  have hl := Int.emod_lt_of_pos (b * b + d) (show 0 < 4 * a by omega)
  refine ql_ceq _ 0 er ql_k0 (by omega) (by omega) (fun z => ?_) (fun z => ?_)
  · have et : qf_third d a b = (b * b + d) / (4 * a) := by
      unfold qf_third
      rw [if_neg (by omega), if_pos z]
    have ed : qz_l (b * b + d) / qz_l (4 * a) = qz_l (qf_third d a b) := by
      rw [ql_div (by omega) (by omega), Int.tdiv_eq_ediv_of_nonneg (by omega), et]
    have en : qf_third d a b ≠ 0 := by
      intro h
      have := Int.mul_ediv_cancel' (Int.dvd_of_emod_eq_zero z)
      rw [← et, h] at this
      omega
    rw [ed]
    refine yw_div rfl rfl (by omega) (by omega) ⟨ez, ?_⟩
    refine yw_div rfl rfl (by omega) (by omega) ?_
    rw [Int.natAbs_natCast]
    refine ql_ceq (qf_g3 a b (qf_third d a b) : Nat) 1 rfl ql_k1 (by omega) (by omega) (fun y => h1 en (by omega)) (fun y => h0 (Or.inr (by omega)))
  · refine h0 (Or.inl ?_)
    unfold qf_third
    rw [if_neg (by omega), if_neg z]
theorem yw_ix_loop (G : qf_chk d L N = true) (S : xs_L L cn A B C) {J6 : Int64 → Int64 → Prop} {a b c : Int} (hd : 0 < d ∧ d ≤ 400) (ha : 1 ≤ a ∧ a ≤ 2000000) (hb : -2000000 ≤ b ∧ b ≤ 2000000) (hc : 4 * a * c = b * b + d) : ∀ (m k : Nat), k + m = L.length → (∀ i : Nat, qf_ix (L.drop k) a b k = i → post (nI i)) → (qf_ix (L.drop k) a b k = qf_NO → J6 (qz_l c) (qz_l (-b))) → wY_find_59 post J6 (qz_l a) (qz_l b) (qz_i d) cn fi mi A B C P (m + 1) (nI k) := by
  have hL := (qg_1 G).2.2.1
  have hcn := S.1
  subst hcn
  intro m
  induction m with
  | zero =>
    intro k hk h1 h2
    rw [List.drop_of_length_le (by omega)] at h2
    have s0 := qm_sq b
    have s1 : b * b ≤ 2000000 * 2000000 := qm_sqle hb.1 hb.2
    have e4 : (4 : Int64) * qz_l a = qz_l (4 * a) := by rw [ql_k4, ql_mul]
    have ez : ¬ qz_l (4 * a) = 0 := by
      rw [ql_k0, ql_eq (by omega) (by omega)]
      omega
    have ed : (qz_l b * qz_l b + (qz_i d).toInt64) / ((4 : Int64) * qz_l a) = qz_l c := by
      rw [e4, ql_mul, ql_of (by omega) (by omega), ql_add, ql_div (by omega) (by omega), Int.tdiv_eq_ediv_of_nonneg (by omega), ← hc, Int.mul_ediv_cancel_left _ (by omega)]
    exact pk_le L.length k (fun _ => ⟨by rw [e4]; exact ez, nm_r ed (nm_r (ql_neg b) (h2 rfl))⟩) (fun z => absurd z (by omega))
  | succ m ih =>
    intro k hk h1 h2
    obtain ⟨eA, eB, eC⟩ := S.2 k (by omega)
    obtain ⟨b1, b2, b3, _, _, b6⟩ := qg_ent G (show k < L.length by omega)
    rw [qm_drop (by omega), qf_ix] at h1 h2
    have hin : vp_in (nI k) 64 := vp_in_nI (by omega) (by omega)
    have nx : (∀ i : Nat, qf_ix (L.drop (k + 1)) a b ((k : Int) + 1) = i → post (nI i)) → (qf_ix (L.drop (k + 1)) a b ((k : Int) + 1) = qf_NO → J6 (qz_l c) (qz_l (-b))) → ∀ y, y = nI k + 1 → wY_find_59 post J6 (qz_l a) (qz_l b) (qz_i d) (nI L.length) fi mi A B C P (m + 1) y := fun h h' => nm_r (nI_1 k) (ih (k + 1) (by omega) h h')
    refine pk_le L.length k (fun z => absurd z (by omega)) (fun _ => ⟨hin, ?_⟩)
    rw [nI_clamp (by omega), eA, eB, ql_of (by omega) (by omega), ql_of (by omega) (by omega)]
    refine ql_ceq _ a rfl rfl (by omega) (by omega) (fun z => ⟨hin, ?_⟩) (fun z => ?_)
    · refine ql_ceq _ b rfl rfl (by omega) (by omega) (fun y => ?_) (fun y => ?_)
      · rw [if_pos z, if_pos y] at h1
        exact h1 k rfl
      · rw [if_pos z, if_neg y] at h1 h2
        exact nx h1 h2
    · rw [if_neg z] at h1 h2
      exact nx h1 h2
theorem yw_find_loop (G : qf_chk d L N = true) (hd : 0 < d ∧ d ≤ 400) (S : xs_L L cn A B C) {i : Nat} (hp : post (nI i)) : ∀ (n : Nat) (a b c : Int), 1 ≤ a ∧ a ≤ 2000000 → -100000000 ≤ b ∧ b ≤ 100000000 → 4 * a * c = b * b + d → qf_fc d L n a b = i → wY_find_6 post (qz_i d) cn fi mi A B C P n (qz_l a) (qz_l b) := by
  intro n
  induction n with
  | zero =>
    intro a b c ha hb hc hv
    have : qf_NO = (i : Int) := hv
    unfold qf_NO at this
    omega
  | succ n ih =>
    intro a b c ha hb hc hv
    have hne : (i : Int) ≠ qf_NO := by
      unfold qf_NO
      omega
    have fd := qm_find G hd.1 ha.1 hc hv hne
    have nb := qm_near_b b ha.1
    obtain ⟨k, hk⟩ := qm_near_k a b
    have hs := qm_shift (k := k) hc
    rw [← hk] at hs
    generalize c + b * k + a * k * k = c' at hs
    have ht := qm_third ha.1 hs
    have tb := qm_tb (d := d) (a := a) (m := qf_near b a) (by omega) (by omega) (by omega) (by omega)
    rw [ht] at tb
    have hm := qm_sq (qf_near b a)
    have c1 := qm_pos ha.1 hs (by omega)
    have key : ∃ n59, wY_find_59 post (wY_find_6 post (qz_i d) cn fi mi A B C P n) (qz_l a) (qz_l (qf_near b a)) (qz_i d) cn fi mi A B C P n59 0 := by
      refine ⟨L.length + 1, yw_ix_loop G S hd ha (by omega) hs L.length 0 (by omega) (fun i' hi' => ?_) (fun hno => ?_)⟩
      · have hi2 : qf_ix L a (qf_near b a) 0 = i' := hi'
        rcases fd with h | ⟨h, _⟩
        · have : i' = i := by omega
          rw [this]
          exact hp
        · rw [hi2] at h
          unfold qf_NO at h
          omega
      · have hno2 : qf_ix L a (qf_near b a) 0 = qf_NO := hno
        rcases fd with h | ⟨h, c2, g1, g2, g3⟩
        · exact absurd (h.symm.trans hno2) hne
        · have := qm_third ha.1 g2
          rw [ht] at this
          rw [this]
          refine ih c2 (-qf_near b a) a (by omega) (by omega) ?_ g3
          rw [Int.neg_mul_neg, ← g2]
          grind
    have e2 : (2 : Int64) * qz_l a = qz_l (2 * a) := by rw [ql_k2, ql_mul]
    have ez : ¬ qz_l (2 * a) = 0 := by
      rw [ql_k0, ql_eq (by omega) (by omega)]
      omega
    have h1 := Int.tmod_lt_of_pos b (show 0 < 2 * a by omega)
    have h2 := Int.lt_tmod_of_pos b (show 0 < 2 * a by omega)
    have er := ql_rem (a := b) (b := 2 * a) (by omega) (by omega)
    obtain ⟨t1, t2, t3⟩ := qm_near_t ha.1 (rfl : b.tmod (2 * a) = b.tmod (2 * a))
    generalize b.tmod (2 * a) = r at h1 h2 er t1 t2 t3
    refine ⟨by rw [e2]; exact ez, nm_r (e' := qz_l r) (by rw [e2]; exact er) ?_⟩
    refine ql_cle r a rfl rfl (by omega) (by omega) (fun z => ?_) (fun z => ?_)
    · refine ql_clt (-a) r (ql_neg a) rfl (by omega) (by omega) (fun y => ?_) (fun y => ?_)
      · rw [t3 z y]
        exact key
      · exact nm_r (by rw [e2, ql_add, t2 y]) key
    · refine nm_r (e' := qz_l (qf_near b a)) (by rw [e2, ql_sub, t1 z]) ?_
      exact ql_clt (-a) (qf_near b a) (ql_neg a) rfl (by omega) (by omega) (fun y => key) (fun y => absurd y (by omega))
theorem yw_find (G : qf_chk d L N = true) (hd : 0 < d ∧ d ≤ 400) (S : xs_L L cn A B C) {X Y : Int64} {a b c : Int} (hX : X = qz_l a) (hY : Y = qz_l b) {i : Nat} (ha : 1 ≤ a ∧ a ≤ 2000000) (hb : -100000000 ≤ b ∧ b ≤ 100000000) (hc : 4 * a * c = b * b + d) (hv : qf_fc d L 1000 a b = i) (hp : post (nI i)) : wpY_find post (qz_i d, cn, fi, mi, A, B, C, P) X Y := by
  subst hX hY
  exact ⟨1000, yw_find_loop G hd S hp 1000 a b c ha hb hc hv⟩
end
end
section
/-! the reference: complete, seek, multiply, list -/
theorem qm_ct {p r : Int} (hp : 0 ≤ p ∧ p ≤ 12) (hr : -12 ≤ r ∧ r ≤ 12) (hg : Nat.gcd p.natAbs r.natAbs = 1) : qf_cq p r 27 (-13) = some (qf_ct p r) := by
  have g := List.all_eq_true.mp (List.all_eq_true.mp qf_ct_ok p.toNat (List.mem_range.mpr (by omega))) (r + 12).toNat (List.mem_range.mpr (by omega))
  rw [show ((p.toNat : Nat) : Int) = p by omega, show (((r + 12).toNat : Nat) : Int) - 12 = r by omega, show p.toNat = p.natAbs by omega] at g
  simpa [hg] using g
section
variable {d : Nat} {L : List qf_F} {N : Nat} {cn : Int32} {fi mi : Int64} {A B C P : Nat → Int32}
theorem yw_cs (G : qf_chk d L N = true) (S : xs_L L cn A B C) {post : SY → Prop} {J4 : Int32 → Prop} {j : Nat} (hj : j < L.length) {p r q : Int} {x4 : Int64} (hp : -12 ≤ p ∧ p ≤ 12) (hr : -12 ≤ r ∧ r ≤ 12) (hq : -13 ≤ q ∧ q ≤ 13) : ∀ (m : Nat) (s : Int), s + m = 14 → -13 ≤ s → (∀ s', qf_cs p r q m s = some s' → post (qz_i d, cn, x4, qz_l (qf_mid (qf_at L j) p r (q, s')), A, B, C, P)) → (qf_cs p r q m s = none → J4 (qz_i (q + 1))) → wY_complete_15 post J4 (nI j) (qz_i p) (qz_i r) x4 (qz_i q) (qz_i d) cn fi mi A B C P (m + 1) (qz_i s) := by
  have hL := (qg_1 G).2.2.1
  obtain ⟨eA, eB, eC⟩ := S.2 j hj
  obtain ⟨b1, b2, b3, _, _, b6⟩ := qg_ent G hj
  have hin : vp_in (nI j) 64 := vp_in_nI (by omega) (by omega)
  intro m
  induction m with
  | zero =>
    intro s hs hs' h1 h2
    exact qz_clt 13 s qk_13 rfl (by omega) (by omega) (fun _ => nm_r (by rw [qk_1, qz_add]) (h2 rfl)) (fun z => absurd z (by omega))
  | succ m ih =>
    intro s hs hs' h1 h2
    have q1 := qm_mulb (X := 12) (Y := 13) hp (show -13 ≤ s ∧ s ≤ 13 by omega)
    have q2 := qm_mulb (X := 13) (Y := 12) hq hr
    rw [qf_cs] at h1 h2
    refine qz_clt 13 s qk_13 rfl (by omega) (by omega) (fun z => absurd z (by omega)) (fun _ => ?_)
    refine qz_ceq (p * s - q * r) 1 (by rw [qz_mul, qz_mul, qz_sub]) qk_1 (by omega) (by omega) (fun z => ?_) (fun z => ?_)
    · rw [if_pos z] at h1
      have e : (((((2 * A (nI j).toNatClampNeg) * qz_i p) * qz_i q) + (B (nI j).toNatClampNeg * ((qz_i p * qz_i s) + (qz_i q * qz_i r)))) + (((2 * C (nI j).toNatClampNeg) * qz_i r) * qz_i s)).toInt64 = qz_l (qf_mid (qf_at L j) p r (q, s)) := by
        rw [nI_clamp (by omega), eA, eB, eC, qk_2]
        simp only [qz_mul, qz_add]
        have w1 := qm_mulb (X := 22) (Y := 12) (show -22 ≤ 2 * (qf_at L j).1 ∧ 2 * (qf_at L j).1 ≤ 22 by omega) hp
        have w2 := qm_mulb (X := 22 * 12) (Y := 13) w1 hq
        have w3 := qm_mulb (X := 11) (Y := 312) (show -11 ≤ (qf_at L j).2.1 ∧ (qf_at L j).2.1 ≤ 11 by omega) (show -312 ≤ p * s + q * r ∧ p * s + q * r ≤ 312 by omega)
        have w4 := qm_mulb (X := 240) (Y := 12) (show -240 ≤ 2 * (qf_at L j).2.2 ∧ 2 * (qf_at L j).2.2 ≤ 240 by omega) hr
        have w5 := qm_mulb (X := 240 * 12) (Y := 13) w4 (show -13 ≤ s ∧ s ≤ 13 by omega)
        rw [ql_of (by omega) (by omega)]
        rfl
      exact ⟨hin, hin, hin, nm_r e (h1 s rfl)⟩
    · rw [if_neg z] at h1 h2
      exact nm_r (by rw [qk_1, qz_add]) (ih (s + 1) (by omega) (by omega) h1 h2)
theorem yw_cq (G : qf_chk d L N = true) (S : xs_L L cn A B C) {post : SY → Prop} {j : Nat} (hj : j < L.length) {p r : Int} {x4 : Int64} (hp : -12 ≤ p ∧ p ≤ 12) (hr : -12 ≤ r ∧ r ≤ 12) : ∀ (m : Nat) (q : Int), q + m = 14 → -13 ≤ q → (∀ z, qf_cq p r m q = some z → post (qz_i d, cn, x4, qz_l (qf_mid (qf_at L j) p r z), A, B, C, P)) → (qf_cq p r m q ≠ none) → wY_complete_4 post (nI j) (qz_i p) (qz_i r) x4 (qz_i d) cn fi mi A B C P (m + 1) (qz_i q) := by
  intro m
  induction m with
  | zero =>
    intro q hq hq' h1 h2
    exact absurd rfl h2
  | succ m ih =>
    intro q hq hq' h1 h2
    rw [qf_cq] at h1 h2
    refine qz_clt 13 q qk_13 rfl (by omega) (by omega) (fun z => absurd z (by omega)) (fun _ => ⟨28, ?_⟩)
    rw [qk_m13]
    refine yw_cs G S hj hp hr (by omega) 27 (-13) (by omega) (by omega) (fun s' hs' => ?_) (fun hn => ?_)
    · rw [hs'] at h1
      exact h1 _ rfl
    · rw [hn] at h1 h2
      exact ih (q + 1) (by omega) (by omega) h1 h2
theorem yw_complete (G : qf_chk d L N = true) (S : xs_L L cn A B C) {post : SY → Prop} {j : Nat} (hj : j < L.length) {p r : Int} {x4 : Int64} (hp : 0 ≤ p ∧ p ≤ 12) (hr : -12 ≤ r ∧ r ≤ 12) (hg : Nat.gcd p.natAbs r.natAbs = 1) (h : post (qz_i d, cn, x4, qz_l (qf_mid (qf_at L j) p r (qf_ct p r)), A, B, C, P)) : wpY_complete post (qz_i d, cn, fi, mi, A, B, C, P) (nI j) (qz_i p) (qz_i r) x4 := by
  have e := qm_ct hp hr hg
  refine ⟨28, ?_⟩
  rw [qk_m13]
  refine yw_cq G S hj (by omega) hr 27 (-13) (by omega) (by omega) (fun z hz => ?_) (by rw [e]; simp)
  rw [e] at hz
  injection hz with hz
  rw [← hz]
  exact h
theorem yw_sy (G : qf_chk d L N = true) (S : xs_L L cn A B C) {post : SY → Prop} {J7 : Int32 → Int32 → Int32 → Int64 → Int64 → (Nat → Int32) → (Nat → Int32) → (Nat → Int32) → (Nat → Int32) → Prop} {j : Nat} (hj : j < L.length) {o x : Int} (ho : 1 ≤ o ∧ o ≤ 11) (hx : 0 ≤ x ∧ x ≤ 12) : ∀ (m : Nat) (y : Int), y + m = 13 → -12 ≤ y → (∀ r, qf_sy (qf_at L j) o x m y = some r → r.1 ≠ 0 ∧ J7 (qz_i (x + 1)) (qz_i d) cn (qz_l r.1) (qz_l r.2) A B C P) → (qf_sy (qf_at L j) o x m y = none → J7 (qz_i (x + 1)) (qz_i d) cn 0 mi A B C P) → wY_seek_17 post J7 (nI j) (qz_i o) (qz_i x) (m + 1) (qz_i y) (qz_i d) cn 0 mi A B C P := by
  have hL := (qg_1 G).2.2.1
  obtain ⟨eA, eB, eC⟩ := S.2 j hj
  obtain ⟨b1, b2, b3, _, _, b6⟩ := qg_ent G hj
  have hin : vp_in (nI j) 64 := vp_in_nI (by omega) (by omega)
  have ex : qz_i x + 1 = qz_i (x + 1) := by rw [qk_1, qz_add]
  intro m
  induction m with
  | zero =>
    intro y hy hy' h1 h2
    exact qz_clt 12 y qk_12 rfl (by omega) (by omega) (fun _ => nm_r ex (h2 rfl)) (fun z => absurd z (by omega))
  | succ m ih =>
    intro y hy hy' h1 h2
    have ey : qz_i y + 1 = qz_i (y + 1) := by rw [qk_1, qz_add]
    have w1 := qm_mulb (X := 11) (Y := 12) (show -11 ≤ (qf_at L j).1 ∧ (qf_at L j).1 ≤ 11 by omega) (show -12 ≤ x ∧ x ≤ 12 by omega)
    have w2 := qm_mulb (X := 11 * 12) (Y := 12) w1 (show -12 ≤ x ∧ x ≤ 12 by omega)
    have w3 := qm_mulb (X := 11) (Y := 12) (show -11 ≤ (qf_at L j).2.1 ∧ (qf_at L j).2.1 ≤ 11 by omega) (show -12 ≤ x ∧ x ≤ 12 by omega)
    have w4 := qm_mulb (X := 11 * 12) (Y := 12) w3 (show -12 ≤ y ∧ y ≤ 12 by omega)
    have w5 := qm_mulb (X := 120) (Y := 12) (show -120 ≤ (qf_at L j).2.2 ∧ (qf_at L j).2.2 ≤ 120 by omega) (show -12 ≤ y ∧ y ≤ 12 by omega)
    have w6 := qm_mulb (X := 120 * 12) (Y := 12) w5 (show -12 ≤ y ∧ y ≤ 12 by omega)
    have vb : -100000 ≤ qf_val (qf_at L j) x y ∧ qf_val (qf_at L j) x y ≤ 100000 := by
      unfold qf_val
      omega
    have ev : ((((A (nI j).toNatClampNeg * qz_i x) * qz_i x) + ((B (nI j).toNatClampNeg * qz_i x) * qz_i y)) + ((C (nI j).toNatClampNeg * qz_i y) * qz_i y)).toInt64 = qz_l (qf_val (qf_at L j) x y) := by
      rw [nI_clamp (by omega), eA, eB, eC]
      simp only [qz_mul, qz_add]
      rw [ql_of (by omega) (by omega)]
      rfl
    have gl : Nat.gcd (qf_val (qf_at L j) x y).natAbs o.natAbs ≤ o.natAbs := Nat.gcd_le_right _ (by omega)
    have gx : Nat.gcd x.natAbs y.natAbs ≤ 12 := by
      rcases Nat.eq_zero_or_pos x.natAbs with h | h
      · rw [h, Nat.gcd_zero_left]
        omega
      · have := Nat.gcd_le_left y.natAbs h
        omega
    rw [qf_sy] at h1 h2
    refine qz_clt 12 y qk_12 rfl (by omega) (by omega) (fun z => absurd z (by omega)) (fun _ => ?_)
    refine br_t rfl ⟨hin, hin, hin, nm_r ev ?_⟩
    refine yw_div (ql_of (by omega) (by omega)) (ql_of (by omega) (by omega)) (by omega) (by omega) ?_
    refine ql_ceq (Nat.gcd x.natAbs y.natAbs : Nat) 1 rfl ql_k1 (by omega) (by omega) (fun z => ?_) (fun z => ?_)
    · have z' : Nat.gcd x.natAbs y.natAbs = 1 := by omega
      rw [if_pos z'] at h1 h2
      refine yw_div rfl (ql_of (by omega) (by omega)) (by omega) (by omega) ?_
      refine ql_ceq (Nat.gcd (qf_val (qf_at L j) x y).natAbs o.natAbs : Nat) 1 rfl ql_k1 (by omega) (by omega) (fun w => ?_) (fun w => ?_)
      · have w' : Nat.gcd (qf_val (qf_at L j) x y).natAbs o.natAbs = 1 := by omega
        rw [if_pos w'] at h1
        obtain ⟨k1, k2⟩ := h1 _ rfl
        dsimp only at k1 k2
        refine yw_complete G S hj hx (by omega) z' ?_
        refine nm_r ey ?_
        refine qz_clt 12 (y + 1) qk_12 rfl (by omega) (by omega) (fun _ => nm_r ex k2) (fun _ => ?_)
        exact ql_ceq (qf_val (qf_at L j) x y) 0 rfl ql_k0 (by omega) (by omega) (fun q => absurd q k1) (fun _ => nm_r ex k2)
      · have w' : ¬ Nat.gcd (qf_val (qf_at L j) x y).natAbs o.natAbs = 1 := by omega
        rw [if_neg w'] at h1 h2
        exact nm_r ey (ih (y + 1) (by omega) (by omega) h1 h2)
    · have z' : ¬ Nat.gcd x.natAbs y.natAbs = 1 := by omega
      rw [if_neg z'] at h1 h2
      exact nm_r ey (ih (y + 1) (by omega) (by omega) h1 h2)
theorem yw_done {post : SY → Prop} {X1 X2 md : Int32} {f : Int} (hf : f ≠ 0) (hfb : -100000 ≤ f ∧ f ≤ 100000) (h : post (md, cn, qz_l f, mi, A, B, C, P)) : ∀ (m : Nat) (x : Int), x + m = 13 → 0 ≤ x → wY_seek_7 post X1 X2 (m + 1) (qz_i x) md cn (qz_l f) mi A B C P := by
  intro m
  induction m with
  | zero =>
    intro x hx hx'
    exact qz_clt 12 x qk_12 rfl (by omega) (by omega) (fun _ => h) (fun z => absurd z (by omega))
  | succ m ih =>
    intro x hx hx'
    refine qz_clt 12 x qk_12 rfl (by omega) (by omega) (fun z => absurd z (by omega)) (fun _ => ⟨1, ?_⟩)
    have ex : qz_i x + 1 = qz_i (x + 1) := by rw [qk_1, qz_add]
    refine qz_clt 12 (-12) qk_12 qk_m12 (by omega) (by omega) (fun z => absurd z (by omega)) (fun _ => ?_)
    exact ql_ceq f 0 rfl ql_k0 (by omega) (by omega) (fun q => absurd q hf) (fun _ => nm_r ex (ih (x + 1) (by omega) (by omega)))
theorem yw_sx (G : qf_chk d L N = true) (S : xs_L L cn A B C) {post : SY → Prop} {j : Nat} (hj : j < L.length) {o : Int} (ho : 1 ≤ o ∧ o ≤ 11) : ∀ (m : Nat) (x : Int), x + m = 13 → 0 ≤ x → (∀ r, qf_sx (qf_at L j) o m x = some r → r.1 ≠ 0 ∧ (-100000 ≤ r.1 ∧ r.1 ≤ 100000) ∧ post (qz_i d, cn, qz_l r.1, qz_l r.2, A, B, C, P)) → qf_sx (qf_at L j) o m x ≠ none → wY_seek_7 post (nI j) (qz_i o) (m + 1) (qz_i x) (qz_i d) cn 0 mi A B C P := by
  intro m
  induction m with
  | zero =>
    intro x hx hx' h1 h2
    exact absurd rfl h2
  | succ m ih =>
    intro x hx hx' h1 h2
    rw [qf_sx] at h1 h2
    refine qz_clt 12 x qk_12 rfl (by omega) (by omega) (fun z => absurd z (by omega)) (fun _ => ⟨26, ?_⟩)
    rw [qk_m12]
    refine yw_sy G S hj ho (by omega) 25 (-12) (by omega) (by omega) (fun r hr => ?_) (fun hn => ?_)
    · rw [hr] at h1
      obtain ⟨k1, k2, k3⟩ := h1 r rfl
      exact ⟨k1, yw_done k1 k2 k3 m (x + 1) (by omega) (by omega)⟩
    · rw [hn] at h1 h2
      exact ih (x + 1) (by omega) (by omega) h1 h2
theorem yw_seek (G : qf_chk d L N = true) (S : xs_L L cn A B C) {post : SY → Prop} {j : Nat} (hj : j < L.length) {X : Int32} {o : Int} (hX : X = qz_i o) (ho : 1 ≤ o ∧ o ≤ 11) {z : Int × Int} (hz : qf_sx (qf_at L j) o 13 0 = some z) (h0 : z.1 ≠ 0) (hb : -100000 ≤ z.1 ∧ z.1 ≤ 100000) (hp : post (qz_i d, cn, qz_l z.1, qz_l z.2, A, B, C, P)) : wpY_seek post (qz_i d, cn, fi, mi, A, B, C, P) (nI j) X := by
  subst hX
  refine ⟨14, ?_⟩
  rw [qk_0]
  refine yw_sx G S hj ho 13 0 (by omega) (by omega) (fun r hr => ?_) (by rw [hz]; simp)
  rw [hz] at hr
  injection hr with hr
  rw [← hr]
  exact ⟨h0, hb, hp⟩
theorem qm_fcl_nz {a b : Int} {k : Nat} (h : qf_fcl d L a b = k) : qf_third d a b ≠ 0 ∧ qf_fc d L 1000 a b = k := by
  unfold qf_fcl at h
  split at h
  · unfold qf_NO at h
    omega
  · rename_i hz
    exact ⟨hz, h⟩
theorem yw_mloop (G : qf_chk d L N = true) (hd : 0 < d ∧ d ≤ 400) (S : xs_L L cn A B C) {post : Int32 → SY → Prop} {i : Nat} (hi : i < L.length) {f m t0 : Int} (hf : 0 < f ∧ f < 100000) (hm : -1000000 < m ∧ m < 1000000) (hg : Nat.gcd (qf_at L i).1.natAbs f.natAbs = 1) (h0 : 0 ≤ t0 ∧ t0 < f) (hdv : ((qf_at L i).2.1 + 2 * (qf_at L i).1 * t0 - m) % (2 * f) = 0) {k : Nat} (hfc : qf_fcl d L ((qf_at L i).1 * f) ((qf_at L i).2.1 + 2 * (qf_at L i).1 * t0) = k) (hp : post (nI k) (qz_i d, cn, qz_l f, qz_l m, A, B, C, P)) : ∀ (n : Nat) (t : Int), t + n = t0 → 0 ≤ t → wY_multiply_19 post (nI i) (qz_i d) cn (qz_l f) (qz_l m) A B C P (n + 1) (qz_l ((qf_at L i).2.1 + 2 * (qf_at L i).1 * t)) := by
  have hL := (qg_1 G).2.2.1
  obtain ⟨eA, eB, eC⟩ := S.2 i hi
  obtain ⟨b1, b2, b3, _, _, b6⟩ := qg_ent G hi
  have hin : vp_in (nI i) 64 := vp_in_nI (by omega) (by omega)
  have eA' : A (nI i).toNatClampNeg = qz_i (qf_at L i).1 := by
    rw [nI_clamp (by omega)]
    exact eA
  generalize (qf_at L i).1 = a at b1 b2 b3 hg hdv hfc eA' ⊢
  generalize (qf_at L i).2.1 = b at b3 hdv hfc ⊢
  have e2 : (2 : Int64) * qz_l f = qz_l (2 * f) := by rw [ql_k2, ql_mul]
  have ez : ¬ qz_l (2 * f) = 0 := by
    rw [ql_k0, ql_eq (by omega) (by omega)]
    omega
  have af := qm_mulb (X := 11) (Y := 100000) (show -11 ≤ a ∧ a ≤ 11 by omega) (show -100000 ≤ f ∧ f ≤ 100000 by omega)
  have af1 : 1 * 1 ≤ a * f := Int.mul_le_mul b1 (by omega) (by omega) (by omega)
  intro n
  induction n with
  | zero =>
    intro t ht ht0
    have et : t = t0 := by omega
    subst et
    have at1 := qm_mulb (X := 11) (Y := 100000) (show -11 ≤ a ∧ a ≤ 11 by omega) (show -100000 ≤ t ∧ t ≤ 100000 by omega)
    have at2 : 2 * a * t = 2 * (a * t) := Int.mul_assoc _ _ _
    obtain ⟨hz, hv⟩ := qm_fcl_nz hfc
    obtain ⟨_, t4, _⟩ := qm_third_nz (by omega) hz
    have er := ql_rem (a := b + 2 * a * t - m) (b := 2 * f) (by omega) (by omega)
    rw [Int.tmod_eq_zero_of_dvd (Int.dvd_of_emod_eq_zero hdv)] at er
    refine ⟨by rw [e2]; exact ez, ?_⟩
    rw [e2, ql_sub, er]
    refine br_t rfl ⟨hin, ?_⟩
    rw [eA', ql_of (by omega) (by omega), ql_mul]
    exact yw_find G hd S rfl rfl (by omega) (by omega) t4 hv hp
  | succ n ih =>
    intro t ht ht0
    have at1 := qm_mulb (X := 11) (Y := 100000) (show -11 ≤ a ∧ a ≤ 11 by omega) (show -100000 ≤ t ∧ t ≤ 100000 by omega)
    have at2 : 2 * a * t = 2 * (a * t) := Int.mul_assoc _ _ _
    have er := ql_rem (a := b + 2 * a * t - m) (b := 2 * f) (by omega) (by omega)
    have nd : (b + 2 * a * t - m).tmod (2 * f) ≠ 0 := by
      intro h
      have := qm_uni hg hf.1 (Int.dvd_of_emod_eq_zero hdv) (Int.dvd_of_tmod_eq_zero h) (by omega) ht0 h0.2
      omega
    have r1 := Int.tmod_lt_of_pos (b + 2 * a * t - m) (show 0 < 2 * f by omega)
    have r2 := Int.lt_tmod_of_pos (b + 2 * a * t - m) (show 0 < 2 * f by omega)
    refine ⟨by rw [e2]; exact ez, ?_⟩
    rw [e2, ql_sub, er]
    refine ql_ceq _ 0 rfl ql_k0 (by omega) (by omega) (fun z => absurd z nd) (fun _ => ⟨hin, ?_⟩)
    refine nm_r (e' := qz_l (b + 2 * a * (t + 1))) ?_ (ih (t + 1) (by omega) (by omega))
    rw [eA', qk_2, qz_mul, ql_of (by omega) (by omega), ql_add, Int.mul_add, Int.mul_one, Int.add_assoc]
theorem yw_mul (G : qf_chk d L N = true) (hd : 0 < d ∧ d ≤ 400) (S : xs_L L cn A B C) {post : Int32 → SY → Prop} {i j : Nat} (hi : i < L.length) (hj : j < L.length) (hp : ∀ fi' mi', post (nI (qf_P N L.length i j)) (qz_i d, cn, fi', mi', A, B, C, P)) : wpY_multiply post (qz_i d, cn, fi, mi, A, B, C, P) (nI i) (nI j) := by
  have hL := (qg_1 G).2.2.1
  obtain ⟨p1, p2, p3⟩ := qg_P G hi hj
  obtain ⟨eA, eB, eC⟩ := S.2 i hi
  obtain ⟨b1, b2, b3, _, _, b6⟩ := qg_ent G hi
  have hin : vp_in (nI i) 64 := vp_in_nI (by omega) (by omega)
  have eA' : A (nI i).toNatClampNeg = qz_i (qf_at L i).1 := by
    rw [nI_clamp (by omega)]
    exact eA
  have eB' : (B (nI i).toNatClampNeg).toInt64 = qz_l ((qf_at L i).2.1 + 2 * (qf_at L i).1 * 0) := by
    rw [nI_clamp (by omega), eB, ql_of (by omega) (by omega)]
    congr 1
    omega
  cases hs : qf_sx (qf_at L j) (qf_at L i).1 13 0 with
  | none =>
    rw [hs] at p3
    simp [qf_yk] at p3
  | some z =>
    rw [hs] at p3
    simp only [qf_yk, Bool.and_eq_true, decide_eq_true_eq] at p3
    obtain ⟨y1, y2, y3, y4, y5, y6, y7⟩ := p3
    have t1 := Int.emod_nonneg ((z.2 - (qf_at L i).2.1) / 2 * qf_is (qf_at L i).1 z.1 11 0) (show z.1 ≠ 0 by omega)
    have t2 := Int.emod_lt_of_pos ((z.2 - (qf_at L i).2.1) / 2 * qf_is (qf_at L i).1 z.1 11 0) y1
    have t3 : 0 ≤ qf_t0 (qf_at L i).1 (qf_at L i).2.1 z.1 z.2 ∧ qf_t0 (qf_at L i).1 (qf_at L i).2.1 z.1 z.2 < z.1 := ⟨t1, t2⟩
    generalize qf_t0 (qf_at L i).1 (qf_at L i).2.1 z.1 z.2 = t0 at y6 y7 t3
    refine ⟨hin, yw_seek G S hj eA' (by omega) hs (by omega) (by omega) ⟨hin, nm_r eB' ⟨t0.toNat + 1, ?_⟩⟩⟩
    exact yw_mloop G hd S hi ⟨y1, y2⟩ ⟨y3, y4⟩ y5 t3 y6 y7 (hp _ _) t0.toNat 0 (by omega) (by omega)
theorem yw_130 (G : qf_chk d L N = true) (hd : 0 < d ∧ d ≤ 400) (S : xs_L L cn A B C) {post : SY → Prop} {J120 : Int32 → Int32 → Int32 → Int64 → Int64 → (Nat → Int32) → (Nat → Int32) → (Nat → Int32) → (Nat → Int32) → Prop} {i : Nat} (hi : i < L.length) : ∀ (m j : Nat) (fi mi : Int64) (pr : Nat → Int32), j + m = L.length → xs_P N L.length 64 pr i j → (∀ fi' mi' pr', xs_P N L.length 64 pr' (i + 1) 0 → J120 (nI (i + 1)) (qz_i d) cn fi' mi' A B C pr') → wY_list_130 post J120 (nI i) (m + 1) (nI j) (qz_i d) cn fi mi A B C pr := by
  have hL := (qg_1 G).2.2.1
  have hc := S.1
  subst hc
  intro m
  induction m with
  | zero =>
    intro j fi mi pr hj Q hJ
    exact pk_le L.length j (fun _ => nm_r (nI_1 i) (hJ fi mi pr (fun i' j' h1 h2 h3 => Q i' j' h1 h2 (by omega)))) (fun z => absurd z (by omega))
  | succ m ih =>
    intro j fi mi pr hj Q hJ
    have ei : (64 * nI i) + nI j = nI (64 * i + j) := by rw [show (64 : Int32) = nI 64 from rfl, pk_mul, nI_add]
    have eu : upd pr ((64 * nI i) + nI j).toNatClampNeg (nI (qf_P N L.length i j)) = upd pr (64 * i + j) (nI (qf_P N L.length i j)) := by rw [ei, nI_clamp (by omega)]
    refine pk_le L.length j (fun z => absurd z (by omega)) (fun _ => ?_)
    refine yw_mul G hd S hi (by omega) (fun fi' mi' => ?_)
    exact ⟨by rw [ei]; exact vp_in_nI (by omega) (by omega), nm_r eu (nm_r (nI_1 j) (ih (j + 1) fi' mi' _ (by omega) (xs_put64 hL (by omega) Q) hJ))⟩
theorem yw_120 (G : qf_chk d L N = true) (hd : 0 < d ∧ d ≤ 400) (S : xs_L L cn A B C) {post : SY → Prop} (hp : ∀ fi' mi' pr', xs_P N L.length 64 pr' L.length 0 → post (qz_i d, cn, fi', mi', A, B, C, pr')) : ∀ (m i : Nat) (fi mi : Int64) (pr : Nat → Int32), i + m = L.length → xs_P N L.length 64 pr i 0 → wY_list_120 post (m + 1) (nI i) (qz_i d) cn fi mi A B C pr := by
  have hL := (qg_1 G).2.2.1
  have hc := S.1
  subst hc
  intro m
  induction m with
  | zero =>
    intro i fi mi pr hi Q
    have e : i = L.length := by omega
    rw [e] at Q
    exact pk_le L.length i (fun _ => hp fi mi pr Q) (fun z => absurd z (by omega))
  | succ m ih =>
    intro i fi mi pr hi Q
    exact pk_le L.length i (fun z => absurd z (by omega)) (fun _ => ⟨L.length + 1, yw_130 G hd S (by omega) L.length 0 fi mi pr (by omega) Q (fun fi' mi' pr' Q' => ih (i + 1) fi' mi' pr' (by omega) Q')⟩)
end
theorem qm_ly_len (d : Nat) : ∀ (m a : Nat) (acc : List qf_F), acc.length ≤ (qf_ly d m a acc).length := by
  intro m
  induction m with
  | zero => intro b acc; exact Nat.le_refl _
  | succ m ih =>
    intro b acc
    rw [qf_ly]
    split
    · exact Nat.le_trans (qm_lb_len _ _ _ _ _) (ih _ _)
    · exact Nat.le_refl _
section
variable {d : Nat} {L : List qf_F} {N : Nat} {fi mi : Int64} {P : Nat → Int32}
theorem yw_push {post : SY → Prop} {J7 J23 : Int32 → Int32 → (Nat → Int32) → (Nat → Int32) → (Nat → Int32) → (Nat → Int32) → Prop} {acc : List qf_F} {A B C : Nat → Int32} {a b c : Int} {md : Int32} (S : xs_L acc (nI acc.length) A B C) (hl : acc.length < 64) (h : ∀ A' B' C', xs_L (acc ++ [(a, b, c)]) (nI (acc.length + 1)) A' B' C' → J23 (qz_i (b + 1)) (nI (acc.length + 1)) A' B' C' P) : wY_list_66 post J7 J23 (qz_i a) (qz_i b) (qz_i c) md (nI acc.length) fi mi A B C P := by
  have hin : vp_in (nI acc.length) 64 := vp_in_nI (by omega) (by omega)
  exact ⟨hin, nm_e ⟨hin, nm_e ⟨hin, nm_e (nm_r (nI_1 _) (nm_r (by rw [qk_1, qz_add]) (h _ _ _ (xs_push S (by omega)))))⟩⟩⟩
theorem yw_lb (hd : 0 < d ∧ d ≤ 400) {a : Int} (ha : 1 ≤ a ∧ a ≤ 11) {post : SY → Prop} {J7 : Int32 → Int32 → (Nat → Int32) → (Nat → Int32) → (Nat → Int32) → (Nat → Int32) → Prop} : ∀ (m : Nat) (b : Int) (acc : List qf_F) (cn : Int32) (A B C : Nat → Int32), b + m = a + 1 → -a < b → xs_L acc cn A B C → (qf_lb d a m b acc).length ≤ 31 → (∀ cn' A' B' C', xs_L (qf_lb d a m b acc) cn' A' B' C' → J7 (qz_i (a + 1)) cn' A' B' C' P) → wY_list_23 post J7 (qz_i a) (qz_i d) fi mi (m + 1) (qz_i b) cn A B C P := by
  intro m
  induction m with
  | zero =>
    intro b acc cn A B C hb hb' S hl hJ
    exact qz_clt a b rfl rfl (by omega) (by omega) (fun _ => nm_r (by rw [qk_1, qz_add]) (hJ _ _ _ _ S)) (fun z => absurd z (by omega))
  | succ m ih =>
    intro b acc cn A B C hb hb' S hl hJ
    have hc := S.1
    subst hc
    rw [qf_lb] at hl hJ
    have s0 := qm_sq b
    have s1 : b * b ≤ 11 * 11 := qm_sqle (by omega) (by omega)
    have e1 : qz_i b + 1 = qz_i (b + 1) := by rw [qk_1, qz_add]
    have e4 : (4 : Int32) * qz_i a = qz_i (4 * a) := by rw [qk_4, qz_mul]
    have ez : ¬ (4 : Int32) * qz_i a = 0 := by
      rw [e4, qk_0, qz_eq (by omega) (by omega)]
      omega
    have ed : (qz_i b * qz_i b + qz_i d) / ((4 : Int32) * qz_i a) = qz_i ((b * b + d) / (4 * a)) := by
      rw [e4, qz_mul, qz_add, qz_div (by omega) (by omega), Int.tdiv_eq_ediv_of_nonneg (by omega)]
    have c0 : 0 ≤ (b * b + (d : Int)) / (4 * a) := Int.ediv_nonneg (by omega) (by omega)
    have c1 : (b * b + (d : Int)) / (4 * a) ≤ b * b + d := Int.ediv_le_self _ (by omega)
    have cc : qf_third d a b ≠ 0 → (b * b + (d : Int)) / (4 * a) = qf_third d a b := by
      intro h
      obtain ⟨_, t4, _⟩ := qm_third_nz (by omega) h
      rw [← t4, Int.mul_ediv_cancel_left _ (by omega)]
    have skip : ¬ qf_ok d a b = true → ∀ y, y = qz_i b + 1 → wY_list_23 post J7 (qz_i a) (qz_i d) fi mi (m + 1) y (nI acc.length) A B C P := by
      intro nok
      rw [if_neg nok] at hl hJ
      exact nm_r e1 (ih (b + 1) acc _ A B C (by omega) (by omega) S hl hJ)
    have push : qf_ok d a b = true → wY_list_66 post J7 (wY_list_23 post J7 (qz_i a) (qz_i d) fi mi (m + 1)) (qz_i a) (qz_i b) (qz_i (qf_third d a b)) (qz_i d) (nI acc.length) fi mi A B C P := by
      intro ok
      rw [if_pos ok] at hl hJ
      have ln := qm_lb_len d a m (b + 1) (acc ++ [(a, b, qf_third d a b)])
      rw [List.length_append, List.length_singleton] at ln
      exact yw_push S (by omega) (fun A' B' C' S' => ih (b + 1) _ _ A' B' C' (by omega) (by omega) S' hl hJ)
    refine qz_clt a b rfl rfl (by omega) (by omega) (fun z => absurd z (by omega)) (fun _ => ⟨ez, nm_r ed ?_⟩)
    generalize (b * b + (d : Int)) / (4 * a) = c at c0 c1 cc ⊢
    refine yw_form hd (ql_of (by omega) (by omega)) (ql_of (by omega) (by omega)) (by omega) (by omega) (fun hz hg => ?_) (fun hz => ?_)
    · have ec := cc hz
      subst ec
      have ok : qf_ok d a b = true ↔ (a < qf_third d a b ∨ (a = qf_third d a b ∧ 0 ≤ b)) := by
        unfold qf_ok
        rw [Bool.and_eq_true, qm_red, decide_eq_true_eq]
        constructor
        · intro h
          exact h.1.2.2
        · intro h
          exact ⟨⟨by omega, by omega, h⟩, hg⟩
      refine br_f (by decide) ?_
      refine qz_clt (qf_third d a b) a rfl rfl (by omega) (by omega) (fun z => skip (by rw [ok]; omega)) (fun z => ?_)
      refine qz_clt a (qf_third d a b) rfl rfl (by omega) (by omega) (fun y => push (by rw [ok]; omega)) (fun y => ?_)
      exact qz_clt b 0 rfl qk_0 (by omega) (by omega) (fun x => skip (by rw [ok]; omega)) (fun x => push (by rw [ok]; omega))
    · refine br_t rfl (skip ?_)
      unfold qf_ok
      rw [Bool.and_eq_true, qm_red, decide_eq_true_eq]
      intro h
      rcases hz with hz | hz
      · rw [hz] at h
        omega
      · exact hz h.2
theorem yw_ly (hd : 0 < d ∧ d ≤ 400) {post : SY → Prop} : ∀ (m a : Nat) (acc : List qf_F) (cn : Int32) (A B C : Nat → Int32), a + m = 21 → 1 ≤ a → xs_L acc cn A B C → (qf_ly d m a acc).length ≤ 31 → (∀ cn' A' B' C', xs_L (qf_ly d m a acc) cn' A' B' C' → ∃ n120, wY_list_120 post n120 0 (qz_i d) cn' fi mi A' B' C' P) → wY_list_7 post (qz_i d) fi mi (m + 1) (qz_i a) cn A B C P := by
  intro m
  induction m with
  | zero =>
    intro a acc cn A B C ha h1 S hl hp
    have ea : a = 21 := by omega
    subst ea
    exact qz_clt d (3 * ((21 : Nat) : Int) * ((21 : Nat) : Int)) rfl (by rw [qk_3, qz_mul, qz_mul]) (by omega) (by omega) (fun _ => hp _ _ _ _ S) (fun z => absurd z (by omega))
  | succ m ih =>
    intro a acc cn A B C ha h1 S hl hp
    have hb := Nat.mul_le_mul (show 3 * a ≤ 63 by omega) (show a ≤ 21 by omega)
    have e3 : (3 : Int) * a * a = ((3 * a * a : Nat) : Int) := by
      rw [Int.natCast_mul, Int.natCast_mul]
      rfl
    rw [qf_ly] at hl hp
    refine qz_clt d (3 * (a : Int) * (a : Int)) rfl (by rw [qk_3, qz_mul, qz_mul]) (by omega) (by omega) (fun z => ?_) (fun z => ?_)
    · rw [if_neg (by omega)] at hp
      exact hp _ _ _ _ S
    · have hq : 3 * a * a ≤ d := by omega
      rw [if_pos hq] at hl hp
      have ha11 : a ≤ 11 := by
        rcases Nat.lt_or_ge 11 a with g | g
        · have := Nat.mul_le_mul (show 36 ≤ 3 * a by omega) (show 12 ≤ a by omega)
          omega
        · exact g
      have l1 := qm_ly_len d m (a + 1) (qf_lb d a (2 * a) (1 - (a : Int)) acc)
      refine nm_r (e' := qz_i (1 - (a : Int))) (by rw [qk_1, qz_sub]) ⟨2 * a + 1, ?_⟩
      refine yw_lb hd (by omega) (2 * a) (1 - (a : Int)) acc cn A B C (by omega) (by omega) S (by omega) (fun cn' A' B' C' S' => ?_)
      rw [show (a : Int) + 1 = ((a + 1 : Nat) : Int) by omega]
      exact ih (a + 1) _ _ _ _ _ (by omega) (by omega) S' hl hp
theorem yw_list (G : qf_chk d L N = true) (hd : 0 < d ∧ d ≤ 400) {cn : Int32} {A B C : Nat → Int32} {post : SY → Prop} (hp : ∀ cn' fi' mi' A' B' C' P', xs_L L cn' A' B' C' → xs_P N L.length 64 P' L.length 0 → post (qz_i d, cn', fi', mi', A', B', C', P')) : wpY_list post (qz_i d, cn, fi, mi, A, B, C, P) := by
  obtain ⟨_, g2, g3, _⟩ := qg_1 G
  refine ⟨21, ?_⟩
  rw [qk_1]
  refine yw_ly hd 20 1 [] 0 A B C (by omega) (by omega) ⟨rfl, fun k hk => absurd hk (by simp)⟩ (by rw [g2]; exact g3) (fun cn' A' B' C' S => ⟨L.length + 1, ?_⟩)
  rw [g2] at S
  exact yw_120 G hd S (fun fi' mi' pr' Q => hp _ _ _ _ _ _ _ S Q) L.length 0 fi mi P (by omega) (fun _ _ _ _ h => absurd h (by omega))
end
/-- the reference holds the table -/
def ys_S (d : Nat) (L : List qf_F) (N : Nat) (v : SY) : Prop := ∃ fi mi A B C P, v = (qz_i d, nI L.length, fi, mi, A, B, C, P) ∧ xs_L L (nI L.length) A B C ∧ xs_P N L.length 64 P L.length 0
end
section
/-! the methods over a table: classes, products, powers -/
section
variable {d : Nat} {L : List qf_F} {N n : Nat} {md cn : Int32} {fi mi : Int64} {A B C P : Nat → Int32} {post : Int32 → Prop}
theorem xw_c0 {k : Int32} (h : k < 0 ∨ nI n ≤ k) (hp : post 0) : wpX_isClass post (md, nI n, A, B, C, P) k := by
  unfold wpX_isClass
  dsimp only
  by_cases h0 : k < 0
  · exact br_t h0 hp
  · exact br_f h0 (br_t (h.resolve_left h0) hp)
theorem xw_c1 {i : Nat} (hi : i < n) (hn : n < 2147483648) (hp : post 1) : wpX_isClass post (md, nI n, A, B, C, P) (nI i) := by
  unfold wpX_isClass
  dsimp only
  exact br_f (nI_pos (by omega)) (br_f (nI_ge hi hn) hp)
theorem yw_c1 {k : Int32} (h : k < 0 ∨ nI n ≤ k) (hp : post 1) : wpY_noClass post (md, nI n, fi, mi, A, B, C, P) k := by
  unfold wpY_noClass
  dsimp only
  by_cases h0 : k < 0
  · exact br_t h0 hp
  · exact br_f h0 (br_f (Int32.not_lt.mpr (h.resolve_left h0)) hp)
theorem yw_c0 {i : Nat} (hi : i < n) (hn : n < 2147483648) (hp : post 0) : wpY_noClass post (md, nI n, fi, mi, A, B, C, P) (nI i) := by
  unfold wpY_noClass
  dsimp only
  exact br_f (nI_pos (by omega)) (br_t (nI_lt hi hn) hp)
theorem yw_neutral (G : qf_chk d L N = true) (S : xs_L L cn A B C) (hp : post 0) : wpY_neutral post (md, cn, fi, mi, A, B, C, P) := by
  obtain ⟨_, _, _, g4, g5⟩ := qg_1 G
  have e : A (0 : Int32).toNatClampNeg = 1 := by
    show A 0 = 1
    rw [(S.2 0 g4).1, g5, qk_1]
  exact ⟨1, vp_in_nI (n := 0) (by omega) (by omega), br_t e hp⟩
theorem xw_product (G : qf_chk d L N = true) (SP : xs_P N L.length 66 P L.length 0) {i j : Nat} (hi : i < L.length) (hj : j < L.length) (hp : post (nI (qf_P N L.length i j))) : wpX_product post (md, nI L.length, A, B, C, P) (nI i) (nI j) := by
  have hL := (qg_1 G).2.2.1
  have ei : (nI i * 66) + nI j = nI (66 * i + j) := by rw [show (66 : Int32) = nI 66 from rfl, pk_mul, nI_add, Nat.mul_comm]
  have ep : P ((nI i * 66) + nI j).toNatClampNeg = nI (qf_P N L.length i j) := by
    rw [ei, nI_clamp (by omega)]
    exact SP i j hi hj (by omega)
  unfold wpX_product
  dsimp only
  refine xw_c1 hi (by omega) (br_f (by decide) ?_)
  refine xw_c1 hj (by omega) (br_f (by decide) ?_)
  refine ⟨by rw [ei]; exact vp_in_nI (by omega) (by omega), ?_⟩
  rw [ep]
  exact hp
theorem yw_at (G : qf_chk d L N = true) (SP : xs_P N L.length 64 P L.length 0) {i j : Nat} (hi : i < L.length) (hj : j < L.length) : vp_in ((64 * nI i) + nI j) 4096 ∧ P ((64 * nI i) + nI j).toNatClampNeg = nI (qf_P N L.length i j) := by
  have hL := (qg_1 G).2.2.1
  have ei : (64 * nI i) + nI j = nI (64 * i + j) := by rw [show (64 : Int32) = nI 64 from rfl, pk_mul, nI_add]
  rw [ei]
  refine ⟨vp_in_nI (by omega) (by omega), ?_⟩
  rw [nI_clamp (by omega)]
  exact SP i j hi hj (by omega)
theorem xw_inv (G : qf_chk d L N = true) (hd : 0 < d ∧ d ≤ 400) (S : xs_L L (nI L.length) A B C) {i : Nat} (hi : i < L.length) (hp : post (nI (qf_inv d L i))) : wpX_inverse post (qz_i d, nI L.length, A, B, C, P) (nI i) := by
  have hL := (qg_1 G).2.2.1
  obtain ⟨eA, eB, eC⟩ := S.2 i hi
  obtain ⟨b1, b2, b3, _, _, b6⟩ := qg_ent G hi
  obtain ⟨v1, _⟩ := qg_inv G hi
  have hin : vp_in (nI i) 66 := vp_in_nI (by omega) (by omega)
  unfold wpX_inverse
  dsimp only
  refine xw_c1 hi (by omega) (br_f (by decide) ⟨hin, hin, ?_⟩)
  refine xw_fcl G hd S (a := (qf_at L i).1) (b := -(qf_at L i).2.1) (by rw [nI_clamp (by omega), eA]) (by rw [nI_clamp (by omega), eB, qz_neg]) (by omega) (by omega) ?_
  have e : qz_i (qf_fcl d L (qf_at L i).1 (-(qf_at L i).2.1)) = nI (qf_inv d L i) := by
    rw [qz_nI]
    congr 1
    unfold qf_inv
    omega
  rw [e]
  exact hp
theorem yw_inv_loop (G : qf_chk d L N = true) (SP : xs_P N L.length 64 P L.length 0) {i : Nat} (hi : i < L.length) (hp : post (nI (qf_inv d L i))) : ∀ (m j : Nat), j + m = qf_inv d L i → wY_inverse_18 post (nI i) 0 md cn fi mi A B C P (m + 1) (nI j) := by
  have hL := (qg_1 G).2.2.1
  obtain ⟨v1, v2, v3, v4, _⟩ := qg_inv G hi
  intro m
  induction m with
  | zero =>
    intro j hj
    have e : j = qf_inv d L i := by omega
    subst e
    obtain ⟨q1, q2⟩ := yw_at G SP hi v2
    exact ⟨q1, br_t (by rw [q2, v3]; rfl) hp⟩
  | succ m ih =>
    intro j hj
    obtain ⟨q1, q2⟩ := yw_at G SP hi (show j < L.length by omega)
    obtain ⟨p1, _⟩ := qg_P G hi (show j < L.length by omega)
    have v5 := v4 j (by omega)
    exact ⟨q1, br_f (by rw [q2]; exact nI_ne0 (by omega) (by omega)) (nm_r (nI_1 j) (ih (j + 1) (by omega)))⟩
theorem yw_inv (G : qf_chk d L N = true) (S : xs_L L (nI L.length) A B C) (SP : xs_P N L.length 64 P L.length 0) {i : Nat} (hi : i < L.length) (hp : post (nI (qf_inv d L i))) : wpY_inverse post (md, nI L.length, fi, mi, A, B, C, P) (nI i) := by
  have hL := (qg_1 G).2.2.1
  unfold wpY_inverse
  dsimp only
  refine yw_c0 hi (by omega) (br_t rfl ?_)
  exact yw_neutral G S ⟨qf_inv d L i + 1, yw_inv_loop G SP hi hp (qf_inv d L i) 0 (by omega)⟩
theorem xw_rep_loop (G : qf_chk d L N = true) (SP : xs_P N L.length 66 P L.length 0) {i e : Nat} (hi : i < L.length) (he : e ≤ 1000) : ∀ (m s k : Nat), k < L.length → s + m = e → post (nI (qf_it N L.length i m k)) → wX_repeated_5 post (nI i) (nI e) md (nI L.length) A B C P (m + 1) (nI k) (nI s) := by
  intro m
  induction m with
  | zero =>
    intro s k hk hs hp
    exact pk_le e s (fun _ => hp) (fun z => absurd z (by omega))
  | succ m ih =>
    intro s k hk hs hp
    obtain ⟨p1, _⟩ := qg_P G hk hi
    refine pk_le e s (fun z => absurd z (by omega)) (fun _ => ?_)
    exact xw_product G SP hk hi (nm_r (nI_1 s) (ih (s + 1) _ p1 (by omega) hp))
theorem xw_rep (G : qf_chk d L N = true) (SP : xs_P N L.length 66 P L.length 0) {X : Int32} {i e : Nat} (hX : X = nI e) (hi : i < L.length) (he : e ≤ 1000) (hp : post (nI (qf_it N L.length i e 0))) : wpX_repeated post (md, nI L.length, A, B, C, P) (nI i) X := by
  subst hX
  exact ⟨e + 1, xw_rep_loop G SP hi he e 0 0 (qg_1 G).2.2.2.1 (by omega) hp⟩
theorem yw_times_loop (G : qf_chk d L N = true) (SP : xs_P N L.length 64 P L.length 0) {i e : Nat} (hi : i < L.length) (he : e ≤ 1000) : ∀ (m s k : Nat), k < L.length → s + m = e → post (nI (qf_it N L.length i m k)) → wY_times_8 post (nI i) (nI e) md cn fi mi A B C P (m + 1) (nI k) (nI s) := by
  intro m
  induction m with
  | zero =>
    intro s k hk hs hp
    exact pk_le e s (fun _ => hp) (fun z => absurd z (by omega))
  | succ m ih =>
    intro s k hk hs hp
    obtain ⟨p1, _⟩ := qg_P G hk hi
    obtain ⟨q1, q2⟩ := yw_at G SP hk hi
    refine pk_le e s (fun z => absurd z (by omega)) (fun _ => ?_)
    exact ⟨q1, nm_r q2 (nm_r (nI_1 s) (ih (s + 1) _ p1 (by omega) hp))⟩
theorem yw_times (G : qf_chk d L N = true) (S : xs_L L cn A B C) (SP : xs_P N L.length 64 P L.length 0) {X : Int32} {i e : Nat} (hX : X = nI e) (hi : i < L.length) (he : e ≤ 1000) (hp : post (nI (qf_it N L.length i e 0))) : wpY_times post (md, cn, fi, mi, A, B, C, P) (nI i) X := by
  subst hX
  unfold wpY_times
  dsimp only
  exact yw_neutral G S ⟨e + 1, yw_times_loop G SP hi he e 0 0 (qg_1 G).2.2.2.1 (by omega) hp⟩
end
section
variable {d : Nat} {L : List qf_F} {N : Nat} {md md' cn : Int32} {fi mi : Int64} {A B C P A' B' C' P' : Nat → Int32}
theorem xy_order (G : qf_chk d L N = true) (SP : xs_P N L.length 66 P L.length 0) (SP' : xs_P N L.length 64 P' L.length 0) {i : Nat} (hi : i < L.length) : ∀ (m k s : Nat), k < L.length → qf_it N L.length i m k = 0 → s + m ≤ L.length → ∃ r, (∀ post : Int32 → Prop, post r → wX_order_15 post (nI i) md (nI L.length) A B C P (m + 1) (nI k) (nI s)) ∧ (∀ post : Int32 → Prop, post r → wY_order_21 post (nI i) 0 md' cn fi mi A' B' C' P' (m + 1) (nI s) (nI k)) := by
  have hL := (qg_1 G).2.2.1
  intro m
  induction m with
  | zero =>
    intro k s hk h0 hs
    have e : k = 0 := h0
    subst e
    exact ⟨nI s, fun post hp => pk_lt L.length s (fun z => absurd z (by omega)) (fun _ => br_t rfl hp), fun post hp => br_t rfl hp⟩
  | succ m ih =>
    intro k s hk h0 hs
    by_cases e : k = 0
    · subst e
      exact ⟨nI s, fun post hp => pk_lt L.length s (fun z => absurd z (by omega)) (fun _ => br_t rfl hp), fun post hp => br_t rfl hp⟩
    · obtain ⟨p1, _⟩ := qg_P G hk hi
      obtain ⟨q1, q2⟩ := yw_at G SP' hk hi
      obtain ⟨r, hX, hY⟩ := ih (qf_P N L.length k i) (s + 1) p1 h0 (by omega)
      have nz : ¬ nI k = 0 := nI_ne0 (by omega) (by omega)
      exact ⟨r, fun post hp => pk_lt L.length s (fun z => absurd z (by omega)) (fun _ => br_f nz (xw_product G SP hk hi (nm_r (nI_1 s) (hX post hp)))), fun post hp => br_f nz (nm_r (nI_1 s) ⟨q1, nm_r q2 (hY post hp)⟩)⟩
theorem xy_roots (G : qf_chk d L N = true) (SP : xs_P N L.length 66 P L.length 0) (S' : xs_L L (nI L.length) A' B' C') (SP' : xs_P N L.length 64 P' L.length 0) {e : Nat} (he : e ≤ 1000) : ∀ (m k c : Nat), k + m = L.length → ∃ r, (∀ post : Int32 → Prop, post r → wX_roots_19 post (nI e) md (nI L.length) A B C P (m + 1) (nI c) (nI k)) ∧ (∀ post : Int32 → Prop, post r → wY_roots_25 post (nI e) 0 md' (nI L.length) fi mi A' B' C' P' (m + 1) (nI c) (nI k)) := by
  have hL := (qg_1 G).2.2.1
  intro m
  induction m with
  | zero =>
    intro k c hk
    exact ⟨nI c, fun post hp => pk_le L.length k (fun _ => hp) (fun z => absurd z (by omega)), fun post hp => pk_le L.length k (fun _ => hp) (fun z => absurd z (by omega))⟩
  | succ m ih =>
    intro k c hk
    by_cases h : nI (qf_it N L.length k e 0) = 0
    · obtain ⟨r, hX, hY⟩ := ih (k + 1) (c + 1) (by omega)
      exact ⟨r, fun post hp => pk_le L.length k (fun z => absurd z (by omega)) (fun _ => xw_rep G SP rfl (by omega) he (br_t h (nm_r (nI_1 c) (nm_r (nI_1 k) (hX post hp))))), fun post hp => pk_le L.length k (fun z => absurd z (by omega)) (fun _ => yw_times G S' SP' rfl (by omega) he (br_t h (nm_r (nI_1 c) (nm_r (nI_1 k) (hY post hp)))))⟩
    · obtain ⟨r, hX, hY⟩ := ih (k + 1) c (by omega)
      exact ⟨r, fun post hp => pk_le L.length k (fun z => absurd z (by omega)) (fun _ => xw_rep G SP rfl (by omega) he (br_f h (nm_r (nI_1 k) (hX post hp)))), fun post hp => pk_le L.length k (fun z => absurd z (by omega)) (fun _ => yw_times G S' SP' rfl (by omega) he (br_f h (nm_r (nI_1 k) (hY post hp))))⟩
/-- is k a square, from i on -/
def qs_sq (N h k : Nat) : Nat → Nat → Bool
  | 0, _ => false
  | m + 1, i => if qf_P N h i i = k then true else qs_sq N h k m (i + 1)
theorem xw_sq (G : qf_chk d L N = true) (SP : xs_P N L.length 66 P L.length 0) {k : Nat} (hk : k < L.length) {post : Int32 → Prop} : ∀ (m i : Nat), i + m = L.length → (qs_sq N L.length k m i = true → post 1) → (qs_sq N L.length k m i = false → post 0) → wX_isSquare_2 post (nI k) md (nI L.length) A B C P (m + 1) (nI i) := by
  have hL := (qg_1 G).2.2.1
  intro m
  induction m with
  | zero =>
    intro i hi h1 h0
    exact pk_le L.length i (fun _ => h0 rfl) (fun z => absurd z (by omega))
  | succ m ih =>
    intro i hi h1 h0
    have hi' : i < L.length := by omega
    obtain ⟨p1, _⟩ := qg_P G hi' hi'
    rw [qs_sq] at h1 h0
    refine pk_le L.length i (fun z => absurd z (by omega)) (fun _ => ?_)
    refine xw_product G SP hi' hi' ?_
    refine pk_eq (qf_P N L.length i i) k (fun z => ?_) (fun z => ?_)
    · rw [if_pos z] at h1
      exact h1 rfl
    · rw [if_neg z] at h1 h0
      exact nm_r (nI_1 i) (ih (i + 1) (by omega) h1 h0)
theorem yw_sq1 (G : qf_chk d L N = true) {x1 x2 : Int32} {post : Int32 → Prop} {J4 : Int32 → Int32 → Prop} (hJ : J4 (x1 + 1) (x2 + 1)) : ∀ (m i : Nat), i + m = L.length → wY_squares_17 post J4 x1 x2 md (nI L.length) fi mi A B C P (m + 1) 1 (nI i) := by
  have hL := (qg_1 G).2.2.1
  intro m
  induction m with
  | zero =>
    intro i hi
    exact pk_le L.length i (fun _ => br_f (by decide) (nm_e (nm_e hJ))) (fun z => absurd z (by omega))
  | succ m ih =>
    intro i hi
    exact pk_le L.length i (fun z => absurd z (by omega)) (fun _ => br_f (by decide) (nm_r (nI_1 i) (ih (i + 1) (by omega))))
theorem yw_sq (G : qf_chk d L N = true) (SP : xs_P N L.length 64 P L.length 0) {x1 : Int32} {k : Nat} (hk : k < L.length) {post : Int32 → Prop} {J4 : Int32 → Int32 → Prop} : ∀ (m i : Nat), i + m = L.length → (qs_sq N L.length k m i = true → J4 (x1 + 1) (nI k + 1)) → (qs_sq N L.length k m i = false → J4 x1 (nI k + 1)) → wY_squares_17 post J4 x1 (nI k) md (nI L.length) fi mi A B C P (m + 1) 0 (nI i) := by
  have hL := (qg_1 G).2.2.1
  intro m
  induction m with
  | zero =>
    intro i hi h1 h0
    exact pk_le L.length i (fun _ => br_t rfl (nm_e (h0 rfl))) (fun z => absurd z (by omega))
  | succ m ih =>
    intro i hi h1 h0
    have hi' : i < L.length := by omega
    obtain ⟨p1, _⟩ := qg_P G hi' hi'
    obtain ⟨q1, q2⟩ := yw_at G SP hi' hi'
    rw [qs_sq] at h1 h0
    refine pk_le L.length i (fun z => absurd z (by omega)) (fun _ => br_t rfl ⟨q1, ?_⟩)
    rw [q2]
    refine pk_eq (qf_P N L.length i i) k (fun z => ?_) (fun z => ?_)
    · rw [if_pos z] at h1
      exact nm_r (nI_1 i) (yw_sq1 G (h1 rfl) m (i + 1) (by omega))
    · rw [if_neg z] at h1 h0
      exact nm_r (nI_1 i) (ih (i + 1) (by omega) h1 h0)
theorem xy_squares (G : qf_chk d L N = true) (SP : xs_P N L.length 66 P L.length 0) (SP' : xs_P N L.length 64 P' L.length 0) : ∀ (m k c : Nat), k + m = L.length → ∃ r, (∀ post : Int32 → Prop, post r → wX_squares_4 post md (nI L.length) A B C P (m + 1) (nI c) (nI k)) ∧ (∀ post : Int32 → Prop, post r → wY_squares_4 post md' (nI L.length) fi mi A' B' C' P' (m + 1) (nI c) (nI k)) := by
  have hL := (qg_1 G).2.2.1
  intro m
  induction m with
  | zero =>
    intro k c hk
    exact ⟨nI c, fun post hp => pk_le L.length k (fun _ => hp) (fun z => absurd z (by omega)), fun post hp => pk_le L.length k (fun _ => hp) (fun z => absurd z (by omega))⟩
  | succ m ih =>
    intro k c hk
    have hk' : k < L.length := by omega
    cases h : qs_sq N L.length k L.length 0 with
    | true =>
      obtain ⟨r, hX, hY⟩ := ih (k + 1) (c + 1) (by omega)
      refine ⟨r, fun post hp => ?_, fun post hp => ?_⟩
      · refine pk_le L.length k (fun z => absurd z (by omega)) (fun _ => ⟨L.length + 1, ?_⟩)
        exact xw_sq G SP hk' L.length 0 (by omega) (fun _ => br_f (by decide) (nm_r (nI_1 c) (nm_r (nI_1 k) (hX post hp)))) (fun z => by rw [h] at z; exact absurd z (by decide))
      · refine pk_le L.length k (fun z => absurd z (by omega)) (fun _ => ⟨L.length + 1, ?_⟩)
        exact yw_sq G SP' hk' L.length 0 (by omega) (fun _ => by rw [nI_1, nI_1]; exact hY post hp) (fun z => by rw [h] at z; exact absurd z (by decide))
    | false =>
      obtain ⟨r, hX, hY⟩ := ih (k + 1) c (by omega)
      refine ⟨r, fun post hp => ?_, fun post hp => ?_⟩
      · refine pk_le L.length k (fun z => absurd z (by omega)) (fun _ => ⟨L.length + 1, ?_⟩)
        exact xw_sq G SP hk' L.length 0 (by omega) (fun z => by rw [h] at z; exact absurd z (by decide)) (fun _ => br_t rfl (nm_r (nI_1 k) (hX post hp)))
      · refine pk_le L.length k (fun z => absurd z (by omega)) (fun _ => ⟨L.length + 1, ?_⟩)
        exact yw_sq G SP' hk' L.length 0 (by omega) (fun z => by rw [h] at z; exact absurd z (by decide)) (fun _ => by rw [nI_1]; exact hY post hp)
end
end
section
/-! counting pairs, on both sides -/
def qs_p (f : qf_F) (n : Int) (ap : Bool) (x y : Int) : Bool := decide (qf_val f x y = n) && (!ap || decide (Nat.gcd x.natAbs y.natAbs = 1))
def qs_cnt (f : qf_F) (n : Int) (ap : Bool) : Nat := qc_x (qs_p f n ap) 51 (-25) 51 (-25) 0
theorem qs_p_of {f : qf_F} {n : Int} {ap : Bool} {x y : Int} : qs_p f n ap x y = true ↔ qf_val f x y = n ∧ (ap = false ∨ Nat.gcd x.natAbs y.natAbs = 1) := by
  unfold qs_p
  simp
section
variable {d : Nat} {L : List qf_F} {N : Nat} {md cn : Int32} {fi mi : Int64} {A B C P : Nat → Int32}
theorem qs_far (G : qf_chk d L N = true) {k : Nat} (hk : k < L.length) {n : Int} (hn : n ≤ 500) (ap : Bool) : qc_x (qs_p (qf_at L k) n ap) 57 (-28) 57 (-28) 0 = qs_cnt (qf_at L k) n ap := by
  obtain ⟨b1, b2, b3, _, _, b6⟩ := qg_ent G hk
  refine qc_eq _ (fun x y h => ?_)
  rw [← Bool.not_eq_true, qs_p_of]
  intro z
  have := qm_big b1 b3.1 b3.2.1 (show (qf_at L k).1 ≤ (qf_at L k).2.2 by omega) h
  have e := z.1
  unfold qf_val at e
  omega
theorem qs_vb (G : qf_chk d L N = true) {k : Nat} (hk : k < L.length) {x y : Int} (hx : -28 ≤ x ∧ x ≤ 28) (hy : -28 ≤ y ∧ y ≤ 28) : -1000000 ≤ qf_val (qf_at L k) x y ∧ qf_val (qf_at L k) x y ≤ 1000000 := by
  obtain ⟨b1, b2, b3, _, _, b6⟩ := qg_ent G hk
  have w1 := qm_mulb (X := 11) (Y := 28) (show -11 ≤ (qf_at L k).1 ∧ (qf_at L k).1 ≤ 11 by omega) hx
  have w2 := qm_mulb (X := 11 * 28) (Y := 28) w1 hx
  have w3 := qm_mulb (X := 11) (Y := 28) (show -11 ≤ (qf_at L k).2.1 ∧ (qf_at L k).2.1 ≤ 11 by omega) hx
  have w4 := qm_mulb (X := 11 * 28) (Y := 28) w3 hy
  have w5 := qm_mulb (X := 120) (Y := 28) (show -120 ≤ (qf_at L k).2.2 ∧ (qf_at L k).2.2 ≤ 120 by omega) hy
  have w6 := qm_mulb (X := 120 * 28) (Y := 28) w5 hy
  unfold qf_val
  omega
theorem qs_gb {x y : Int} (hx : -28 ≤ x ∧ x ≤ 28) (hy : -28 ≤ y ∧ y ≤ 28) : Nat.gcd x.natAbs y.natAbs ≤ 28 := by
  rcases Nat.eq_zero_or_pos x.natAbs with h | h
  · rw [h, Nat.gcd_zero_left]
    omega
  · have := Nat.gcd_le_left y.natAbs h
    omega
theorem xw_py (G : qf_chk d L N = true) {post : Int32 → Prop} {J31 : Int32 → Int32 → Prop} {k : Nat} (hk : k < L.length) {n x : Int} (hn : 1 ≤ n ∧ n ≤ 500) (hx : -25 ≤ x ∧ x ≤ 25) {c : Int32} {ap : Bool} (hc : c = 0 ↔ ap = false) : ∀ (m : Nat) (y : Int) (acc : Nat), y + m = 26 → -25 ≤ y → J31 (nI (qc_y (qs_p (qf_at L k) n ap) x m y acc)) (qz_i (x + 1)) → wX_countPairs_42 post J31 (qz_i n) c (qz_i (qf_at L k).1) (qz_i (qf_at L k).2.1) (qz_i (qf_at L k).2.2) (qz_i x) md cn A B C P (m + 1) (nI acc) (qz_i y) := by
  intro m
  induction m with
  | zero =>
    intro y acc hy hy' hJ
    exact qz_clt 25 y qk_25 rfl (by omega) (by omega) (fun _ => nm_r (by rw [qk_1, qz_add]) hJ) (fun z => absurd z (by omega))
  | succ m ih =>
    intro y acc hy hy' hJ
    have vb := qs_vb G hk (x := x) (y := y) (by omega) (by omega)
    have gb := qs_gb (x := x) (y := y) (by omega) (by omega)
    have ey : qz_i y + 1 = qz_i (y + 1) := by rw [qk_1, qz_add]
    rw [qc_y] at hJ
    have yes : qs_p (qf_at L k) n ap x y = true → wX_countPairs_42 post J31 (qz_i n) c (qz_i (qf_at L k).1) (qz_i (qf_at L k).2.1) (qz_i (qf_at L k).2.2) (qz_i x) md cn A B C P (m + 1) (nI (acc + 1)) (qz_i (y + 1)) := by
      intro z
      rw [if_pos z] at hJ
      exact ih (y + 1) (acc + 1) (by omega) (by omega) hJ
    have no : ¬ qs_p (qf_at L k) n ap x y = true → wX_countPairs_42 post J31 (qz_i n) c (qz_i (qf_at L k).1) (qz_i (qf_at L k).2.1) (qz_i (qf_at L k).2.2) (qz_i x) md cn A B C P (m + 1) (nI acc) (qz_i (y + 1)) := by
      intro z
      rw [if_neg z] at hJ
      exact ih (y + 1) acc (by omega) (by omega) hJ
    rw [qs_p_of] at yes no
    refine qz_clt 25 y qk_25 rfl (by omega) (by omega) (fun z => absurd z (by omega)) (fun _ => ?_)
    refine qz_ceq (qf_val (qf_at L k) x y) n (by simp only [qz_mul, qz_add]; rfl) rfl (by omega) (by omega) (fun z => ?_) (fun z => nm_r ey (no (fun w => z w.1)))
    by_cases c0 : c = 0
    · exact br_t c0 (nm_r (nI_1 acc) (nm_r ey (yes ⟨z, Or.inl (hc.mp c0)⟩)))
    · refine br_f c0 (xw_gcd rfl rfl (by omega) (by omega) ?_)
      refine pk_eq (Nat.gcd x.natAbs y.natAbs) 1 (fun w => nm_r (nI_1 acc) (nm_r ey (yes ⟨z, Or.inr w⟩))) (fun w => nm_r ey (no (fun q => ?_)))
      rcases q.2 with h | h
      · exact c0 (hc.mpr h)
      · exact w h
theorem xw_px (G : qf_chk d L N = true) {post : Int32 → Prop} {k : Nat} (hk : k < L.length) {n : Int} (hn : 1 ≤ n ∧ n ≤ 500) {c : Int32} {ap : Bool} (hc : c = 0 ↔ ap = false) : ∀ (m : Nat) (x : Int) (acc : Nat), x + m = 26 → -25 ≤ x → post (nI (qc_x (qs_p (qf_at L k) n ap) 51 (-25) m x acc)) → wX_countPairs_31 post (qz_i n) c (qz_i (qf_at L k).1) (qz_i (qf_at L k).2.1) (qz_i (qf_at L k).2.2) md cn A B C P (m + 1) (nI acc) (qz_i x) := by
  intro m
  induction m with
  | zero =>
    intro x acc hx hx' hp
    exact qz_clt 25 x qk_25 rfl (by omega) (by omega) (fun _ => hp) (fun z => absurd z (by omega))
  | succ m ih =>
    intro x acc hx hx' hp
    rw [qc_x] at hp
    refine qz_clt 25 x qk_25 rfl (by omega) (by omega) (fun z => absurd z (by omega)) (fun _ => ⟨52, ?_⟩)
    rw [qk_m25]
    exact xw_py G hk hn (by omega) hc 51 (-25) acc (by omega) (by omega) (ih (x + 1) _ (by omega) (by omega) hp)
theorem xw_cp (G : qf_chk d L N = true) (S : xs_L L cn A B C) {post : Int32 → Prop} {k : Nat} (hk : k < L.length) {n : Int} (hn : 1 ≤ n ∧ n ≤ 500) {c : Int32} (ap : Bool) (hc : c = 0 ↔ ap = false) (hp : post (nI (qs_cnt (qf_at L k) n ap))) : wpX_countPairs post (md, cn, A, B, C, P) (nI k) (qz_i n) c := by
  have hL := (qg_1 G).2.2.1
  obtain ⟨eA, eB, eC⟩ := S.2 k hk
  have hin : vp_in (nI k) 66 := vp_in_nI (by omega) (by omega)
  have ec : (nI k).toNatClampNeg = k := nI_clamp (by omega)
  have eA' : A (nI k).toNatClampNeg = qz_i (qf_at L k).1 := by rw [ec]; exact eA
  have eB' : B (nI k).toNatClampNeg = qz_i (qf_at L k).2.1 := by rw [ec]; exact eB
  have eC' : C (nI k).toNatClampNeg = qz_i (qf_at L k).2.2 := by rw [ec]; exact eC
  have key : wX_countPairs_31 post (qz_i n) c (qz_i (qf_at L k).1) (qz_i (qf_at L k).2.1) (qz_i (qf_at L k).2.2) md cn A B C P 52 0 (-25) := by
    rw [qk_m25]
    exact xw_px G hk hn hc 51 (-25) 0 (by omega) (by omega) hp
  exact ⟨hin, nm_r eA' ⟨hin, nm_r eB' ⟨hin, nm_r eC' ⟨52, key⟩⟩⟩⟩
theorem yw_py (G : qf_chk d L N = true) (S : xs_L L cn A B C) {post : Int32 → Prop} {J7 : Int32 → Int32 → Prop} {k : Nat} (hk : k < L.length) {n x : Int} (hn : 1 ≤ n ∧ n ≤ 500) (hx : -28 ≤ x ∧ x ≤ 28) {c : Int32} {ap : Bool} (hc : c = 0 ↔ ap = false) : ∀ (m : Nat) (y : Int) (acc : Nat), y + m = 29 → -28 ≤ y → J7 (nI (qc_y (qs_p (qf_at L k) n ap) x m y acc)) (qz_i (x + 1)) → wY_found_18 post J7 (nI k) (qz_i n) c (qz_i x) md cn fi mi A B C P (m + 1) (nI acc) (qz_i y) := by
  have hL := (qg_1 G).2.2.1
  obtain ⟨eA, eB, eC⟩ := S.2 k hk
  have hin : vp_in (nI k) 64 := vp_in_nI (by omega) (by omega)
  intro m
  induction m with
  | zero =>
    intro y acc hy hy' hJ
    exact qz_clt 28 y qk_28 rfl (by omega) (by omega) (fun _ => nm_r (by rw [qk_1, qz_add]) hJ) (fun z => absurd z (by omega))
  | succ m ih =>
    intro y acc hy hy' hJ
    have vb := qs_vb G hk (x := x) (y := y) (by omega) (by omega)
    have gb := qs_gb (x := x) (y := y) (by omega) (by omega)
    have ey : qz_i y + 1 = qz_i (y + 1) := by rw [qk_1, qz_add]
    rw [qc_y] at hJ
    have yes : qs_p (qf_at L k) n ap x y = true → wY_found_18 post J7 (nI k) (qz_i n) c (qz_i x) md cn fi mi A B C P (m + 1) (nI (acc + 1)) (qz_i (y + 1)) := by
      intro z
      rw [if_pos z] at hJ
      exact ih (y + 1) (acc + 1) (by omega) (by omega) hJ
    have no : ¬ qs_p (qf_at L k) n ap x y = true → wY_found_18 post J7 (nI k) (qz_i n) c (qz_i x) md cn fi mi A B C P (m + 1) (nI acc) (qz_i (y + 1)) := by
      intro z
      rw [if_neg z] at hJ
      exact ih (y + 1) acc (by omega) (by omega) hJ
    rw [qs_p_of] at yes no
    refine qz_clt 28 y qk_28 rfl (by omega) (by omega) (fun z => absurd z (by omega)) (fun _ => ⟨hin, hin, hin, nm_r (e' := qz_i (qf_val (qf_at L k) x y)) (by rw [nI_clamp (by omega), eA, eB, eC]; simp only [qz_mul, qz_add]; rfl) ?_⟩)
    refine qz_ceq (qf_val (qf_at L k) x y) n rfl rfl (by omega) (by omega) (fun z => ?_) (fun z => nm_r ey (no (fun w => z w.1)))
    by_cases c0 : c = 0
    · exact br_t c0 (nm_r (nI_1 acc) (nm_r ey (yes ⟨z, Or.inl (hc.mp c0)⟩)))
    · refine br_f c0 (yw_div (ql_of (by omega) (by omega)) (ql_of (by omega) (by omega)) (by omega) (by omega) ?_)
      refine ql_ceq (Nat.gcd x.natAbs y.natAbs : Nat) 1 rfl ql_k1 (by omega) (by omega) (fun w => nm_r (nI_1 acc) (nm_r ey (yes ⟨z, Or.inr (by omega)⟩))) (fun w => nm_r ey (no (fun q => ?_)))
      rcases q.2 with h | h
      · exact c0 (hc.mpr h)
      · omega
theorem yw_px (G : qf_chk d L N = true) (S : xs_L L cn A B C) {post : Int32 → Prop} {k : Nat} (hk : k < L.length) {n : Int} (hn : 1 ≤ n ∧ n ≤ 500) {c : Int32} {ap : Bool} (hc : c = 0 ↔ ap = false) : ∀ (m : Nat) (x : Int) (acc : Nat), x + m = 29 → -28 ≤ x → post (nI (qc_x (qs_p (qf_at L k) n ap) 57 (-28) m x acc)) → wY_found_7 post (nI k) (qz_i n) c md cn fi mi A B C P (m + 1) (nI acc) (qz_i x) := by
  intro m
  induction m with
  | zero =>
    intro x acc hx hx' hp
    exact qz_clt 28 x qk_28 rfl (by omega) (by omega) (fun _ => hp) (fun z => absurd z (by omega))
  | succ m ih =>
    intro x acc hx hx' hp
    rw [qc_x] at hp
    refine qz_clt 28 x qk_28 rfl (by omega) (by omega) (fun z => absurd z (by omega)) (fun _ => ⟨58, ?_⟩)
    rw [qk_m28]
    exact yw_py G S hk hn (by omega) hc 57 (-28) acc (by omega) (by omega) (ih (x + 1) _ (by omega) (by omega) hp)
theorem yw_cp (G : qf_chk d L N = true) (S : xs_L L cn A B C) {post : Int32 → Prop} {k : Nat} (hk : k < L.length) {n : Int} (hn : 1 ≤ n ∧ n ≤ 500) {c : Int32} (ap : Bool) (hc : c = 0 ↔ ap = false) (hp : post (nI (qs_cnt (qf_at L k) n ap))) : wpY_found post (md, cn, fi, mi, A, B, C, P) (nI k) (qz_i n) c := by
  rw [← qs_far G hk hn.2] at hp
  refine ⟨58, ?_⟩
  rw [qk_m28]
  exact yw_px G S hk hn hc 57 (-28) 0 (by omega) (by omega) hp
theorem xw_n0 {post : Int32 → Prop} {k : Int32} (h : k < 1 ∨ 500 < k) (hp : post 0) : wpX_isAllowedNumber post k := by
  unfold wpX_isAllowedNumber
  by_cases h0 : k < 1
  · exact br_t h0 hp
  · exact br_f h0 (br_t (h.resolve_left h0) hp)
theorem xw_n1 {post : Int32 → Prop} {k : Int32} (h : ¬ k < 1) (h' : ¬ 500 < k) (hp : post 1) : wpX_isAllowedNumber post k := by
  unfold wpX_isAllowedNumber
  exact br_f h (br_f h' hp)
theorem yw_n1 {post : Int32 → Prop} {k : Int32} (h : k < 1 ∨ 500 < k) (hp : post 1) : wpY_noNumber post (md, cn, fi, mi, A, B, C, P) k := by
  unfold wpY_noNumber
  dsimp only
  by_cases h0 : k < 1
  · exact br_t h0 hp
  · exact br_f h0 (br_f (Int32.not_le.mpr (h.resolve_left h0)) hp)
theorem yw_n0 {post : Int32 → Prop} {k : Int32} (h : ¬ k < 1) (h' : ¬ 500 < k) (hp : post 0) : wpY_noNumber post (md, cn, fi, mi, A, B, C, P) k := by
  unfold wpY_noNumber
  dsimp only
  exact br_f h (br_t (Int32.not_lt.mp h') hp)
theorem qs_num {k : Int32} (h : ¬ k < 1) (h' : ¬ 500 < k) : ∃ n : Int, k = qz_i n ∧ 1 ≤ n ∧ n ≤ 500 := by
  have e := qz_self k
  have b1 := k.le_toInt
  have b2 := k.toInt_lt
  generalize k.toInt = z at e b1 b2
  subst e
  rw [qk_1, qz_lt (by omega) (by omega)] at h
  rw [qk_500, qz_lt (by omega) (by omega)] at h'
  exact ⟨z, rfl, by omega, by omega⟩
end
section
variable {d : Nat} {L : List qf_F} {N : Nat} {md md' : Int32} {fi mi : Int64} {A B C P A' B' C' P' : Nat → Int32}
theorem xy_all (G : qf_chk d L N = true) (S : xs_L L (nI L.length) A B C) (S' : xs_L L (nI L.length) A' B' C') {n : Int} (hn : 1 ≤ n ∧ n ≤ 500) : ∀ (m k : Nat) (c : Int32), k + m = L.length → ∃ r, (∀ post : Int32 → Prop, post r → wX_all_14 post (qz_i n) md (nI L.length) A B C P (m + 1) c (nI k)) ∧ (∀ post : Int32 → Prop, post r → wY_all_15 post (qz_i n) md' (nI L.length) fi mi A' B' C' P' (m + 1) c (nI k)) := by
  have hL := (qg_1 G).2.2.1
  have h0 : (0 : Int32) = 0 ↔ false = false := ⟨fun _ => rfl, fun _ => rfl⟩
  intro m
  induction m with
  | zero =>
    intro k c hk
    exact ⟨c, fun post hp => pk_le L.length k (fun _ => hp) (fun z => absurd z (by omega)), fun post hp => pk_le L.length k (fun _ => hp) (fun z => absurd z (by omega))⟩
  | succ m ih =>
    intro k c hk
    obtain ⟨r, hX, hY⟩ := ih (k + 1) (c + nI (qs_cnt (qf_at L k) n false)) (by omega)
    exact ⟨r, fun post hp => pk_le L.length k (fun z => absurd z (by omega)) (fun _ => xw_cp G S (by omega) hn false h0 (nm_e (nm_r (nI_1 k) (hX post hp)))), fun post hp => pk_le L.length k (fun z => absurd z (by omega)) (fun _ => yw_cp G S' (by omega) hn false h0 (nm_e (nm_r (nI_1 k) (hY post hp))))⟩
theorem xy_least (G : qf_chk d L N = true) (S : xs_L L (nI L.length) A B C) (S' : xs_L L (nI L.length) A' B' C') {n : Int} (hn : 1 ≤ n ∧ n ≤ 500) : ∀ (m k : Nat), k + m = L.length → ∃ r, (∀ post : Int32 → Prop, post r → wX_least_12 post (qz_i n) md (nI L.length) A B C P (m + 1) (nI k)) ∧ (∀ post : Int32 → Prop, post r → wY_least_13 post (qz_i n) md' (nI L.length) fi mi A' B' C' P' (m + 1) (nI k)) := by
  have hL := (qg_1 G).2.2.1
  have h1 : (1 : Int32) = 0 ↔ true = false := by decide
  intro m
  induction m with
  | zero =>
    intro k hk
    exact ⟨-1000001, fun post hp => pk_le L.length k (fun _ => hp) (fun z => absurd z (by omega)), fun post hp => pk_le L.length k (fun _ => hp) (fun z => absurd z (by omega))⟩
  | succ m ih =>
    intro k hk
    by_cases h : nI (qs_cnt (qf_at L k) n true) ≤ 0
    · obtain ⟨r, hX, hY⟩ := ih (k + 1) (by omega)
      exact ⟨r, fun post hp => pk_le L.length k (fun z => absurd z (by omega)) (fun _ => xw_cp G S (by omega) hn true h1 (br_t h (nm_r (nI_1 k) (hX post hp)))), fun post hp => pk_le L.length k (fun z => absurd z (by omega)) (fun _ => yw_cp G S' (by omega) hn true h1 (br_t h (nm_r (nI_1 k) (hY post hp))))⟩
    · exact ⟨nI k, fun post hp => pk_le L.length k (fun z => absurd z (by omega)) (fun _ => xw_cp G S (by omega) hn true h1 (br_f h hp)), fun post hp => pk_le L.length k (fun z => absurd z (by omega)) (fun _ => yw_cp G S' (by omega) hn true h1 (br_f h hp))⟩
end
end
section
/-! the relation and what is owed -/
theorem qs_disc {v : Int32} (c1 : ¬ v < 3) (c2 : ¬ 400 < v) (c3 : ¬ v - v / 4 * 4 = 1) (c4 : ¬ v - v / 4 * 4 = 2) : ∃ e : Nat, v = qz_i e ∧ 3 ≤ e ∧ e ≤ 400 ∧ (e % 4 = 0 ∨ e % 4 = 3) := by
  have e := qz_self v
  have b1 := v.le_toInt
  have b2 := v.toInt_lt
  generalize v.toInt = z at e b1 b2
  subst e
  rw [qk_3, qz_lt (by omega) (by omega)] at c1
  rw [qk_400, qz_lt (by omega) (by omega)] at c2
  rw [qk_4, qz_rem (by omega) (by omega), Int.tmod_eq_emod_of_nonneg (by omega)] at c3 c4
  rw [qk_1, qz_eq (by omega) (by omega)] at c3
  rw [qk_2, qz_eq (by omega) (by omega)] at c4
  exact ⟨z.toNat, by congr 1; omega, by omega, by omega, by omega⟩
theorem qs_ab {v w : Int32} (c1 : ¬ v < 1) (c2 : ¬ 1000 < v) (c3 : ¬ w < (-1000)) (c4 : w ≤ 1000) : ∃ a b : Int, v = qz_i a ∧ w = qz_i b ∧ (1 ≤ a ∧ a ≤ 1000) ∧ (-1000 ≤ b ∧ b ≤ 1000) := by
  have e := qz_self v
  have b1 := v.le_toInt
  have b2 := v.toInt_lt
  generalize v.toInt = z at e b1 b2
  subst e
  have e := qz_self w
  have b3 := w.le_toInt
  have b4 := w.toInt_lt
  generalize w.toInt = y at e b3 b4
  subst e
  rw [qk_1, qz_lt (by omega) (by omega)] at c1
  rw [qk_1000, qz_lt (by omega) (by omega)] at c2
  rw [qk_m1000, qz_lt (by omega) (by omega)] at c3
  rw [qk_1000, qz_le (by omega) (by omega)] at c4
  exact ⟨z, y, rfl, rfl, by omega, by omega⟩
theorem qs_exp {w : Int32} (c3 : ¬ w < (-1000)) (c4 : w ≤ 1000) : (0 ≤ w → ∃ e : Nat, w = nI e ∧ e ≤ 1000) ∧ (¬ 0 ≤ w → ∃ e : Nat, -w = nI e ∧ e ≤ 1000) := by
  have e := qz_self w
  have b3 := w.le_toInt
  have b4 := w.toInt_lt
  generalize w.toInt = y at e b3 b4
  subst e
  rw [qk_m1000, qz_lt (by omega) (by omega)] at c3
  rw [qk_1000, qz_le (by omega) (by omega)] at c4
  rw [qk_0, qz_le (by omega) (by omega)]
  refine ⟨fun h => ⟨y.toNat, ?_, by omega⟩, fun h => ⟨(-y).toNat, ?_, by omega⟩⟩
  · rw [qz_nI]
    congr 1
    omega
  · rw [qz_neg, qz_nI]
    congr 1
    omega
def i_Rel (_ : Nat) (u : SX) (v : SY) : Prop := ∃ (d : Nat) (L : List qf_F) (N : Nat), (0 < d ∧ d ≤ 400) ∧ qf_chk d L N = true ∧ xs_S d L N u ∧ ys_S d L N v
theorem i_up {k : Nat} {u : SX} {v : SY} (h : i_Rel k u v) : i_Rel (k + 3) u v := h
theorem i_vc0 : wpX_init (fun u => wpY_init (fun v => i_Rel 0 u v)) := by
  obtain ⟨L, N, G⟩ := qf_ex 3 (by omega) (by omega) (Or.inr rfl)
  unfold wpX_init
  rw [show (3 : Int32) = qz_i ((3 : Nat) : Int) from qk_3]
  refine xw_list G (by omega) (fun cn A B C S => ?_)
  refine xw_fill G (by omega) S (fun pr Q => ?_)
  dsimp only
  unfold wpY_init
  rw [show (3 : Int32) = qz_i ((3 : Nat) : Int) from qk_3]
  refine yw_list G (by omega) (fun cn' fi mi A' B' C' P' S' Q' => ?_)
  have e1 := S.1
  have e2 := S'.1
  subst e1 e2
  exact ⟨3, L, N, by omega, G, ⟨A, B, C, pr, rfl, S, Q⟩, ⟨fi, mi, A', B', C', P', rfl, S', Q'⟩⟩
theorem i_vc_discriminant {k : Nat} {u : SX} {v : SY} (I : i_Rel k u v) (hk : k + 3 ≤ 1536) (v1 : Int32) : wpX_discriminant (fun r u' => wpY_discriminant (fun r' v' => r' = r ∧ i_Rel (k + 3) u' v') v v1) u v1 := by
  have I' : i_Rel (k + 3) u v := I
  obtain ⟨d, L, N, hd, G, ⟨A, B, C, P, rfl, S, Q⟩, ⟨fi, mi, A', B', C', P', rfl, S', Q'⟩⟩ := I
  unfold wpX_discriminant wpY_discriminant
  dsimp only
  by_cases c1 : v1 < 3
  · exact br_t c1 (br_t c1 ⟨rfl, I'⟩)
  by_cases c2 : 400 < v1
  · exact br_f c1 (br_t c2 (br_f c1 (br_t c2 ⟨rfl, I'⟩)))
  by_cases c3 : v1 - v1 / 4 * 4 = 1
  · exact br_f c1 (br_f c2 ⟨by decide, br_t c3 (br_f c1 (br_f c2 ⟨by decide, br_t c3 ⟨rfl, I'⟩⟩))⟩)
  by_cases c4 : v1 - v1 / 4 * 4 = 2
  · exact br_f c1 (br_f c2 ⟨by decide, br_f c3 ⟨by decide, br_t c4 (br_f c1 (br_f c2 ⟨by decide, br_f c3 ⟨by decide, br_t c4 ⟨rfl, I'⟩⟩⟩))⟩⟩)
  obtain ⟨e, rfl, h1, h2, h3⟩ := qs_disc c1 c2 c3 c4
  obtain ⟨L2, N2, G2⟩ := qf_ex e h1 h2 h3
  refine br_f c1 (br_f c2 ⟨by decide, br_f c3 ⟨by decide, br_f c4 ?_⟩⟩)
  refine xw_list G2 (by omega) (fun cn A2 B2 C2 S2 => ?_)
  refine xw_fill G2 (by omega) S2 (fun pr Q2 => ?_)
  refine br_f c1 (br_f c2 ⟨by decide, br_f c3 ⟨by decide, br_f c4 ?_⟩⟩)
  refine yw_list G2 (by omega) (fun cn' fi' mi' A3 B3 C3 P3 S3 Q3 => ?_)
  have e1 := S2.1
  have e2 := S3.1
  subst e1 e2
  exact ⟨rfl, e, L2, N2, by omega, G2, ⟨A2, B2, C2, pr, rfl, S2, Q2⟩, ⟨fi', mi', A3, B3, C3, P3, rfl, S3, Q3⟩⟩
theorem i_vc_classes {k : Nat} {u : SX} {v : SY} (I : i_Rel k u v) (hk : k + 3 ≤ 1536) : wpX_classes (fun r => wpY_classes (fun r' => r' = r ∧ i_Rel (k + 3) u v) v) u := by
  have I' : i_Rel (k + 3) u v := I
  obtain ⟨d, L, N, hd, G, ⟨A, B, C, P, rfl, S, Q⟩, ⟨fi, mi, A', B', C', P', rfl, S', Q'⟩⟩ := I
  exact ⟨rfl, I'⟩
theorem i_vc_reduced {k : Nat} {u : SX} {v : SY} (I : i_Rel k u v) (hk : k + 3 ≤ 1536) (v1 : Int32) (v2 : Int32) : wpX_reduced (fun r => wpY_reduced (fun r' => r' = r ∧ i_Rel (k + 3) u v) v v1 v2) u v1 v2 := by
  have I' : i_Rel (k + 3) u v := I
  obtain ⟨d, L, N, hd, G, ⟨A, B, C, P, rfl, S, Q⟩, ⟨fi, mi, A', B', C', P', rfl, S', Q'⟩⟩ := I
  have hL := (qg_1 G).2.2.1
  unfold wpX_reduced wpY_reduced
  dsimp only
  rcases pk_ix v1 (show L.length < 2 ^ 31 by omega) with h | h | ⟨i, hi, rfl⟩
  · exact xw_c0 (Or.inl h) (br_t rfl (yw_c1 (Or.inl h) (br_f (by decide) ⟨rfl, I'⟩)))
  · exact xw_c0 (Or.inr h) (br_t rfl (yw_c1 (Or.inr h) (br_f (by decide) ⟨rfl, I'⟩)))
  · obtain ⟨a1, a2, a3⟩ := S.2 i hi
    obtain ⟨y1, y2, y3⟩ := S'.2 i hi
    have hin : vp_in (nI i) 66 := vp_in_nI (by omega) (by omega)
    have hin' : vp_in (nI i) 64 := vp_in_nI (by omega) (by omega)
    have ec : (nI i).toNatClampNeg = i := nI_clamp (by omega)
    have hi' : L.length < 2147483648 := by omega
    refine xw_c1 hi hi' (br_f (by decide) ?_)
    by_cases c0 : v2 < 0
    · exact br_t c0 (yw_c0 hi hi' (br_t rfl (br_t c0 ⟨rfl, I'⟩)))
    by_cases c2 : 2 < v2
    · exact br_f c0 (br_t c2 (yw_c0 hi hi' (br_t rfl (br_f c0 (br_f (Int32.not_le.mpr c2) ⟨rfl, I'⟩)))))
    have c2' := Int32.not_lt.mp c2
    refine br_f c0 (br_f c2 (br_c (fun e0 => ⟨hin, yw_c0 hi hi' (br_t rfl (br_f c0 (br_t c2' (br_t e0 ⟨hin', ?_, I'⟩))))⟩) (fun e0 => br_c (fun e1 => ⟨hin, yw_c0 hi hi' (br_t rfl (br_f c0 (br_t c2' (br_f e0 (br_t e1 ⟨hin', ?_, I'⟩)))))⟩) (fun e1 => br_c (fun e2 => ⟨hin, yw_c0 hi hi' (br_t rfl (br_f c0 (br_t c2' (br_f e0 (br_f e1 ⟨hin', ?_, I'⟩)))))⟩) (fun _ => trivial)))))
    · rw [ec, a1, y1]
    · rw [ec, a2, y2]
    · rw [ec, a3, y3]
theorem i_vc_classOf {k : Nat} {u : SX} {v : SY} (I : i_Rel k u v) (hk : k + 3 ≤ 1536) (v1 : Int32) (v2 : Int32) : wpX_classOf (fun r => wpY_classOf (fun r' => r' = r ∧ i_Rel (k + 3) u v) v v1 v2) u v1 v2 := by
  have I' : i_Rel (k + 3) u v := I
  obtain ⟨d, L, N, hd, G, ⟨A, B, C, P, rfl, S, Q⟩, ⟨fi, mi, A', B', C', P', rfl, S', Q'⟩⟩ := I
  unfold wpX_classOf wpY_classOf
  dsimp only
  by_cases c1 : v1 < 1
  · exact br_t c1 (br_t c1 ⟨rfl, I'⟩)
  by_cases c2 : 1000 < v1
  · exact br_f c1 (br_t c2 (br_f c1 (br_t c2 ⟨rfl, I'⟩)))
  by_cases c3 : v2 < (-1000)
  · exact br_f c1 (br_f c2 (br_t c3 (br_f c1 (br_f c2 (br_t c3 ⟨rfl, I'⟩)))))
  by_cases c4 : v2 ≤ 1000
  · obtain ⟨a, b, rfl, rfl, ha, hb⟩ := qs_ab c1 c2 c3 c4
    refine br_f c1 (br_f c2 (br_f c3 (br_t c4 ?_)))
    refine xw_fcl G hd S rfl rfl (by omega) (by omega) ?_
    refine br_f c1 (br_f c2 (br_f c3 (br_t c4 ?_)))
    refine yw_form hd (ql_of (by omega) (by omega)) (ql_of (by omega) (by omega)) (by omega) (by omega) (fun hz hg => ?_) (fun hz => ?_)
    · obtain ⟨_, t4, _⟩ := qm_third_nz (by omega) hz
      have q := qm_r3 G hd.1 hd.2 ha.1 ha.2 t4 ((qm_g3 _ _ _).mp hg)
      rcases qm_fcl_range G 1000 a b with h | ⟨i, hi, h⟩
      · rw [h] at q
        exact absurd q (by decide)
      · have ef : qf_fcl d L a b = i := by
          unfold qf_fcl
          rw [if_neg hz]
          exact h
        refine br_f (by decide) (yw_find G hd S' (ql_of (by omega) (by omega)) (ql_of (by omega) (by omega)) (by omega) (by omega) t4 h ⟨?_, I'⟩)
        rw [ef, qz_nI]
    · have ef : qf_fcl d L a b = qf_NO := by
        unfold qf_fcl
        by_cases h : qf_third d a b = 0
        · rw [if_pos h]
        · rw [if_neg h]
          rcases qm_fcl_range G 1000 a b with h2 | ⟨i, hi, h2⟩
          · exact h2
          · exfalso
            obtain ⟨_, t4, _⟩ := qm_third_nz (by omega) h
            have hp := qm_r1 G hd.1 1000 a b _ ha.1 t4 (by rw [h2]; unfold qf_NO; omega)
            rcases hz with z | z
            · exact h z
            · exact z ((qm_g3 _ _ _).mpr hp)
      refine br_t rfl ⟨?_, I'⟩
      rw [ef]
      exact qk_m1000001
  · exact br_f c1 (br_f c2 (br_f c3 (br_f c4 (br_f c1 (br_f c2 (br_f c3 (br_f c4 ⟨rfl, I'⟩)))))))
theorem i_vc_neutral {k : Nat} {u : SX} {v : SY} (I : i_Rel k u v) (hk : k + 3 ≤ 1536) : wpX_neutral (fun r => wpY_neutral (fun r' => r' = r ∧ i_Rel (k + 3) u v) v) u := by
  have I' : i_Rel (k + 3) u v := I
  obtain ⟨d, L, N, hd, G, ⟨A, B, C, P, rfl, S, Q⟩, ⟨fi, mi, A', B', C', P', rfl, S', Q'⟩⟩ := I
  exact yw_neutral G S' ⟨rfl, I'⟩
theorem i_vc_product {k : Nat} {u : SX} {v : SY} (I : i_Rel k u v) (hk : k + 3 ≤ 1536) (v1 : Int32) (v2 : Int32) : wpX_product (fun r => wpY_product (fun r' => r' = r ∧ i_Rel (k + 3) u v) v v1 v2) u v1 v2 := by
  have I' : i_Rel (k + 3) u v := I
  obtain ⟨d, L, N, hd, G, ⟨A, B, C, P, rfl, S, Q⟩, ⟨fi, mi, A', B', C', P', rfl, S', Q'⟩⟩ := I
  have hL := (qg_1 G).2.2.1
  have hi' : L.length < 2147483648 := by omega
  have bad1 : v1 < 0 ∨ nI L.length ≤ v1 → wpX_product (fun r => wpY_product (fun r' => r' = r ∧ i_Rel (k + 3) (qz_i d, nI L.length, A, B, C, P) (qz_i d, nI L.length, fi, mi, A', B', C', P')) (qz_i d, nI L.length, fi, mi, A', B', C', P') v1 v2) (qz_i d, nI L.length, A, B, C, P) v1 v2 := by
    intro h
    unfold wpX_product wpY_product
    dsimp only
    exact xw_c0 h (br_t rfl (yw_c1 h (br_f (by decide) ⟨rfl, I'⟩)))
  rcases pk_ix v1 (show L.length < 2 ^ 31 by omega) with h | h | ⟨i, hi, rfl⟩
  · exact bad1 (Or.inl h)
  · exact bad1 (Or.inr h)
  · have bad2 : v2 < 0 ∨ nI L.length ≤ v2 → wpX_product (fun r => wpY_product (fun r' => r' = r ∧ i_Rel (k + 3) (qz_i d, nI L.length, A, B, C, P) (qz_i d, nI L.length, fi, mi, A', B', C', P')) (qz_i d, nI L.length, fi, mi, A', B', C', P') (nI i) v2) (qz_i d, nI L.length, A, B, C, P) (nI i) v2 := by
      intro h
      unfold wpX_product wpY_product
      dsimp only
      exact xw_c1 hi hi' (br_f (by decide) (xw_c0 h (br_t rfl (yw_c0 hi hi' (br_t rfl (yw_c1 h (br_f (by decide) ⟨rfl, I'⟩)))))))
    rcases pk_ix v2 (show L.length < 2 ^ 31 by omega) with h | h | ⟨j, hj, rfl⟩
    · exact bad2 (Or.inl h)
    · exact bad2 (Or.inr h)
    · obtain ⟨q1, q2⟩ := yw_at G Q' hi hj
      refine xw_product G Q hi hj ?_
      unfold wpY_product
      dsimp only
      exact yw_c0 hi hi' (br_t rfl (yw_c0 hj hi' (br_t rfl ⟨q1, q2, I'⟩)))
theorem i_vc_inverse {k : Nat} {u : SX} {v : SY} (I : i_Rel k u v) (hk : k + 3 ≤ 1536) (v1 : Int32) : wpX_inverse (fun r => wpY_inverse (fun r' => r' = r ∧ i_Rel (k + 3) u v) v v1) u v1 := by
  have I' : i_Rel (k + 3) u v := I
  obtain ⟨d, L, N, hd, G, ⟨A, B, C, P, rfl, S, Q⟩, ⟨fi, mi, A', B', C', P', rfl, S', Q'⟩⟩ := I
  have hL := (qg_1 G).2.2.1
  have bad1 : v1 < 0 ∨ nI L.length ≤ v1 → wpX_inverse (fun r => wpY_inverse (fun r' => r' = r ∧ i_Rel (k + 3) (qz_i d, nI L.length, A, B, C, P) (qz_i d, nI L.length, fi, mi, A', B', C', P')) (qz_i d, nI L.length, fi, mi, A', B', C', P') v1) (qz_i d, nI L.length, A, B, C, P) v1 := by
    intro h
    unfold wpX_inverse wpY_inverse
    dsimp only
    exact xw_c0 h (br_t rfl (yw_c1 h (br_f (by decide) ⟨rfl, I'⟩)))
  rcases pk_ix v1 (show L.length < 2 ^ 31 by omega) with h | h | ⟨i, hi, rfl⟩
  · exact bad1 (Or.inl h)
  · exact bad1 (Or.inr h)
  · exact xw_inv G hd S hi (yw_inv G S' Q' hi ⟨rfl, I'⟩)
theorem i_vc_power {k : Nat} {u : SX} {v : SY} (I : i_Rel k u v) (hk : k + 3 ≤ 1536) (v1 : Int32) (v2 : Int32) : wpX_power (fun r => wpY_power (fun r' => r' = r ∧ i_Rel (k + 3) u v) v v1 v2) u v1 v2 := by
  have I' : i_Rel (k + 3) u v := I
  obtain ⟨d, L, N, hd, G, ⟨A, B, C, P, rfl, S, Q⟩, ⟨fi, mi, A', B', C', P', rfl, S', Q'⟩⟩ := I
  have hL := (qg_1 G).2.2.1
  have hi' : L.length < 2147483648 := by omega
  unfold wpX_power wpY_power
  dsimp only
  rcases pk_ix v1 (show L.length < 2 ^ 31 by omega) with h | h | ⟨i, hi, rfl⟩
  · exact xw_c0 (Or.inl h) (br_t rfl (yw_c1 (Or.inl h) (br_f (by decide) ⟨rfl, I'⟩)))
  · exact xw_c0 (Or.inr h) (br_t rfl (yw_c1 (Or.inr h) (br_f (by decide) ⟨rfl, I'⟩)))
  · refine xw_c1 hi hi' (br_f (by decide) ?_)
    by_cases c1 : v2 < (-1000)
    · exact br_t c1 (yw_c0 hi hi' (br_t rfl (br_t c1 ⟨rfl, I'⟩)))
    by_cases c2 : v2 ≤ 1000
    · obtain ⟨e1, e2⟩ := qs_exp c1 c2
      by_cases c3 : 0 ≤ v2
      · obtain ⟨e, he, he2⟩ := e1 c3
        exact br_f c1 (br_t c2 (br_t c3 (xw_rep G Q he hi he2 (yw_c0 hi hi' (br_t rfl (br_f c1 (br_t c2 (br_f (Int32.not_lt.mpr c3) (yw_times G S' Q' he hi he2 ⟨rfl, I'⟩)))))))))
      · obtain ⟨e, he, he2⟩ := e2 c3
        have hv := (qg_inv G hi).2.1
        exact br_f c1 (br_t c2 (br_f c3 (xw_inv G hd S hi (xw_rep G Q he hv he2 (yw_c0 hi hi' (br_t rfl (br_f c1 (br_t c2 (br_t (Int32.not_le.mp c3) (yw_inv G S' Q' hi (yw_times G S' Q' he hv he2 ⟨rfl, I'⟩)))))))))))
    · exact br_f c1 (br_f c2 (yw_c0 hi hi' (br_t rfl (br_f c1 (br_f c2 ⟨rfl, I'⟩)))))
theorem i_vc_order {k : Nat} {u : SX} {v : SY} (I : i_Rel k u v) (hk : k + 3 ≤ 1536) (v1 : Int32) : wpX_order (fun r => wpY_order (fun r' => r' = r ∧ i_Rel (k + 3) u v) v v1) u v1 := by
  have I' : i_Rel (k + 3) u v := I
  obtain ⟨d, L, N, hd, G, ⟨A, B, C, P, rfl, S, Q⟩, ⟨fi, mi, A', B', C', P', rfl, S', Q'⟩⟩ := I
  have hL := (qg_1 G).2.2.1
  have hi' : L.length < 2147483648 := by omega
  unfold wpX_order wpY_order
  dsimp only
  rcases pk_ix v1 (show L.length < 2 ^ 31 by omega) with h | h | ⟨i, hi, rfl⟩
  · exact xw_c0 (Or.inl h) (br_t rfl (yw_c1 (Or.inl h) (br_f (by decide) ⟨rfl, I'⟩)))
  · exact xw_c0 (Or.inr h) (br_t rfl (yw_c1 (Or.inr h) (br_f (by decide) ⟨rfl, I'⟩)))
  · obtain ⟨_, _, _, _, t, ht, h0⟩ := qg_inv G hi
    obtain ⟨r, hX, hY⟩ := xy_order (md := qz_i d) (md' := qz_i d) (cn := nI L.length) (fi := fi) (mi := mi) (A := A) (B := B) (C := C) (A' := A') (B' := B') (C' := C') G Q Q' hi t i 1 hi h0 (by omega)
    exact xw_c1 hi hi' (br_f (by decide) ⟨t + 1, hX _ (yw_c0 hi hi' (br_t rfl (yw_neutral G S' ⟨t + 1, hY _ ⟨rfl, I'⟩⟩)))⟩)
theorem i_vc_roots {k : Nat} {u : SX} {v : SY} (I : i_Rel k u v) (hk : k + 3 ≤ 1536) (v1 : Int32) : wpX_roots (fun r => wpY_roots (fun r' => r' = r ∧ i_Rel (k + 3) u v) v v1) u v1 := by
  have I' : i_Rel (k + 3) u v := I
  obtain ⟨d, L, N, hd, G, ⟨A, B, C, P, rfl, S, Q⟩, ⟨fi, mi, A', B', C', P', rfl, S', Q'⟩⟩ := I
  unfold wpX_roots wpY_roots
  dsimp only
  by_cases c1 : v1 < 1
  · exact br_t c1 (br_t c1 ⟨rfl, I'⟩)
  by_cases c2 : v1 ≤ 1000
  · obtain ⟨a, b, e, _, ha, _⟩ := qs_ab (w := 0) c1 (Int32.not_lt.mpr c2) (by decide) (by decide)
    obtain ⟨m, rfl⟩ : ∃ m : Nat, a = m := ⟨a.toNat, by omega⟩
    rw [← qz_nI] at e
    subst e
    obtain ⟨r, hX, hY⟩ := xy_roots (md := qz_i d) (md' := qz_i d) (fi := fi) (mi := mi) (A := A) (B := B) (C := C) G Q S' Q' (show m ≤ 1000 by omega) L.length 0 0 (by omega)
    exact br_f c1 (br_t c2 ⟨L.length + 1, hX _ (br_f c1 (br_t c2 (yw_neutral G S' ⟨L.length + 1, hY _ ⟨rfl, I'⟩⟩)))⟩)
  · exact br_f c1 (br_f c2 (br_f c1 (br_f c2 ⟨rfl, I'⟩)))
theorem i_vc_squares {k : Nat} {u : SX} {v : SY} (I : i_Rel k u v) (hk : k + 3 ≤ 1536) : wpX_squares (fun r => wpY_squares (fun r' => r' = r ∧ i_Rel (k + 3) u v) v) u := by
  have I' : i_Rel (k + 3) u v := I
  obtain ⟨d, L, N, hd, G, ⟨A, B, C, P, rfl, S, Q⟩, ⟨fi, mi, A', B', C', P', rfl, S', Q'⟩⟩ := I
  obtain ⟨r, hX, hY⟩ := xy_squares (md := qz_i d) (md' := qz_i d) (fi := fi) (mi := mi) (A := A) (B := B) (C := C) (A' := A') (B' := B') (C' := C') G Q Q' L.length 0 0 (by omega)
  exact ⟨L.length + 1, hX _ ⟨L.length + 1, hY _ ⟨rfl, I'⟩⟩⟩
theorem i_vc_gives {k : Nat} {u : SX} {v : SY} (I : i_Rel k u v) (hk : k + 3 ≤ 1536) (v1 : Int32) (v2 : Int32) : wpX_gives (fun r => wpY_gives (fun r' => r' = r ∧ i_Rel (k + 3) u v) v v1 v2) u v1 v2 := by
  have I' : i_Rel (k + 3) u v := I
  obtain ⟨d, L, N, hd, G, ⟨A, B, C, P, rfl, S, Q⟩, ⟨fi, mi, A', B', C', P', rfl, S', Q'⟩⟩ := I
  have hL := (qg_1 G).2.2.1
  have hi' : L.length < 2147483648 := by omega
  have hc : (0 : Int32) = 0 ↔ false = false := ⟨fun _ => rfl, fun _ => rfl⟩
  unfold wpX_gives wpY_gives
  dsimp only
  rcases pk_ix v1 (show L.length < 2 ^ 31 by omega) with h | h | ⟨i, hi, rfl⟩
  · exact xw_c0 (Or.inl h) (br_t rfl (yw_c1 (Or.inl h) (br_f (by decide) ⟨rfl, I'⟩)))
  · exact xw_c0 (Or.inr h) (br_t rfl (yw_c1 (Or.inr h) (br_f (by decide) ⟨rfl, I'⟩)))
  · refine xw_c1 hi hi' (br_f (by decide) ?_)
    by_cases b : v2 < 1 ∨ 500 < v2
    · exact xw_n0 b (br_t rfl (yw_c0 hi hi' (br_t rfl (yw_n1 b (br_f (by decide) ⟨rfl, I'⟩)))))
    · have b1 : ¬ v2 < 1 := fun z => b (Or.inl z)
      have b2 : ¬ 500 < v2 := fun z => b (Or.inr z)
      obtain ⟨n, rfl, hn⟩ := qs_num b1 b2
      exact xw_n1 b1 b2 (br_f (by decide) (xw_cp G S hi hn false hc (yw_c0 hi hi' (br_t rfl (yw_n0 b1 b2 (br_t rfl (yw_cp G S' hi hn false hc ⟨rfl, I'⟩)))))))
theorem i_vc_givesFirst {k : Nat} {u : SX} {v : SY} (I : i_Rel k u v) (hk : k + 3 ≤ 1536) (v1 : Int32) (v2 : Int32) : wpX_givesFirst (fun r => wpY_givesFirst (fun r' => r' = r ∧ i_Rel (k + 3) u v) v v1 v2) u v1 v2 := by
  have I' : i_Rel (k + 3) u v := I
  obtain ⟨d, L, N, hd, G, ⟨A, B, C, P, rfl, S, Q⟩, ⟨fi, mi, A', B', C', P', rfl, S', Q'⟩⟩ := I
  have hL := (qg_1 G).2.2.1
  have hi' : L.length < 2147483648 := by omega
  have hc : (1 : Int32) = 0 ↔ true = false := by decide
  unfold wpX_givesFirst wpY_givesFirst
  dsimp only
  rcases pk_ix v1 (show L.length < 2 ^ 31 by omega) with h | h | ⟨i, hi, rfl⟩
  · exact xw_c0 (Or.inl h) (br_t rfl (yw_c1 (Or.inl h) (br_f (by decide) ⟨rfl, I'⟩)))
  · exact xw_c0 (Or.inr h) (br_t rfl (yw_c1 (Or.inr h) (br_f (by decide) ⟨rfl, I'⟩)))
  · refine xw_c1 hi hi' (br_f (by decide) ?_)
    by_cases b : v2 < 1 ∨ 500 < v2
    · exact xw_n0 b (br_t rfl (yw_c0 hi hi' (br_t rfl (yw_n1 b (br_f (by decide) ⟨rfl, I'⟩)))))
    · have b1 : ¬ v2 < 1 := fun z => b (Or.inl z)
      have b2 : ¬ 500 < v2 := fun z => b (Or.inr z)
      obtain ⟨n, rfl, hn⟩ := qs_num b1 b2
      exact xw_n1 b1 b2 (br_f (by decide) (xw_cp G S hi hn true hc (yw_c0 hi hi' (br_t rfl (yw_n0 b1 b2 (br_t rfl (yw_cp G S' hi hn true hc ⟨rfl, I'⟩)))))))
theorem i_vc_all {k : Nat} {u : SX} {v : SY} (I : i_Rel k u v) (hk : k + 3 ≤ 1536) (v1 : Int32) : wpX_all (fun r => wpY_all (fun r' => r' = r ∧ i_Rel (k + 3) u v) v v1) u v1 := by
  have I' : i_Rel (k + 3) u v := I
  obtain ⟨d, L, N, hd, G, ⟨A, B, C, P, rfl, S, Q⟩, ⟨fi, mi, A', B', C', P', rfl, S', Q'⟩⟩ := I
  unfold wpX_all wpY_all
  dsimp only
  by_cases b : v1 < 1 ∨ 500 < v1
  · exact xw_n0 b (br_t rfl (yw_n1 b (br_f (by decide) ⟨rfl, I'⟩)))
  · have b1 : ¬ v1 < 1 := fun z => b (Or.inl z)
    have b2 : ¬ 500 < v1 := fun z => b (Or.inr z)
    obtain ⟨n, rfl, hn⟩ := qs_num b1 b2
    obtain ⟨r, hX, hY⟩ := xy_all (md := qz_i d) (md' := qz_i d) (fi := fi) (mi := mi) (P := P) (P' := P') G S S' hn L.length 0 0 (by omega)
    exact xw_n1 b1 b2 (br_f (by decide) ⟨L.length + 1, hX _ (yw_n0 b1 b2 (br_t rfl ⟨L.length + 1, hY _ ⟨rfl, I'⟩⟩))⟩)
theorem i_vc_least {k : Nat} {u : SX} {v : SY} (I : i_Rel k u v) (hk : k + 3 ≤ 1536) (v1 : Int32) : wpX_least (fun r => wpY_least (fun r' => r' = r ∧ i_Rel (k + 3) u v) v v1) u v1 := by
  have I' : i_Rel (k + 3) u v := I
  obtain ⟨d, L, N, hd, G, ⟨A, B, C, P, rfl, S, Q⟩, ⟨fi, mi, A', B', C', P', rfl, S', Q'⟩⟩ := I
  unfold wpX_least wpY_least
  dsimp only
  by_cases b : v1 < 1 ∨ 500 < v1
  · exact xw_n0 b (br_t rfl (yw_n1 b (br_f (by decide) ⟨rfl, I'⟩)))
  · have b1 : ¬ v1 < 1 := fun z => b (Or.inl z)
    have b2 : ¬ 500 < v1 := fun z => b (Or.inr z)
    obtain ⟨n, rfl, hn⟩ := qs_num b1 b2
    obtain ⟨r, hX, hY⟩ := xy_least (md := qz_i d) (md' := qz_i d) (fi := fi) (mi := mi) (P := P) (P' := P') G S S' hn L.length 0 (by omega)
    exact xw_n1 b1 b2 (br_f (by decide) ⟨L.length + 1, hX _ (yw_n0 b1 b2 (br_t rfl ⟨L.length + 1, hY _ ⟨rfl, I'⟩⟩))⟩)
end
