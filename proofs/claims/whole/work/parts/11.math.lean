/-! the mathematics of reduction -/
theorem qm_sq (b : Int) : 0 ≤ b * b := by
  rcases Int.le_total 0 b with h | h
  · exact Int.mul_nonneg h h
  · have := Int.mul_nonneg (show 0 ≤ -b by omega) (show 0 ≤ -b by omega)
    rw [Int.neg_mul_neg] at this
    exact this
theorem qm_sqle {x a : Int} (h1 : -a ≤ x) (h2 : x ≤ a) : x * x ≤ a * a := by
  have h := Int.mul_nonneg (show 0 ≤ a - x by omega) (show 0 ≤ a + x by omega)
  have e : (a - x) * (a + x) = a * a - x * x := by grind
  omega
theorem qm_pos {a c x : Int} (h : 1 ≤ a) (hx : 4 * a * c = x) (h0 : 0 < x) : 1 ≤ c := by
  rcases (show 0 < c ∨ c ≤ 0 by omega) with g | g
  · omega
  · have := Int.mul_nonneg (show 0 ≤ 4 * a by omega) (show 0 ≤ -c by omega)
    rw [Int.mul_neg] at this
    omega
theorem qm_near_b {a : Int} (b : Int) (h : 1 ≤ a) : -a < qf_near b a ∧ qf_near b a ≤ a := by
  have h1 := Int.emod_nonneg b (show 2 * a ≠ 0 by omega)
  have h2 := Int.emod_lt_of_pos b (show 0 < 2 * a by omega)
  unfold qf_near
  split <;> omega
theorem qm_near_k (a b : Int) : ∃ k, qf_near b a = b + 2 * a * k := by
  have h := Int.emod_add_mul_ediv b (2 * a)
  unfold qf_near
  split
  · refine ⟨-(b / (2 * a)) - 1, ?_⟩
    rw [Int.mul_sub, Int.mul_neg, Int.mul_one]
    omega
  · refine ⟨-(b / (2 * a)), ?_⟩
    rw [Int.mul_neg]
    omega
theorem qm_near_u {a b m k : Int} (h : 1 ≤ a) (h1 : -a < m) (h2 : m ≤ a) (hk : m = b + 2 * a * k) : qf_near b a = m := by
  obtain ⟨k', hk'⟩ := qm_near_k a b
  obtain ⟨g1, g2⟩ := qm_near_b b h
  rcases Int.lt_trichotomy k' k with c | c | c
  · obtain ⟨s, hs⟩ : ∃ s : Nat, k = k' + 1 + s := ⟨(k - 1 - k').toNat, by omega⟩
    have p : 0 ≤ 2 * a * (s : Int) := Int.mul_nonneg (by omega) (by omega)
    have e2 : 2 * a * k = 2 * a * k' + 2 * a + 2 * a * (s : Int) := by rw [hs, Int.mul_add, Int.mul_add, Int.mul_one]
    omega
  · rw [hk', hk, c]
  · obtain ⟨s, hs⟩ : ∃ s : Nat, k' = k + 1 + s := ⟨(k' - 1 - k).toNat, by omega⟩
    have p : 0 ≤ 2 * a * (s : Int) := Int.mul_nonneg (by omega) (by omega)
    have e2 : 2 * a * k' = 2 * a * k + 2 * a + 2 * a * (s : Int) := by rw [hs, Int.mul_add, Int.mul_add, Int.mul_one]
    omega
theorem qm_near_t {a b n : Int} (h : 1 ≤ a) (hn : n = b.tmod (2 * a)) : (a < n → n - 2 * a = qf_near b a) ∧ (n ≤ -a → n + 2 * a = qf_near b a) ∧ (n ≤ a → -a < n → n = qf_near b a) := by
  have h1 := Int.tmod_lt_of_pos b (show 0 < 2 * a by omega)
  have h2 := Int.lt_tmod_of_pos b (show 0 < 2 * a by omega)
  have h3 := Int.tmod_def b (2 * a)
  rw [← hn] at h1 h2 h3
  generalize b.tdiv (2 * a) = q at h3
  refine ⟨fun c => ?_, fun c => ?_, fun c c' => ?_⟩
  · exact (qm_near_u (k := -q - 1) h (by omega) (by omega) (by rw [Int.mul_sub, Int.mul_neg, Int.mul_one]; omega)).symm
  · exact (qm_near_u (k := -q + 1) h (by omega) (by omega) (by rw [Int.mul_add, Int.mul_neg, Int.mul_one]; omega)).symm
  · exact (qm_near_u (k := -q) h (by omega) (by omega) (by rw [Int.mul_neg]; omega)).symm
theorem qm_near_0 (b : Int) : qf_near b 0 = b := by
  unfold qf_near
  simp
theorem qm_third {d a b c : Int} (h : 1 ≤ a) (hc : 4 * a * c = b * b + d) : qf_third d a b = c := by
  unfold qf_third
  rw [if_neg (by omega), ← hc, if_pos (Int.mul_emod_right _ _), Int.mul_ediv_cancel_left _ (by omega)]
theorem qm_third_nz {d a b : Int} (hd : 0 < d) (h : qf_third d a b ≠ 0) : 1 ≤ a ∧ 4 * a * qf_third d a b = b * b + d ∧ 1 ≤ qf_third d a b := by
  by_cases h1 : a < 1
  · exact absurd (by unfold qf_third; rw [if_pos h1]) h
  · by_cases h2 : (b * b + d) % (4 * a) = 0
    · have e : 4 * a * qf_third d a b = b * b + d := by
        unfold qf_third
        rw [if_neg h1, if_pos h2]
        exact Int.mul_ediv_cancel' (Int.dvd_of_emod_eq_zero h2)
      have := qm_sq b
      exact ⟨by omega, e, qm_pos (by omega) e (by omega)⟩
    · exact absurd (by unfold qf_third; rw [if_neg h1, if_neg h2]) h
theorem qm_shift {d a b c k : Int} (hc : 4 * a * c = b * b + d) : 4 * a * (c + b * k + a * k * k) = (b + 2 * a * k) * (b + 2 * a * k) + d := by grind
def qm_prim (a b c : Int) : Prop := ∀ p : Int, p ∣ a → p ∣ b → p ∣ c → p ∣ 1
theorem qm_pshift {a b c : Int} (k : Int) : qm_prim a (b + 2 * a * k) (c + b * k + a * k * k) ↔ qm_prim a b c := by
  constructor
  · intro h p ⟨x, hx⟩ ⟨y, hy⟩ ⟨z, hz⟩
    exact h p ⟨x, hx⟩ ⟨y + 2 * x * k, by subst hx hy; grind⟩ ⟨z + y * k + x * k * k, by subst hx hy hz; grind⟩
  · intro h p ⟨x, hx⟩ ⟨y, hy⟩ ⟨z, hz⟩
    have hb : b = p * (y - 2 * x * k) := by subst hx; grind
    have hcc : c = p * (z - (y - 2 * x * k) * k - x * k * k) := by subst hx hb; grind
    exact h p ⟨x, hx⟩ ⟨_, hb⟩ ⟨_, hcc⟩
theorem qm_pswap {a b c : Int} (h : qm_prim c (-b) a) : qm_prim a b c := fun p ha hb hc => h p hc (Int.dvd_neg.mpr hb) ha
theorem qm_pswap' {a b c : Int} (h : qm_prim a b c) : qm_prim c (-b) a := fun p hc hb ha => h p ha (Int.dvd_neg.mp hb) hc
theorem qm_g3 (a b c : Int) : qf_g3 a b c = 1 ↔ qm_prim a b c := by
  constructor
  · intro h p ha hb hc
    have h1 : p.natAbs ∣ qf_g3 a b c := Nat.dvd_gcd (Nat.dvd_gcd (Int.natAbs_dvd_natAbs.mpr ha) (Int.natAbs_dvd_natAbs.mpr hb)) (Int.natAbs_dvd_natAbs.mpr hc)
    rw [h] at h1
    exact Int.natAbs_dvd_natAbs.mp h1
  · intro h
    have g0 : qf_g3 a b c ∣ Nat.gcd a.natAbs b.natAbs := Nat.gcd_dvd_left _ _
    have g1 : ((qf_g3 a b c : Nat) : Int).natAbs ∣ a.natAbs := Nat.dvd_trans g0 (Nat.gcd_dvd_left _ _)
    have g2 : ((qf_g3 a b c : Nat) : Int).natAbs ∣ b.natAbs := Nat.dvd_trans g0 (Nat.gcd_dvd_right _ _)
    have g3 : ((qf_g3 a b c : Nat) : Int).natAbs ∣ c.natAbs := Nat.gcd_dvd_right _ _
    have g4 := Int.natAbs_dvd_natAbs.mpr (h _ (Int.natAbs_dvd_natAbs.mp g1) (Int.natAbs_dvd_natAbs.mp g2) (Int.natAbs_dvd_natAbs.mp g3))
    exact Nat.dvd_one.mp g4
theorem qm_red (a b c : Int) : qf_red a b c = true ↔ -a < b ∧ b ≤ a ∧ (a < c ∨ (a = c ∧ 0 ≤ b)) := by
  unfold qf_red
  simp only [Bool.and_eq_true, Bool.or_eq_true, decide_eq_true_eq]
theorem qm_at_succ (f : qf_F) (t : List qf_F) (i : Nat) : qf_at (f :: t) (i + 1) = qf_at t i := rfl
theorem qm_ix (a b : Int) : ∀ (L : List qf_F) (k : Int), qf_ix L a b k = qf_NO ∨ ∃ i : Nat, i < L.length ∧ qf_ix L a b k = k + i ∧ (qf_at L i).1 = a ∧ (qf_at L i).2.1 = b := by
  intro L
  induction L with
  | nil => intro k; exact Or.inl rfl
  | cons f t ih =>
    intro k
    have st : qf_ix t a b (k + 1) = qf_NO ∨ ∃ i : Nat, i < (f :: t).length ∧ qf_ix t a b (k + 1) = k + i ∧ (qf_at (f :: t) i).1 = a ∧ (qf_at (f :: t) i).2.1 = b := by
      rcases ih (k + 1) with h | ⟨i, h1, h2, h3, h4⟩
      · exact Or.inl h
      · exact Or.inr ⟨i + 1, by rw [List.length_cons]; omega, by rw [h2]; omega, by rw [qm_at_succ]; exact h3, by rw [qm_at_succ]; exact h4⟩
    by_cases h1 : f.1 = a
    · by_cases h2 : f.2.1 = b
      · refine Or.inr ⟨0, by rw [List.length_cons]; omega, ?_, h1, h2⟩
        rw [qf_ix, if_pos h1, if_pos h2]
        omega
      · rw [qf_ix, if_pos h1, if_neg h2]
        exact st
    · rw [qf_ix, if_neg h1]
      exact st
theorem qm_at_mem {L : List qf_F} {i : Nat} (h : i < L.length) : qf_at L i ∈ L := by
  have e : qf_at L i = L[i] := by simp [qf_at, h]
  rw [e]
  exact List.getElem_mem h
/-! what a checked table says -/
section
variable {d : Nat} {L : List qf_F} {N : Nat}
theorem qg_1 (G : qf_chk d L N = true) : qf_la d 11 1 [] = L ∧ qf_ly d 20 1 [] = L ∧ L.length ≤ 31 ∧ 0 < L.length ∧ (qf_at L 0).1 = 1 := by
  simp only [qf_chk, qf_c1, Bool.and_eq_true, decide_eq_true_eq] at G
  exact G.1
theorem qg_ent (G : qf_chk d L N = true) {i : Nat} (h : i < L.length) : 1 ≤ (qf_at L i).1 ∧ (qf_at L i).1 ≤ 11 ∧ (-(qf_at L i).1 < (qf_at L i).2.1 ∧ (qf_at L i).2.1 ≤ (qf_at L i).1 ∧ ((qf_at L i).1 < (qf_at L i).2.2 ∨ ((qf_at L i).1 = (qf_at L i).2.2 ∧ 0 ≤ (qf_at L i).2.1))) ∧ 4 * (qf_at L i).1 * (qf_at L i).2.2 = (qf_at L i).2.1 * (qf_at L i).2.1 + d ∧ qf_g3 (qf_at L i).1 (qf_at L i).2.1 (qf_at L i).2.2 = 1 ∧ (qf_at L i).2.2 ≤ 120 := by
  simp only [qf_chk, Bool.and_eq_true] at G
  have g := List.all_eq_true.mp G.2.1 _ (qm_at_mem h)
  simp only [qf_ent, Bool.and_eq_true, decide_eq_true_eq, qm_red] at g
  exact g
theorem qg_comp (G : qf_chk d L N = true) {a b : Int} (h1 : 1 ≤ a) (h2 : a ≤ 11) (h3 : -a < b) (h4 : b ≤ a) (ok : qf_ok d a b = true) : 0 ≤ qf_ix L a b 0 := by
  simp only [qf_chk, Bool.and_eq_true] at G
  have g := List.all_eq_true.mp (List.all_eq_true.mp G.2.2.1 a.toNat (List.mem_range.mpr (by omega))) (b - 1 + a).toNat (List.mem_range.mpr (by omega))
  rw [show ((a.toNat : Nat) : Int) = a by omega, show 1 - a + (((b - 1 + a).toNat : Nat) : Int) = b by omega, ok] at g
  simpa using g
theorem qg_P (G : qf_chk d L N = true) {i j : Nat} (hi : i < L.length) (hj : j < L.length) : qf_P N L.length i j < L.length ∧ qf_fe d L j (qf_at L i).1 (qf_at L i).2.1 (1001 - (qf_at L j).1.toNat) (qf_at L j).1.toNat = qf_P N L.length i j ∧ qf_yk d L (qf_at L i).1 (qf_at L i).2.1 (qf_P N L.length i j) (qf_sx (qf_at L j) (qf_at L i).1 13 0) = true := by
  simp only [qf_chk, Bool.and_eq_true] at G
  have g := List.all_eq_true.mp (List.all_eq_true.mp G.2.2.2.1 i (List.mem_range.mpr hi)) j (List.mem_range.mpr hj)
  simp only [Bool.and_eq_true, decide_eq_true_eq] at g
  exact g
theorem qg_inv (G : qf_chk d L N = true) {i : Nat} (hi : i < L.length) : 0 ≤ qf_fcl d L (qf_at L i).1 (-(qf_at L i).2.1) ∧ qf_inv d L i < L.length ∧ qf_P N L.length i (qf_inv d L i) = 0 ∧ (∀ j, j < qf_inv d L i → qf_P N L.length i j ≠ 0) ∧ ∃ t, t < L.length ∧ qf_it N L.length i t i = 0 := by
  simp only [qf_chk, Bool.and_eq_true] at G
  have g := List.all_eq_true.mp G.2.2.2.2 i (List.mem_range.mpr hi)
  simp only [Bool.and_eq_true, decide_eq_true_eq] at g
  obtain ⟨g1, g2, g3, g4, g5⟩ := g
  refine ⟨g1, g2, g3, fun j hj => ?_, ?_⟩
  · have := List.all_eq_true.mp g4 j (List.mem_range.mpr hj)
    simpa using this
  · obtain ⟨t, ht, hh⟩ := List.any_eq_true.mp g5
    exact ⟨t, List.mem_range.mp ht, by simpa using hh⟩
/-! reduction ends at the class of the form -/
theorem qm_rr (G : qf_chk d L N = true) (hd : d ≤ 400) {a m c : Int} (h1 : 1 ≤ a) (hc : 4 * a * c = m * m + d) (hr : -a < m ∧ m ≤ a ∧ (a < c ∨ (a = c ∧ 0 ≤ m))) (hp : qm_prim a m c) : 0 ≤ qf_ix L a m 0 := by
  have q1 : m * m ≤ a * a := qm_sqle (by omega) (by omega)
  have q2 : a * a ≤ a * c := Int.mul_le_mul_of_nonneg_left (by omega) (by omega)
  have q3 : 4 * a * c = 4 * (a * c) := Int.mul_assoc _ _ _
  have q4 : a ≤ 11 := by
    rcases (show 11 < a ∨ a ≤ 11 by omega) with g | g
    · have : 12 * 12 ≤ a * a := Int.mul_le_mul (by omega) (by omega) (by omega) (by omega)
      omega
    · exact g
  refine qg_comp G h1 q4 hr.1 hr.2.1 ?_
  unfold qf_ok
  rw [qm_third h1 hc, (qm_red a m c).mpr hr, (qm_g3 a m c).mpr hp]
  rfl
theorem qm_r1 (G : qf_chk d L N = true) (hd : 0 < d) : ∀ (n : Nat) (a b c : Int), 1 ≤ a → 4 * a * c = b * b + d → qf_fc d L n a b ≠ qf_NO → qm_prim a b c := by
  intro n
  induction n with
  | zero => intro a b c _ _ h; exact absurd rfl h
  | succ n ih =>
    intro a b c h1 hc hne
    obtain ⟨k, hk⟩ := qm_near_k a b
    have hs := qm_shift (k := k) hc
    refine (qm_pshift k).mp ?_
    rw [← hk] at hs ⊢
    generalize c + b * k + a * k * k = c' at hs ⊢
    have ht := qm_third h1 hs
    rw [qf_fc, ht] at hne
    generalize qf_near b a = m at hs ht hne ⊢
    have hm := qm_sq m
    split at hne
    · rcases qm_ix a m L 0 with h | ⟨i, hi, he, ha, hb⟩
      · exact absurd h hne
      · obtain ⟨e1, e2, e3, e4, e5, e6⟩ := qg_ent G hi
        rw [ha, hb] at e4 e5
        have := qm_third h1 e4
        rw [ht] at this
        rw [this]
        exact (qm_g3 _ _ _).mp e5
    · exact qm_pswap (ih c' (-m) a (qm_pos h1 hs (by omega)) (by rw [Int.neg_mul_neg, ← hs]; grind) hne)
theorem qm_r2 (G : qf_chk d L N = true) (hd : 0 < d) (hd4 : d ≤ 400) : ∀ (n : Nat) (a b c : Int), 1 ≤ a → 4 * a * c = b * b + d → qm_prim a b c → a + 2 ≤ n → 0 ≤ qf_fc d L n a b := by
  intro n
  induction n with
  | zero => intro a b c h1 _ _ h; omega
  | succ n ih =>
    intro a b c h1 hc hp hn
    obtain ⟨k, hk⟩ := qm_near_k a b
    obtain ⟨b1, b2⟩ := qm_near_b b h1
    have hs := qm_shift (k := k) hc
    have hp' := (qm_pshift k).mpr hp
    rw [← hk] at hs hp'
    generalize c + b * k + a * k * k = c' at hs hp'
    have ht := qm_third h1 hs
    rw [qf_fc, ht]
    generalize qf_near b a = m at hs ht hp' b1 b2 ⊢
    have hm := qm_sq m
    split
    · rename_i hr
      exact qm_rr G hd4 h1 hs ((qm_red _ _ _).mp hr) hp'
    · rename_i hr
      rw [qm_red] at hr
      have c1 := qm_pos h1 hs (by omega)
      by_cases g : c' < a
      · exact ih c' (-m) a c1 (by rw [Int.neg_mul_neg, ← hs]; grind) (qm_pswap' hp') (by omega)
      · have e : c' = a := by omega
        subst e
        obtain ⟨n', rfl⟩ : ∃ n', n = n' + 1 := ⟨n - 1, by omega⟩
        have hs' : 4 * c' * c' = -m * -m + d := by rw [Int.neg_mul_neg]; exact hs
        have hq : qf_near (-m) c' = -m := qm_near_u (k := 0) h1 (by omega) (by omega) (by omega)
        have hrr : -c' < -m ∧ -m ≤ c' ∧ (c' < c' ∨ (c' = c' ∧ 0 ≤ -m)) := ⟨by omega, by omega, Or.inr ⟨rfl, by omega⟩⟩
        rw [qf_fc, hq, qm_third h1 hs', if_pos ((qm_red _ _ _).mpr hrr)]
        exact qm_rr G hd4 h1 hs' hrr (qm_pswap' hp')
theorem qm_r3 (G : qf_chk d L N = true) (hd : 0 < d) (hd4 : d ≤ 400) {a b c : Int} (h1 : 1 ≤ a) (h2 : a ≤ 1000) (hc : 4 * a * c = b * b + d) (hp : qm_prim a b c) : 0 ≤ qf_fc d L 1000 a b := by
  by_cases h9 : a ≤ 998
  · exact qm_r2 G hd hd4 1000 a b c h1 hc hp (by omega)
  · obtain ⟨k, hk⟩ := qm_near_k a b
    obtain ⟨b1, b2⟩ := qm_near_b b h1
    have hs := qm_shift (k := k) hc
    have hp' := (qm_pshift k).mpr hp
    rw [← hk] at hs hp'
    generalize c + b * k + a * k * k = c' at hs hp'
    have ht := qm_third h1 hs
    rw [show 1000 = 999 + 1 from rfl, qf_fc, ht]
    generalize qf_near b a = m at hs ht hp' b1 b2 ⊢
    have hm := qm_sq m
    have hm2 : m * m ≤ a * a := qm_sqle (by omega) (by omega)
    split
    · rename_i hr
      exact qm_rr G hd4 h1 hs ((qm_red _ _ _).mp hr) hp'
    · have c1 := qm_pos h1 hs (by omega)
      have c2 : c' ≤ 900 := by
        rcases (show 900 < c' ∨ c' ≤ 900 by omega) with g | g
        · have q2 : a * a ≤ a * 1000 := Int.mul_le_mul_of_nonneg_left h2 (by omega)
          have q4 : a * 901 ≤ a * c' := Int.mul_le_mul_of_nonneg_left (by omega) (by omega)
          have q3 : 4 * a * c' = 4 * (a * c') := Int.mul_assoc _ _ _
          omega
        · exact g
      exact qm_r2 G hd hd4 999 c' (-m) a c1 (by rw [Int.neg_mul_neg, ← hs]; grind) (qm_pswap' hp') (by omega)
end
/-! numbers that forms give lie near -/
theorem qm_q {x y : Int} (h : 676 ≤ x * x ∨ 676 ≤ y * y) : 507 ≤ x * x - x * y + y * y := by
  have h1 := qm_sq (2 * x - y)
  have h2 := qm_sq (2 * y - x)
  have e1 : (2 * x - y) * (2 * x - y) = 4 * (x * x) - 4 * (x * y) + y * y := by grind
  have e2 : (2 * y - x) * (2 * y - x) = 4 * (y * y) - 4 * (x * y) + x * x := by grind
  omega
theorem qm_far {x : Int} (h : x < -25 ∨ 25 < x) : 676 ≤ x * x := by
  rcases h with h | h
  · have := Int.mul_le_mul (show (26 : Int) ≤ -x by omega) (show (26 : Int) ≤ -x by omega) (by omega) (by omega)
    rw [Int.neg_mul_neg] at this
    exact this
  · exact Int.mul_le_mul (show (26 : Int) ≤ x by omega) (show (26 : Int) ≤ x by omega) (by omega) (by omega)
theorem qm_big {a b c x y : Int} (h1 : 1 ≤ a) (h2 : -a < b) (h3 : b ≤ a) (h4 : a ≤ c) (h : (x < -25 ∨ 25 < x) ∨ (y < -25 ∨ 25 < y)) : 500 < a * x * x + b * x * y + c * y * y := by
  have hq : 676 ≤ x * x ∨ 676 ≤ y * y := h.elim (fun z => Or.inl (qm_far z)) (fun z => Or.inr (qm_far z))
  have c1 : 0 ≤ (c - a) * (y * y) := Int.mul_nonneg (by omega) (qm_sq y)
  rcases Int.le_total 0 (x * y) with s | s
  · have q := qm_q hq
    have p1 : 0 ≤ (b + a) * (x * y) := Int.mul_nonneg (by omega) s
    have p2 : 0 ≤ (a - 1) * (x * x - x * y + y * y) := Int.mul_nonneg (by omega) (by omega)
    have e : a * x * x + b * x * y + c * y * y = (b + a) * (x * y) + (a - 1) * (x * x - x * y + y * y) + (c - a) * (y * y) + (x * x - x * y + y * y) := by grind
    omega
  · have q := qm_q (x := x) (y := -y) (by rw [Int.neg_mul_neg]; exact hq)
    rw [Int.neg_mul_neg, Int.mul_neg] at q
    have p1 : 0 ≤ (a - b) * (-(x * y)) := Int.mul_nonneg (by omega) (by omega)
    have p2 : 0 ≤ (a - 1) * (x * x - -(x * y) + y * y) := Int.mul_nonneg (by omega) (by omega)
    have e : a * x * x + b * x * y + c * y * y = (a - b) * (-(x * y)) + (a - 1) * (x * x - -(x * y) + y * y) + (c - a) * (y * y) + (x * x - -(x * y) + y * y) := by grind
    omega
/-! counting pairs -/
def qc_y (p : Int → Int → Bool) (x : Int) : Nat → Int → Nat → Nat
  | 0, _, acc => acc
  | n + 1, y, acc => qc_y p x n (y + 1) (if p x y = true then acc + 1 else acc)
def qc_x (p : Int → Int → Bool) (m : Nat) (lo : Int) : Nat → Int → Nat → Nat
  | 0, _, acc => acc
  | n + 1, x, acc => qc_x p m lo n (x + 1) (qc_y p x m lo acc)
theorem qc_y_app (p : Int → Int → Bool) (x : Int) (n : Nat) : ∀ (m : Nat) (y : Int) (acc : Nat), qc_y p x (m + n) y acc = qc_y p x n (y + m) (qc_y p x m y acc) := by
  intro m
  induction m with
  | zero => intro y acc; rw [Nat.zero_add, show y + ((0 : Nat) : Int) = y by omega]; rfl
  | succ m ih =>
    intro y acc
    rw [show m + 1 + n = (m + n) + 1 by omega, qc_y, ih, show y + 1 + (m : Int) = y + ((m + 1 : Nat) : Int) by omega]
    rfl
theorem qc_y_no (p : Int → Int → Bool) (x : Int) : ∀ (n : Nat) (y : Int) (acc : Nat), (∀ z, y ≤ z → z < y + n → p x z = false) → qc_y p x n y acc = acc := by
  intro n
  induction n with
  | zero => intro y acc _; rfl
  | succ n ih =>
    intro y acc h
    rw [qc_y, h y (by omega) (by omega)]
    exact ih _ _ (fun z h1 h2 => h z (by omega) (by omega))
theorem qc_x_app (p : Int → Int → Bool) (l : Nat) (lo : Int) (n : Nat) : ∀ (m : Nat) (y : Int) (acc : Nat), qc_x p l lo (m + n) y acc = qc_x p l lo n (y + m) (qc_x p l lo m y acc) := by
  intro m
  induction m with
  | zero => intro y acc; rw [Nat.zero_add, show y + ((0 : Nat) : Int) = y by omega]; rfl
  | succ m ih =>
    intro y acc
    rw [show m + 1 + n = (m + n) + 1 by omega, qc_x, ih, show y + 1 + (m : Int) = y + ((m + 1 : Nat) : Int) by omega]
    rfl
theorem qc_x_no (p : Int → Int → Bool) (l : Nat) (lo : Int) : ∀ (n : Nat) (x : Int) (acc : Nat), (∀ z y, x ≤ z → z < x + n → p z y = false) → qc_x p l lo n x acc = acc := by
  intro n
  induction n with
  | zero => intro x acc _; rfl
  | succ n ih =>
    intro x acc h
    rw [qc_x, qc_y_no p x l lo acc (fun z _ _ => h x z (by omega) (by omega))]
    exact ih _ _ (fun z y h1 h2 => h z y (by omega) (by omega))
theorem qc_x_eq (p : Int → Int → Bool) (h : ∀ x y, y < -25 ∨ 25 < y → p x y = false) : ∀ (n : Nat) (x : Int) (acc : Nat), qc_x p 57 (-28) n x acc = qc_x p 51 (-25) n x acc := by
  intro n
  induction n with
  | zero => intro x acc; rfl
  | succ n ih =>
    intro x acc
    rw [qc_x, qc_x, ih]
    congr 1
    have e1 : qc_y p x 57 (-28) acc = qc_y p x 54 (-25) (qc_y p x 3 (-28) acc) := by
      first | exact qc_y_app p x 54 3 (-28) acc | simpa using qc_y_app p x 54 3 (-28) acc
    have e2 : qc_y p x 54 (-25) acc = qc_y p x 3 26 (qc_y p x 51 (-25) acc) := by
      first | exact qc_y_app p x 3 51 (-25) acc | simpa using qc_y_app p x 3 51 (-25) acc
    rw [qc_y_no p x 3 (-28) acc (fun z _ _ => h x z (by omega))] at e1
    rw [qc_y_no p x 3 26 (qc_y p x 51 (-25) acc) (fun z _ _ => h x z (by omega))] at e2
    exact e1.trans e2
theorem qc_eq (p : Int → Int → Bool) (h : ∀ x y, (x < -25 ∨ 25 < x) ∨ (y < -25 ∨ 25 < y) → p x y = false) : qc_x p 57 (-28) 57 (-28) 0 = qc_x p 51 (-25) 51 (-25) 0 := by
  rw [qc_x_eq p (fun x y z => h x y (Or.inr z))]
  have e1 : qc_x p 51 (-25) 57 (-28) 0 = qc_x p 51 (-25) 54 (-25) (qc_x p 51 (-25) 3 (-28) 0) := by
    first | exact qc_x_app p 51 (-25) 54 3 (-28) 0 | simpa using qc_x_app p 51 (-25) 54 3 (-28) 0
  have e2 : qc_x p 51 (-25) 54 (-25) 0 = qc_x p 51 (-25) 3 26 (qc_x p 51 (-25) 51 (-25) 0) := by
    first | exact qc_x_app p 51 (-25) 3 51 (-25) 0 | simpa using qc_x_app p 51 (-25) 3 51 (-25) 0
  rw [qc_x_no p 51 (-25) 3 (-28) 0 (fun z y _ _ => h z y (Or.inl (by omega)))] at e1
  rw [qc_x_no p 51 (-25) 3 26 (qc_x p 51 (-25) 51 (-25) 0) (fun z y _ _ => h z y (Or.inl (by omega)))] at e2
  exact e1.trans e2
