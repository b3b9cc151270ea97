/-! bounds of the steps, the reference's find, the reference's loop for the middle number -/
theorem qm_nb {a b B : Int} (h0 : 0 ≤ a) (h1 : a ≤ B) (h2 : -B ≤ b) (h3 : b ≤ B) : -B ≤ qf_near b a ∧ qf_near b a ≤ B := by
  rcases (show 0 < a ∨ a ≤ 0 by omega) with h | h
  · have := qm_near_b b (show 1 ≤ a by omega)
    omega
  · have e : a = 0 := by omega
    rw [e, qm_near_0]
    exact ⟨h2, h3⟩
theorem qm_tb {d a m : Int} (h0 : 0 < d) (hd : d ≤ 400) (h1 : -a ≤ m) (h2 : m ≤ a) : 0 ≤ qf_third d a m ∧ (qf_third d a m ≤ a ∨ qf_third d a m ≤ 400) := by
  by_cases hz : qf_third d a m = 0
  · rw [hz]; omega
  · obtain ⟨g1, g2, g3⟩ := qm_third_nz h0 hz
    refine ⟨by omega, ?_⟩
    generalize qf_third d a m = c at g2 g3 ⊢
    by_cases q : c ≤ a ∨ c ≤ 400
    · exact q
    · have q1 : m * m ≤ a * a := qm_sqle h1 h2
      have q2 : a * a ≤ a * c := Int.mul_le_mul_of_nonneg_left (by omega) (by omega)
      have q3 : 1 * 401 ≤ a * c := Int.mul_le_mul (by omega) (by omega) (by omega) (by omega)
      have q4 : 4 * a * c = 4 * (a * c) := Int.mul_assoc _ _ _
      omega
theorem qm_bnd {d a m B : Int} (h0 : 0 < d) (hd : d ≤ 400) (ha : 0 ≤ a) (haB : a ≤ B) (hB : 400 ≤ B) (h1 : a = 0 ∨ (-a ≤ m ∧ m ≤ a)) : 0 ≤ qf_third d a m ∧ qf_third d a m ≤ B := by
  rcases h1 with h | ⟨h1, h2⟩
  · have : qf_third d a m = 0 := by unfold qf_third; rw [if_pos (by omega)]
    omega
  · have := qm_tb h0 hd h1 h2
    omega
section
variable {d : Nat} {L : List qf_F} {N : Nat}
theorem qm_find (G : qf_chk d L N = true) (hd : 0 < d) {n : Nat} {a b c v : Int} (h1 : 1 ≤ a) (hc : 4 * a * c = b * b + d) (hv : qf_fc d L (n + 1) a b = v) (hne : v ≠ qf_NO) : qf_ix L a (qf_near b a) 0 = v ∨ (qf_ix L a (qf_near b a) 0 = qf_NO ∧ ∃ c', 1 ≤ c' ∧ 4 * a * c' = qf_near b a * qf_near b a + d ∧ qf_fc d L n c' (-qf_near b a) = v) := by
  obtain ⟨k, hk⟩ := qm_near_k a b
  have hs := qm_shift (k := k) hc
  rw [← hk] at hs
  generalize c + b * k + a * k * k = c' at hs
  have ht := qm_third h1 hs
  rw [qf_fc, ht] at hv
  generalize qf_near b a = m at hs ht hv ⊢
  have hm := qm_sq m
  split at hv
  · exact Or.inl hv
  · rename_i hr
    refine Or.inr ⟨?_, c', qm_pos h1 hs (by omega), hs, hv⟩
    rcases qm_ix a m L 0 with h | ⟨i, hi, he, ha, hb⟩
    · exact h
    · obtain ⟨e1, e2, e3, e4, e5, e6⟩ := qg_ent G hi
      rw [ha, hb] at e3 e4
      have e7 := qm_third h1 e4
      rw [ht] at e7
      rw [← e7] at e3
      exact absurd ((qm_red _ _ _).mpr e3) hr
/-- the value of the class of a form, as both sides reckon it -/
theorem qm_fcl_range (G : qf_chk d L N = true) : ∀ (n : Nat) (a b : Int), qf_fc d L n a b = qf_NO ∨ ∃ i : Nat, i < L.length ∧ qf_fc d L n a b = i := by
  intro n
  induction n with
  | zero => intro a b; exact Or.inl rfl
  | succ n ih =>
    intro a b
    rw [qf_fc]
    split
    · rcases qm_ix a (qf_near b a) L 0 with h | ⟨i, hi, he, _, _⟩
      · exact Or.inl h
      · exact Or.inr ⟨i, hi, by rw [he]; omega⟩
    · exact ih _ _
end
theorem qm_uni {a f b m t t0 : Int} (hg : Nat.gcd a.natAbs f.natAbs = 1) (hf : 0 < f) (h1 : 2 * f ∣ b + 2 * a * t0 - m) (h2 : 2 * f ∣ b + 2 * a * t - m) (ht : t ≤ t0) (h0 : 0 ≤ t) (h3 : t0 < f) : t = t0 := by
  obtain ⟨x, hx⟩ := h1
  obtain ⟨y, hy⟩ := h2
  have e : a * (t0 - t) = f * (x - y) := by
    have : 2 * (a * (t0 - t)) = 2 * (f * (x - y)) := by grind
    omega
  have e2 : f.natAbs ∣ a.natAbs * (t0 - t).natAbs := by
    rw [← Int.natAbs_mul, e, Int.natAbs_mul]
    exact Nat.dvd_mul_right _ _
  have hg' : Nat.Coprime f.natAbs a.natAbs := by
    rw [Nat.coprime_iff_gcd_eq_one, Nat.gcd_comm]
    exact hg
  have e3 := Nat.Coprime.dvd_of_dvd_mul_left hg' e2
  rcases Nat.eq_zero_or_pos (t0 - t).natAbs with z | z
  · omega
  · have := Nat.le_of_dvd z e3
    omega
