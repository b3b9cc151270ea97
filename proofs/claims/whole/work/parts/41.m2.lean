/-! counting pairs, on both sides -/
def qs_p (f : qf_F) (n : Int) (ap : Bool) (x y : Int) : Bool := decide (qf_val f x y = n) && (!ap || decide (Nat.gcd x.natAbs y.natAbs = 1))
def qs_cnt (f : qf_F) (n : Int) (ap : Bool) : Nat := qc_x (qs_p f n ap) 51 (-25) 51 (-25) 0
theorem qs_p_of {f : qf_F} {n : Int} {ap : Bool} {x y : Int} : qs_p f n ap x y = true ↔ qf_val f x y = n ∧ (ap = false ∨ Nat.gcd x.natAbs y.natAbs = 1) := by
  unfold qs_p
  simp
section
variable {d : Nat} {L : List qf_F} {N : Nat} {md cn : Int32} {fi mi : Int64} {A B C P : Nat → Int32}
theorem qs_far (G : qf_chk d L N = true) {k : Nat} (hk : k < L.length) {n : Int} (hn : n ≤ 500) (ap : Bool) : qc_x (qs_p (qf_at L k) n ap) 57 (-28) 57 (-28) 0 = qs_cnt (qf_at L k) n ap := by
  obtain ⟨b1, b2, b3, _, _, b6⟩ := qg_ent G hk
  refine qc_eq _ (fun x y h => ?_)
  rw [← Bool.not_eq_true, qs_p_of]
  intro z
  have := qm_big b1 b3.1 b3.2.1 (show (qf_at L k).1 ≤ (qf_at L k).2.2 by omega) h
  have e := z.1
  unfold qf_val at e
  omega
theorem qs_vb (G : qf_chk d L N = true) {k : Nat} (hk : k < L.length) {x y : Int} (hx : -28 ≤ x ∧ x ≤ 28) (hy : -28 ≤ y ∧ y ≤ 28) : -1000000 ≤ qf_val (qf_at L k) x y ∧ qf_val (qf_at L k) x y ≤ 1000000 := by
  obtain ⟨b1, b2, b3, _, _, b6⟩ := qg_ent G hk
  have w1 := qm_mulb (X := 11) (Y := 28) (show -11 ≤ (qf_at L k).1 ∧ (qf_at L k).1 ≤ 11 by omega) hx
  have w2 := qm_mulb (X := 11 * 28) (Y := 28) w1 hx
  have w3 := qm_mulb (X := 11) (Y := 28) (show -11 ≤ (qf_at L k).2.1 ∧ (qf_at L k).2.1 ≤ 11 by omega) hx
  have w4 := qm_mulb (X := 11 * 28) (Y := 28) w3 hy
  have w5 := qm_mulb (X := 120) (Y := 28) (show -120 ≤ (qf_at L k).2.2 ∧ (qf_at L k).2.2 ≤ 120 by omega) hy
  have w6 := qm_mulb (X := 120 * 28) (Y := 28) w5 hy
  unfold qf_val
  omega
theorem qs_gb {x y : Int} (hx : -28 ≤ x ∧ x ≤ 28) (hy : -28 ≤ y ∧ y ≤ 28) : Nat.gcd x.natAbs y.natAbs ≤ 28 := by
  rcases Nat.eq_zero_or_pos x.natAbs with h | h
  · rw [h, Nat.gcd_zero_left]
    omega
  · have := Nat.gcd_le_left y.natAbs h
    omega
theorem xw_py (G : qf_chk d L N = true) {post : Int32 → Prop} {J31 : Int32 → Int32 → Prop} {k : Nat} (hk : k < L.length) {n x : Int} (hn : 1 ≤ n ∧ n ≤ 500) (hx : -25 ≤ x ∧ x ≤ 25) {c : Int32} {ap : Bool} (hc : c = 0 ↔ ap = false) : ∀ (m : Nat) (y : Int) (acc : Nat), y + m = 26 → -25 ≤ y → J31 (nI (qc_y (qs_p (qf_at L k) n ap) x m y acc)) (qz_i (x + 1)) → wX_countPairs_42 post J31 (qz_i n) c (qz_i (qf_at L k).1) (qz_i (qf_at L k).2.1) (qz_i (qf_at L k).2.2) (qz_i x) md cn A B C P (m + 1) (nI acc) (qz_i y) := by
  intro m
  induction m with
  | zero =>
    intro y acc hy hy' hJ
    exact qz_clt 25 y qk_25 rfl (by omega) (by omega) (fun _ => nm_r (by rw [qk_1, qz_add]) hJ) (fun z => absurd z (by omega))
  | succ m ih =>
    intro y acc hy hy' hJ
    have vb := qs_vb G hk (x := x) (y := y) (by omega) (by omega)
    have gb := qs_gb (x := x) (y := y) (by omega) (by omega)
    have ey : qz_i y + 1 = qz_i (y + 1) := by rw [qk_1, qz_add]
    rw [qc_y] at hJ
    have yes : qs_p (qf_at L k) n ap x y = true → wX_countPairs_42 post J31 (qz_i n) c (qz_i (qf_at L k).1) (qz_i (qf_at L k).2.1) (qz_i (qf_at L k).2.2) (qz_i x) md cn A B C P (m + 1) (nI (acc + 1)) (qz_i (y + 1)) := by
      intro z
      rw [if_pos z] at hJ
      exact ih (y + 1) (acc + 1) (by omega) (by omega) hJ
    have no : ¬ qs_p (qf_at L k) n ap x y = true → wX_countPairs_42 post J31 (qz_i n) c (qz_i (qf_at L k).1) (qz_i (qf_at L k).2.1) (qz_i (qf_at L k).2.2) (qz_i x) md cn A B C P (m + 1) (nI acc) (qz_i (y + 1)) := by
      intro z
      rw [if_neg z] at hJ
      exact ih (y + 1) acc (by omega) (by omega) hJ
    rw [qs_p_of] at yes no
    refine qz_clt 25 y qk_25 rfl (by omega) (by omega) (fun z => absurd z (by omega)) (fun _ => ?_)
    refine qz_ceq (qf_val (qf_at L k) x y) n (by simp only [qz_mul, qz_add]; rfl) rfl (by omega) (by omega) (fun z => ?_) (fun z => nm_r ey (no (fun w => z w.1)))
    by_cases c0 : c = 0
    · exact br_t c0 (nm_r (nI_1 acc) (nm_r ey (yes ⟨z, Or.inl (hc.mp c0)⟩)))
    · refine br_f c0 (xw_gcd rfl rfl (by omega) (by omega) ?_)
      refine pk_eq (Nat.gcd x.natAbs y.natAbs) 1 (fun w => nm_r (nI_1 acc) (nm_r ey (yes ⟨z, Or.inr w⟩))) (fun w => nm_r ey (no (fun q => ?_)))
      rcases q.2 with h | h
      · exact c0 (hc.mpr h)
      · exact w h
theorem xw_px (G : qf_chk d L N = true) {post : Int32 → Prop} {k : Nat} (hk : k < L.length) {n : Int} (hn : 1 ≤ n ∧ n ≤ 500) {c : Int32} {ap : Bool} (hc : c = 0 ↔ ap = false) : ∀ (m : Nat) (x : Int) (acc : Nat), x + m = 26 → -25 ≤ x → post (nI (qc_x (qs_p (qf_at L k) n ap) 51 (-25) m x acc)) → wX_countPairs_31 post (qz_i n) c (qz_i (qf_at L k).1) (qz_i (qf_at L k).2.1) (qz_i (qf_at L k).2.2) md cn A B C P (m + 1) (nI acc) (qz_i x) := by
  intro m
  induction m with
  | zero =>
    intro x acc hx hx' hp
    exact qz_clt 25 x qk_25 rfl (by omega) (by omega) (fun _ => hp) (fun z => absurd z (by omega))
  | succ m ih =>
    intro x acc hx hx' hp
    rw [qc_x] at hp
    refine qz_clt 25 x qk_25 rfl (by omega) (by omega) (fun z => absurd z (by omega)) (fun _ => ⟨52, ?_⟩)
    rw [qk_m25]
    exact xw_py G hk hn (by omega) hc 51 (-25) acc (by omega) (by omega) (ih (x + 1) _ (by omega) (by omega) hp)
theorem xw_cp (G : qf_chk d L N = true) (S : xs_L L cn A B C) {post : Int32 → Prop} {k : Nat} (hk : k < L.length) {n : Int} (hn : 1 ≤ n ∧ n ≤ 500) {c : Int32} (ap : Bool) (hc : c = 0 ↔ ap = false) (hp : post (nI (qs_cnt (qf_at L k) n ap))) : wpX_countPairs post (md, cn, A, B, C, P) (nI k) (qz_i n) c := by
  have hL := (qg_1 G).2.2.1
  obtain ⟨eA, eB, eC⟩ := S.2 k hk
  have hin : vp_in (nI k) 66 := vp_in_nI (by omega) (by omega)
  have ec : (nI k).toNatClampNeg = k := nI_clamp (by omega)
  have eA' : A (nI k).toNatClampNeg = qz_i (qf_at L k).1 := by rw [ec]; exact eA
  have eB' : B (nI k).toNatClampNeg = qz_i (qf_at L k).2.1 := by rw [ec]; exact eB
  have eC' : C (nI k).toNatClampNeg = qz_i (qf_at L k).2.2 := by rw [ec]; exact eC
  have key : wX_countPairs_31 post (qz_i n) c (qz_i (qf_at L k).1) (qz_i (qf_at L k).2.1) (qz_i (qf_at L k).2.2) md cn A B C P 52 0 (-25) := by
    rw [qk_m25]
    exact xw_px G hk hn hc 51 (-25) 0 (by omega) (by omega) hp
  exact ⟨hin, nm_r eA' ⟨hin, nm_r eB' ⟨hin, nm_r eC' ⟨52, key⟩⟩⟩⟩
theorem yw_py (G : qf_chk d L N = true) (S : xs_L L cn A B C) {post : Int32 → Prop} {J7 : Int32 → Int32 → Prop} {k : Nat} (hk : k < L.length) {n x : Int} (hn : 1 ≤ n ∧ n ≤ 500) (hx : -28 ≤ x ∧ x ≤ 28) {c : Int32} {ap : Bool} (hc : c = 0 ↔ ap = false) : ∀ (m : Nat) (y : Int) (acc : Nat), y + m = 29 → -28 ≤ y → J7 (nI (qc_y (qs_p (qf_at L k) n ap) x m y acc)) (qz_i (x + 1)) → wY_found_18 post J7 (nI k) (qz_i n) c (qz_i x) md cn fi mi A B C P (m + 1) (nI acc) (qz_i y) := by
  have hL := (qg_1 G).2.2.1
  obtain ⟨eA, eB, eC⟩ := S.2 k hk
  have hin : vp_in (nI k) 64 := vp_in_nI (by omega) (by omega)
  intro m
  induction m with
  | zero =>
    intro y acc hy hy' hJ
    exact qz_clt 28 y qk_28 rfl (by omega) (by omega) (fun _ => nm_r (by rw [qk_1, qz_add]) hJ) (fun z => absurd z (by omega))
  | succ m ih =>
    intro y acc hy hy' hJ
    have vb := qs_vb G hk (x := x) (y := y) (by omega) (by omega)
    have gb := qs_gb (x := x) (y := y) (by omega) (by omega)
    have ey : qz_i y + 1 = qz_i (y + 1) := by rw [qk_1, qz_add]
    rw [qc_y] at hJ
    have yes : qs_p (qf_at L k) n ap x y = true → wY_found_18 post J7 (nI k) (qz_i n) c (qz_i x) md cn fi mi A B C P (m + 1) (nI (acc + 1)) (qz_i (y + 1)) := by
      intro z
      rw [if_pos z] at hJ
      exact ih (y + 1) (acc + 1) (by omega) (by omega) hJ
    have no : ¬ qs_p (qf_at L k) n ap x y = true → wY_found_18 post J7 (nI k) (qz_i n) c (qz_i x) md cn fi mi A B C P (m + 1) (nI acc) (qz_i (y + 1)) := by
      intro z
      rw [if_neg z] at hJ
      exact ih (y + 1) acc (by omega) (by omega) hJ
    rw [qs_p_of] at yes no
    refine qz_clt 28 y qk_28 rfl (by omega) (by omega) (fun z => absurd z (by omega)) (fun _ => ⟨hin, hin, hin, nm_r (e' := qz_i (qf_val (qf_at L k) x y)) (by rw [nI_clamp (by omega), eA, eB, eC]; simp only [qz_mul, qz_add]; rfl) ?_⟩)
    refine qz_ceq (qf_val (qf_at L k) x y) n rfl rfl (by omega) (by omega) (fun z => ?_) (fun z => nm_r ey (no (fun w => z w.1)))
    by_cases c0 : c = 0
    · exact br_t c0 (nm_r (nI_1 acc) (nm_r ey (yes ⟨z, Or.inl (hc.mp c0)⟩)))
    · refine br_f c0 (yw_div (ql_of (by omega) (by omega)) (ql_of (by omega) (by omega)) (by omega) (by omega) ?_)
      refine ql_ceq (Nat.gcd x.natAbs y.natAbs : Nat) 1 rfl ql_k1 (by omega) (by omega) (fun w => nm_r (nI_1 acc) (nm_r ey (yes ⟨z, Or.inr (by omega)⟩))) (fun w => nm_r ey (no (fun q => ?_)))
      rcases q.2 with h | h
      · exact c0 (hc.mpr h)
      · omega
theorem yw_px (G : qf_chk d L N = true) (S : xs_L L cn A B C) {post : Int32 → Prop} {k : Nat} (hk : k < L.length) {n : Int} (hn : 1 ≤ n ∧ n ≤ 500) {c : Int32} {ap : Bool} (hc : c = 0 ↔ ap = false) : ∀ (m : Nat) (x : Int) (acc : Nat), x + m = 29 → -28 ≤ x → post (nI (qc_x (qs_p (qf_at L k) n ap) 57 (-28) m x acc)) → wY_found_7 post (nI k) (qz_i n) c md cn fi mi A B C P (m + 1) (nI acc) (qz_i x) := by
  intro m
  induction m with
  | zero =>
    intro x acc hx hx' hp
    exact qz_clt 28 x qk_28 rfl (by omega) (by omega) (fun _ => hp) (fun z => absurd z (by omega))
  | succ m ih =>
    intro x acc hx hx' hp
    rw [qc_x] at hp
    refine qz_clt 28 x qk_28 rfl (by omega) (by omega) (fun z => absurd z (by omega)) (fun _ => ⟨58, ?_⟩)
    rw [qk_m28]
    exact yw_py G S hk hn (by omega) hc 57 (-28) acc (by omega) (by omega) (ih (x + 1) _ (by omega) (by omega) hp)
theorem yw_cp (G : qf_chk d L N = true) (S : xs_L L cn A B C) {post : Int32 → Prop} {k : Nat} (hk : k < L.length) {n : Int} (hn : 1 ≤ n ∧ n ≤ 500) {c : Int32} (ap : Bool) (hc : c = 0 ↔ ap = false) (hp : post (nI (qs_cnt (qf_at L k) n ap))) : wpY_found post (md, cn, fi, mi, A, B, C, P) (nI k) (qz_i n) c := by
  rw [← qs_far G hk hn.2] at hp
  refine ⟨58, ?_⟩
  rw [qk_m28]
  exact yw_px G S hk hn hc 57 (-28) 0 (by omega) (by omega) hp
theorem xw_n0 {post : Int32 → Prop} {k : Int32} (h : k < 1 ∨ 500 < k) (hp : post 0) : wpX_isAllowedNumber post k := by
  unfold wpX_isAllowedNumber
  by_cases h0 : k < 1
  · exact br_t h0 hp
  · exact br_f h0 (br_t (h.resolve_left h0) hp)
theorem xw_n1 {post : Int32 → Prop} {k : Int32} (h : ¬ k < 1) (h' : ¬ 500 < k) (hp : post 1) : wpX_isAllowedNumber post k := by
  unfold wpX_isAllowedNumber
  exact br_f h (br_f h' hp)
theorem yw_n1 {post : Int32 → Prop} {k : Int32} (h : k < 1 ∨ 500 < k) (hp : post 1) : wpY_noNumber post (md, cn, fi, mi, A, B, C, P) k := by
  unfold wpY_noNumber
  dsimp only
  by_cases h0 : k < 1
  · exact br_t h0 hp
  · exact br_f h0 (br_f (Int32.not_le.mpr (h.resolve_left h0)) hp)
theorem yw_n0 {post : Int32 → Prop} {k : Int32} (h : ¬ k < 1) (h' : ¬ 500 < k) (hp : post 0) : wpY_noNumber post (md, cn, fi, mi, A, B, C, P) k := by
  unfold wpY_noNumber
  dsimp only
  exact br_f h (br_t (Int32.not_lt.mp h') hp)
theorem qs_num {k : Int32} (h : ¬ k < 1) (h' : ¬ 500 < k) : ∃ n : Int, k = qz_i n ∧ 1 ≤ n ∧ n ≤ 500 := by
  have e := qz_self k
  have b1 := k.le_toInt
  have b2 := k.toInt_lt
  generalize k.toInt = z at e b1 b2
  subst e
  rw [qk_1, qz_lt (by omega) (by omega)] at h
  rw [qk_500, qz_lt (by omega) (by omega)] at h'
  exact ⟨z, rfl, by omega, by omega⟩
end
section
variable {d : Nat} {L : List qf_F} {N : Nat} {md md' : Int32} {fi mi : Int64} {A B C P A' B' C' P' : Nat → Int32}
theorem xy_all (G : qf_chk d L N = true) (S : xs_L L (nI L.length) A B C) (S' : xs_L L (nI L.length) A' B' C') {n : Int} (hn : 1 ≤ n ∧ n ≤ 500) : ∀ (m k : Nat) (c : Int32), k + m = L.length → ∃ r, (∀ post : Int32 → Prop, post r → wX_all_14 post (qz_i n) md (nI L.length) A B C P (m + 1) c (nI k)) ∧ (∀ post : Int32 → Prop, post r → wY_all_15 post (qz_i n) md' (nI L.length) fi mi A' B' C' P' (m + 1) c (nI k)) := by
  have hL := (qg_1 G).2.2.1
  have h0 : (0 : Int32) = 0 ↔ false = false := ⟨fun _ => rfl, fun _ => rfl⟩
  intro m
  induction m with
  | zero =>
    intro k c hk
    exact ⟨c, fun post hp => pk_le L.length k (fun _ => hp) (fun z => absurd z (by omega)), fun post hp => pk_le L.length k (fun _ => hp) (fun z => absurd z (by omega))⟩
  | succ m ih =>
    intro k c hk
    obtain ⟨r, hX, hY⟩ := ih (k + 1) (c + nI (qs_cnt (qf_at L k) n false)) (by omega)
    exact ⟨r, fun post hp => pk_le L.length k (fun z => absurd z (by omega)) (fun _ => xw_cp G S (by omega) hn false h0 (nm_e (nm_r (nI_1 k) (hX post hp)))), fun post hp => pk_le L.length k (fun z => absurd z (by omega)) (fun _ => yw_cp G S' (by omega) hn false h0 (nm_e (nm_r (nI_1 k) (hY post hp))))⟩
theorem xy_least (G : qf_chk d L N = true) (S : xs_L L (nI L.length) A B C) (S' : xs_L L (nI L.length) A' B' C') {n : Int} (hn : 1 ≤ n ∧ n ≤ 500) : ∀ (m k : Nat), k + m = L.length → ∃ r, (∀ post : Int32 → Prop, post r → wX_least_12 post (qz_i n) md (nI L.length) A B C P (m + 1) (nI k)) ∧ (∀ post : Int32 → Prop, post r → wY_least_13 post (qz_i n) md' (nI L.length) fi mi A' B' C' P' (m + 1) (nI k)) := by
  have hL := (qg_1 G).2.2.1
  have h1 : (1 : Int32) = 0 ↔ true = false := by decide
  intro m
  induction m with
  | zero =>
    intro k hk
    exact ⟨-1000001, fun post hp => pk_le L.length k (fun _ => hp) (fun z => absurd z (by omega)), fun post hp => pk_le L.length k (fun _ => hp) (fun z => absurd z (by omega))⟩
  | succ m ih =>
    intro k hk
    by_cases h : nI (qs_cnt (qf_at L k) n true) ≤ 0
    · obtain ⟨r, hX, hY⟩ := ih (k + 1) (by omega)
      exact ⟨r, fun post hp => pk_le L.length k (fun z => absurd z (by omega)) (fun _ => xw_cp G S (by omega) hn true h1 (br_t h (nm_r (nI_1 k) (hX post hp)))), fun post hp => pk_le L.length k (fun z => absurd z (by omega)) (fun _ => yw_cp G S' (by omega) hn true h1 (br_t h (nm_r (nI_1 k) (hY post hp))))⟩
    · exact ⟨nI k, fun post hp => pk_le L.length k (fun z => absurd z (by omega)) (fun _ => xw_cp G S (by omega) hn true h1 (br_f h hp)), fun post hp => pk_le L.length k (fun z => absurd z (by omega)) (fun _ => yw_cp G S' (by omega) hn true h1 (br_f h hp))⟩
end
