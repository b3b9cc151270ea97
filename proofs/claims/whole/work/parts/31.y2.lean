/-! the reference: complete, seek, multiply, list -/
theorem qm_ct {p r : Int} (hp : 0 ≤ p ∧ p ≤ 12) (hr : -12 ≤ r ∧ r ≤ 12) (hg : Nat.gcd p.natAbs r.natAbs = 1) : qf_cq p r 27 (-13) = some (qf_ct p r) := by
  have g := List.all_eq_true.mp (List.all_eq_true.mp qf_ct_ok p.toNat (List.mem_range.mpr (by omega))) (r + 12).toNat (List.mem_range.mpr (by omega))
  rw [show ((p.toNat : Nat) : Int) = p by omega, show (((r + 12).toNat : Nat) : Int) - 12 = r by omega, show p.toNat = p.natAbs by omega] at g
  simpa [hg] using g
section
variable {d : Nat} {L : List qf_F} {N : Nat} {cn : Int32} {fi mi : Int64} {A B C P : Nat → Int32}
theorem yw_cs (G : qf_chk d L N = true) (S : xs_L L cn A B C) {post : SY → Prop} {J4 : Int32 → Prop} {j : Nat} (hj : j < L.length) {p r q : Int} {x4 : Int64} (hp : -12 ≤ p ∧ p ≤ 12) (hr : -12 ≤ r ∧ r ≤ 12) (hq : -13 ≤ q ∧ q ≤ 13) : ∀ (m : Nat) (s : Int), s + m = 14 → -13 ≤ s → (∀ s', qf_cs p r q m s = some s' → post (qz_i d, cn, x4, qz_l (qf_mid (qf_at L j) p r (q, s')), A, B, C, P)) → (qf_cs p r q m s = none → J4 (qz_i (q + 1))) → wY_complete_15 post J4 (nI j) (qz_i p) (qz_i r) x4 (qz_i q) (qz_i d) cn fi mi A B C P (m + 1) (qz_i s) := by
  have hL := (qg_1 G).2.2.1
  obtain ⟨eA, eB, eC⟩ := S.2 j hj
  obtain ⟨b1, b2, b3, _, _, b6⟩ := qg_ent G hj
  have hin : vp_in (nI j) 64 := vp_in_nI (by omega) (by omega)
  intro m
  induction m with
  | zero =>
    intro s hs hs' h1 h2
    exact qz_clt 13 s qk_13 rfl (by omega) (by omega) (fun _ => nm_r (by rw [qk_1, qz_add]) (h2 rfl)) (fun z => absurd z (by omega))
  | succ m ih =>
    intro s hs hs' h1 h2
    have q1 := qm_mulb (X := 12) (Y := 13) hp (show -13 ≤ s ∧ s ≤ 13 by omega)
    have q2 := qm_mulb (X := 13) (Y := 12) hq hr
    rw [qf_cs] at h1 h2
    refine qz_clt 13 s qk_13 rfl (by omega) (by omega) (fun z => absurd z (by omega)) (fun _ => ?_)
    refine qz_ceq (p * s - q * r) 1 (by rw [qz_mul, qz_mul, qz_sub]) qk_1 (by omega) (by omega) (fun z => ?_) (fun z => ?_)
    · rw [if_pos z] at h1
      have e : (((((2 * A (nI j).toNatClampNeg) * qz_i p) * qz_i q) + (B (nI j).toNatClampNeg * ((qz_i p * qz_i s) + (qz_i q * qz_i r)))) + (((2 * C (nI j).toNatClampNeg) * qz_i r) * qz_i s)).toInt64 = qz_l (qf_mid (qf_at L j) p r (q, s)) := by
        rw [nI_clamp (by omega), eA, eB, eC, qk_2]
        simp only [qz_mul, qz_add]
        have w1 := qm_mulb (X := 22) (Y := 12) (show -22 ≤ 2 * (qf_at L j).1 ∧ 2 * (qf_at L j).1 ≤ 22 by omega) hp
        have w2 := qm_mulb (X := 22 * 12) (Y := 13) w1 hq
        have w3 := qm_mulb (X := 11) (Y := 312) (show -11 ≤ (qf_at L j).2.1 ∧ (qf_at L j).2.1 ≤ 11 by omega) (show -312 ≤ p * s + q * r ∧ p * s + q * r ≤ 312 by omega)
        have w4 := qm_mulb (X := 240) (Y := 12) (show -240 ≤ 2 * (qf_at L j).2.2 ∧ 2 * (qf_at L j).2.2 ≤ 240 by omega) hr
        have w5 := qm_mulb (X := 240 * 12) (Y := 13) w4 (show -13 ≤ s ∧ s ≤ 13 by omega)
        rw [ql_of (by omega) (by omega)]
        rfl
      exact ⟨hin, hin, hin, nm_r e (h1 s rfl)⟩
    · rw [if_neg z] at h1 h2
      exact nm_r (by rw [qk_1, qz_add]) (ih (s + 1) (by omega) (by omega) h1 h2)
theorem yw_cq (G : qf_chk d L N = true) (S : xs_L L cn A B C) {post : SY → Prop} {j : Nat} (hj : j < L.length) {p r : Int} {x4 : Int64} (hp : -12 ≤ p ∧ p ≤ 12) (hr : -12 ≤ r ∧ r ≤ 12) : ∀ (m : Nat) (q : Int), q + m = 14 → -13 ≤ q → (∀ z, qf_cq p r m q = some z → post (qz_i d, cn, x4, qz_l (qf_mid (qf_at L j) p r z), A, B, C, P)) → (qf_cq p r m q ≠ none) → wY_complete_4 post (nI j) (qz_i p) (qz_i r) x4 (qz_i d) cn fi mi A B C P (m + 1) (qz_i q) := by
  intro m
  induction m with
  | zero =>
    intro q hq hq' h1 h2
    exact absurd rfl h2
  | succ m ih =>
    intro q hq hq' h1 h2
    rw [qf_cq] at h1 h2
    refine qz_clt 13 q qk_13 rfl (by omega) (by omega) (fun z => absurd z (by omega)) (fun _ => ⟨28, ?_⟩)
    rw [qk_m13]
    refine yw_cs G S hj hp hr (by omega) 27 (-13) (by omega) (by omega) (fun s' hs' => ?_) (fun hn => ?_)
    · rw [hs'] at h1
      exact h1 _ rfl
    · rw [hn] at h1 h2
      exact ih (q + 1) (by omega) (by omega) h1 h2
theorem yw_complete (G : qf_chk d L N = true) (S : xs_L L cn A B C) {post : SY → Prop} {j : Nat} (hj : j < L.length) {p r : Int} {x4 : Int64} (hp : 0 ≤ p ∧ p ≤ 12) (hr : -12 ≤ r ∧ r ≤ 12) (hg : Nat.gcd p.natAbs r.natAbs = 1) (h : post (qz_i d, cn, x4, qz_l (qf_mid (qf_at L j) p r (qf_ct p r)), A, B, C, P)) : wpY_complete post (qz_i d, cn, fi, mi, A, B, C, P) (nI j) (qz_i p) (qz_i r) x4 := by
  have e := qm_ct hp hr hg
  refine ⟨28, ?_⟩
  rw [qk_m13]
  refine yw_cq G S hj (by omega) hr 27 (-13) (by omega) (by omega) (fun z hz => ?_) (by rw [e]; simp)
  rw [e] at hz
  injection hz with hz
  rw [← hz]
  exact h
theorem yw_sy (G : qf_chk d L N = true) (S : xs_L L cn A B C) {post : SY → Prop} {J7 : Int32 → Int32 → Int32 → Int64 → Int64 → (Nat → Int32) → (Nat → Int32) → (Nat → Int32) → (Nat → Int32) → Prop} {j : Nat} (hj : j < L.length) {o x : Int} (ho : 1 ≤ o ∧ o ≤ 11) (hx : 0 ≤ x ∧ x ≤ 12) : ∀ (m : Nat) (y : Int), y + m = 13 → -12 ≤ y → (∀ r, qf_sy (qf_at L j) o x m y = some r → r.1 ≠ 0 ∧ J7 (qz_i (x + 1)) (qz_i d) cn (qz_l r.1) (qz_l r.2) A B C P) → (qf_sy (qf_at L j) o x m y = none → J7 (qz_i (x + 1)) (qz_i d) cn 0 mi A B C P) → wY_seek_17 post J7 (nI j) (qz_i o) (qz_i x) (m + 1) (qz_i y) (qz_i d) cn 0 mi A B C P := by
  have hL := (qg_1 G).2.2.1
  obtain ⟨eA, eB, eC⟩ := S.2 j hj
  obtain ⟨b1, b2, b3, _, _, b6⟩ := qg_ent G hj
  have hin : vp_in (nI j) 64 := vp_in_nI (by omega) (by omega)
  have ex : qz_i x + 1 = qz_i (x + 1) := by rw [qk_1, qz_add]
  intro m
  induction m with
  | zero =>
    intro y hy hy' h1 h2
    exact qz_clt 12 y qk_12 rfl (by omega) (by omega) (fun _ => nm_r ex (h2 rfl)) (fun z => absurd z (by omega))
  | succ m ih =>
    intro y hy hy' h1 h2
    have ey : qz_i y + 1 = qz_i (y + 1) := by rw [qk_1, qz_add]
    have w1 := qm_mulb (X := 11) (Y := 12) (show -11 ≤ (qf_at L j).1 ∧ (qf_at L j).1 ≤ 11 by omega) (show -12 ≤ x ∧ x ≤ 12 by omega)
    have w2 := qm_mulb (X := 11 * 12) (Y := 12) w1 (show -12 ≤ x ∧ x ≤ 12 by omega)
    have w3 := qm_mulb (X := 11) (Y := 12) (show -11 ≤ (qf_at L j).2.1 ∧ (qf_at L j).2.1 ≤ 11 by omega) (show -12 ≤ x ∧ x ≤ 12 by omega)
    have w4 := qm_mulb (X := 11 * 12) (Y := 12) w3 (show -12 ≤ y ∧ y ≤ 12 by omega)
    have w5 := qm_mulb (X := 120) (Y := 12) (show -120 ≤ (qf_at L j).2.2 ∧ (qf_at L j).2.2 ≤ 120 by omega) (show -12 ≤ y ∧ y ≤ 12 by omega)
    have w6 := qm_mulb (X := 120 * 12) (Y := 12) w5 (show -12 ≤ y ∧ y ≤ 12 by omega)
    have vb : -100000 ≤ qf_val (qf_at L j) x y ∧ qf_val (qf_at L j) x y ≤ 100000 := by
      unfold qf_val
      omega
    have ev : ((((A (nI j).toNatClampNeg * qz_i x) * qz_i x) + ((B (nI j).toNatClampNeg * qz_i x) * qz_i y)) + ((C (nI j).toNatClampNeg * qz_i y) * qz_i y)).toInt64 = qz_l (qf_val (qf_at L j) x y) := by
      rw [nI_clamp (by omega), eA, eB, eC]
      simp only [qz_mul, qz_add]
      rw [ql_of (by omega) (by omega)]
      rfl
    have gl : Nat.gcd (qf_val (qf_at L j) x y).natAbs o.natAbs ≤ o.natAbs := Nat.gcd_le_right _ (by omega)
    have gx : Nat.gcd x.natAbs y.natAbs ≤ 12 := by
      rcases Nat.eq_zero_or_pos x.natAbs with h | h
      · rw [h, Nat.gcd_zero_left]
        omega
      · have := Nat.gcd_le_left y.natAbs h
        omega
    rw [qf_sy] at h1 h2
    refine qz_clt 12 y qk_12 rfl (by omega) (by omega) (fun z => absurd z (by omega)) (fun _ => ?_)
    refine br_t rfl ⟨hin, hin, hin, nm_r ev ?_⟩
    refine yw_div (ql_of (by omega) (by omega)) (ql_of (by omega) (by omega)) (by omega) (by omega) ?_
    refine ql_ceq (Nat.gcd x.natAbs y.natAbs : Nat) 1 rfl ql_k1 (by omega) (by omega) (fun z => ?_) (fun z => ?_)
    · have z' : Nat.gcd x.natAbs y.natAbs = 1 := by omega
      rw [if_pos z'] at h1 h2
      refine yw_div rfl (ql_of (by omega) (by omega)) (by omega) (by omega) ?_
      refine ql_ceq (Nat.gcd (qf_val (qf_at L j) x y).natAbs o.natAbs : Nat) 1 rfl ql_k1 (by omega) (by omega) (fun w => ?_) (fun w => ?_)
      · have w' : Nat.gcd (qf_val (qf_at L j) x y).natAbs o.natAbs = 1 := by omega
        rw [if_pos w'] at h1
        obtain ⟨k1, k2⟩ := h1 _ rfl
        dsimp only at k1 k2
        refine yw_complete G S hj hx (by omega) z' ?_
        refine nm_r ey ?_
        refine qz_clt 12 (y + 1) qk_12 rfl (by omega) (by omega) (fun _ => nm_r ex k2) (fun _ => ?_)
        exact ql_ceq (qf_val (qf_at L j) x y) 0 rfl ql_k0 (by omega) (by omega) (fun q => absurd q k1) (fun _ => nm_r ex k2)
      · have w' : ¬ Nat.gcd (qf_val (qf_at L j) x y).natAbs o.natAbs = 1 := by omega
        rw [if_neg w'] at h1 h2
        exact nm_r ey (ih (y + 1) (by omega) (by omega) h1 h2)
    · have z' : ¬ Nat.gcd x.natAbs y.natAbs = 1 := by omega
      rw [if_neg z'] at h1 h2
      exact nm_r ey (ih (y + 1) (by omega) (by omega) h1 h2)
theorem yw_done {post : SY → Prop} {X1 X2 md : Int32} {f : Int} (hf : f ≠ 0) (hfb : -100000 ≤ f ∧ f ≤ 100000) (h : post (md, cn, qz_l f, mi, A, B, C, P)) : ∀ (m : Nat) (x : Int), x + m = 13 → 0 ≤ x → wY_seek_7 post X1 X2 (m + 1) (qz_i x) md cn (qz_l f) mi A B C P := by
  intro m
  induction m with
  | zero =>
    intro x hx hx'
    exact qz_clt 12 x qk_12 rfl (by omega) (by omega) (fun _ => h) (fun z => absurd z (by omega))
  | succ m ih =>
    intro x hx hx'
    refine qz_clt 12 x qk_12 rfl (by omega) (by omega) (fun z => absurd z (by omega)) (fun _ => ⟨1, ?_⟩)
    have ex : qz_i x + 1 = qz_i (x + 1) := by rw [qk_1, qz_add]
    refine qz_clt 12 (-12) qk_12 qk_m12 (by omega) (by omega) (fun z => absurd z (by omega)) (fun _ => ?_)
    exact ql_ceq f 0 rfl ql_k0 (by omega) (by omega) (fun q => absurd q hf) (fun _ => nm_r ex (ih (x + 1) (by omega) (by omega)))
theorem yw_sx (G : qf_chk d L N = true) (S : xs_L L cn A B C) {post : SY → Prop} {j : Nat} (hj : j < L.length) {o : Int} (ho : 1 ≤ o ∧ o ≤ 11) : ∀ (m : Nat) (x : Int), x + m = 13 → 0 ≤ x → (∀ r, qf_sx (qf_at L j) o m x = some r → r.1 ≠ 0 ∧ (-100000 ≤ r.1 ∧ r.1 ≤ 100000) ∧ post (qz_i d, cn, qz_l r.1, qz_l r.2, A, B, C, P)) → qf_sx (qf_at L j) o m x ≠ none → wY_seek_7 post (nI j) (qz_i o) (m + 1) (qz_i x) (qz_i d) cn 0 mi A B C P := by
  intro m
  induction m with
  | zero =>
    intro x hx hx' h1 h2
    exact absurd rfl h2
  | succ m ih =>
    intro x hx hx' h1 h2
    rw [qf_sx] at h1 h2
    refine qz_clt 12 x qk_12 rfl (by omega) (by omega) (fun z => absurd z (by omega)) (fun _ => ⟨26, ?_⟩)
    rw [qk_m12]
    refine yw_sy G S hj ho (by omega) 25 (-12) (by omega) (by omega) (fun r hr => ?_) (fun hn => ?_)
    · rw [hr] at h1
      obtain ⟨k1, k2, k3⟩ := h1 r rfl
      exact ⟨k1, yw_done k1 k2 k3 m (x + 1) (by omega) (by omega)⟩
    · rw [hn] at h1 h2
      exact ih (x + 1) (by omega) (by omega) h1 h2
theorem yw_seek (G : qf_chk d L N = true) (S : xs_L L cn A B C) {post : SY → Prop} {j : Nat} (hj : j < L.length) {X : Int32} {o : Int} (hX : X = qz_i o) (ho : 1 ≤ o ∧ o ≤ 11) {z : Int × Int} (hz : qf_sx (qf_at L j) o 13 0 = some z) (h0 : z.1 ≠ 0) (hb : -100000 ≤ z.1 ∧ z.1 ≤ 100000) (hp : post (qz_i d, cn, qz_l z.1, qz_l z.2, A, B, C, P)) : wpY_seek post (qz_i d, cn, fi, mi, A, B, C, P) (nI j) X := by
  subst hX
  refine ⟨14, ?_⟩
  rw [qk_0]
  refine yw_sx G S hj ho 13 0 (by omega) (by omega) (fun r hr => ?_) (by rw [hz]; simp)
  rw [hz] at hr
  injection hr with hr
  rw [← hr]
  exact ⟨h0, hb, hp⟩
theorem qm_fcl_nz {a b : Int} {k : Nat} (h : qf_fcl d L a b = k) : qf_third d a b ≠ 0 ∧ qf_fc d L 1000 a b = k := by
  unfold qf_fcl at h
  split at h
  · unfold qf_NO at h
    omega
  · rename_i hz
    exact ⟨hz, h⟩
theorem yw_mloop (G : qf_chk d L N = true) (hd : 0 < d ∧ d ≤ 400) (S : xs_L L cn A B C) {post : Int32 → SY → Prop} {i : Nat} (hi : i < L.length) {f m t0 : Int} (hf : 0 < f ∧ f < 100000) (hm : -1000000 < m ∧ m < 1000000) (hg : Nat.gcd (qf_at L i).1.natAbs f.natAbs = 1) (h0 : 0 ≤ t0 ∧ t0 < f) (hdv : ((qf_at L i).2.1 + 2 * (qf_at L i).1 * t0 - m) % (2 * f) = 0) {k : Nat} (hfc : qf_fcl d L ((qf_at L i).1 * f) ((qf_at L i).2.1 + 2 * (qf_at L i).1 * t0) = k) (hp : post (nI k) (qz_i d, cn, qz_l f, qz_l m, A, B, C, P)) : ∀ (n : Nat) (t : Int), t + n = t0 → 0 ≤ t → wY_multiply_19 post (nI i) (qz_i d) cn (qz_l f) (qz_l m) A B C P (n + 1) (qz_l ((qf_at L i).2.1 + 2 * (qf_at L i).1 * t)) := by
  have hL := (qg_1 G).2.2.1
  obtain ⟨eA, eB, eC⟩ := S.2 i hi
  obtain ⟨b1, b2, b3, _, _, b6⟩ := qg_ent G hi
  have hin : vp_in (nI i) 64 := vp_in_nI (by omega) (by omega)
  have eA' : A (nI i).toNatClampNeg = qz_i (qf_at L i).1 := by
    rw [nI_clamp (by omega)]
    exact eA
  generalize (qf_at L i).1 = a at b1 b2 b3 hg hdv hfc eA' ⊢
  generalize (qf_at L i).2.1 = b at b3 hdv hfc ⊢
  have e2 : (2 : Int64) * qz_l f = qz_l (2 * f) := by rw [ql_k2, ql_mul]
  have ez : ¬ qz_l (2 * f) = 0 := by
    rw [ql_k0, ql_eq (by omega) (by omega)]
    omega
  have af := qm_mulb (X := 11) (Y := 100000) (show -11 ≤ a ∧ a ≤ 11 by omega) (show -100000 ≤ f ∧ f ≤ 100000 by omega)
  have af1 : 1 * 1 ≤ a * f := Int.mul_le_mul b1 (by omega) (by omega) (by omega)
  intro n
  induction n with
  | zero =>
    intro t ht ht0
    have et : t = t0 := by omega
    subst et
    have at1 := qm_mulb (X := 11) (Y := 100000) (show -11 ≤ a ∧ a ≤ 11 by omega) (show -100000 ≤ t ∧ t ≤ 100000 by omega)
    have at2 : 2 * a * t = 2 * (a * t) := Int.mul_assoc _ _ _
    obtain ⟨hz, hv⟩ := qm_fcl_nz hfc
    obtain ⟨_, t4, _⟩ := qm_third_nz (by omega) hz
    have er := ql_rem (a := b + 2 * a * t - m) (b := 2 * f) (by omega) (by omega)
    rw [Int.tmod_eq_zero_of_dvd (Int.dvd_of_emod_eq_zero hdv)] at er
    refine ⟨by rw [e2]; exact ez, ?_⟩
    rw [e2, ql_sub, er]
    refine br_t rfl ⟨hin, ?_⟩
    rw [eA', ql_of (by omega) (by omega), ql_mul]
    exact yw_find G hd S rfl rfl (by omega) (by omega) t4 hv hp
  | succ n ih =>
    intro t ht ht0
    have at1 := qm_mulb (X := 11) (Y := 100000) (show -11 ≤ a ∧ a ≤ 11 by omega) (show -100000 ≤ t ∧ t ≤ 100000 by omega)
    have at2 : 2 * a * t = 2 * (a * t) := Int.mul_assoc _ _ _
    have er := ql_rem (a := b + 2 * a * t - m) (b := 2 * f) (by omega) (by omega)
    have nd : (b + 2 * a * t - m).tmod (2 * f) ≠ 0 := by
      intro h
      have := qm_uni hg hf.1 (Int.dvd_of_emod_eq_zero hdv) (Int.dvd_of_tmod_eq_zero h) (by omega) ht0 h0.2
      omega
    have r1 := Int.tmod_lt_of_pos (b + 2 * a * t - m) (show 0 < 2 * f by omega)
    have r2 := Int.lt_tmod_of_pos (b + 2 * a * t - m) (show 0 < 2 * f by omega)
    refine ⟨by rw [e2]; exact ez, ?_⟩
    rw [e2, ql_sub, er]
    refine ql_ceq _ 0 rfl ql_k0 (by omega) (by omega) (fun z => absurd z nd) (fun _ => ⟨hin, ?_⟩)
    refine nm_r (e' := qz_l (b + 2 * a * (t + 1))) ?_ (ih (t + 1) (by omega) (by omega))
    rw [eA', qk_2, qz_mul, ql_of (by omega) (by omega), ql_add, Int.mul_add, Int.mul_one, Int.add_assoc]
theorem yw_mul (G : qf_chk d L N = true) (hd : 0 < d ∧ d ≤ 400) (S : xs_L L cn A B C) {post : Int32 → SY → Prop} {i j : Nat} (hi : i < L.length) (hj : j < L.length) (hp : ∀ fi' mi', post (nI (qf_P N L.length i j)) (qz_i d, cn, fi', mi', A, B, C, P)) : wpY_multiply post (qz_i d, cn, fi, mi, A, B, C, P) (nI i) (nI j) := by
  have hL := (qg_1 G).2.2.1
  obtain ⟨p1, p2, p3⟩ := qg_P G hi hj
  obtain ⟨eA, eB, eC⟩ := S.2 i hi
  obtain ⟨b1, b2, b3, _, _, b6⟩ := qg_ent G hi
  have hin : vp_in (nI i) 64 := vp_in_nI (by omega) (by omega)
  have eA' : A (nI i).toNatClampNeg = qz_i (qf_at L i).1 := by
    rw [nI_clamp (by omega)]
    exact eA
  have eB' : (B (nI i).toNatClampNeg).toInt64 = qz_l ((qf_at L i).2.1 + 2 * (qf_at L i).1 * 0) := by
    rw [nI_clamp (by omega), eB, ql_of (by omega) (by omega)]
    congr 1
    omega
  cases hs : qf_sx (qf_at L j) (qf_at L i).1 13 0 with
  | none =>
    rw [hs] at p3
    simp [qf_yk] at p3
  | some z =>
    rw [hs] at p3
    simp only [qf_yk, Bool.and_eq_true, decide_eq_true_eq] at p3
    obtain ⟨y1, y2, y3, y4, y5, y6, y7⟩ := p3
    have t1 := Int.emod_nonneg ((z.2 - (qf_at L i).2.1) / 2 * qf_is (qf_at L i).1 z.1 11 0) (show z.1 ≠ 0 by omega)
    have t2 := Int.emod_lt_of_pos ((z.2 - (qf_at L i).2.1) / 2 * qf_is (qf_at L i).1 z.1 11 0) y1
    have t3 : 0 ≤ qf_t0 (qf_at L i).1 (qf_at L i).2.1 z.1 z.2 ∧ qf_t0 (qf_at L i).1 (qf_at L i).2.1 z.1 z.2 < z.1 := ⟨t1, t2⟩
    generalize qf_t0 (qf_at L i).1 (qf_at L i).2.1 z.1 z.2 = t0 at y6 y7 t3
    refine ⟨hin, yw_seek G S hj eA' (by omega) hs (by omega) (by omega) ⟨hin, nm_r eB' ⟨t0.toNat + 1, ?_⟩⟩⟩
    exact yw_mloop G hd S hi ⟨y1, y2⟩ ⟨y3, y4⟩ y5 t3 y6 y7 (hp _ _) t0.toNat 0 (by omega) (by omega)
theorem yw_130 (G : qf_chk d L N = true) (hd : 0 < d ∧ d ≤ 400) (S : xs_L L cn A B C) {post : SY → Prop} {J120 : Int32 → Int32 → Int32 → Int64 → Int64 → (Nat → Int32) → (Nat → Int32) → (Nat → Int32) → (Nat → Int32) → Prop} {i : Nat} (hi : i < L.length) : ∀ (m j : Nat) (fi mi : Int64) (pr : Nat → Int32), j + m = L.length → xs_P N L.length 64 pr i j → (∀ fi' mi' pr', xs_P N L.length 64 pr' (i + 1) 0 → J120 (nI (i + 1)) (qz_i d) cn fi' mi' A B C pr') → wY_list_130 post J120 (nI i) (m + 1) (nI j) (qz_i d) cn fi mi A B C pr := by
  have hL := (qg_1 G).2.2.1
  have hc := S.1
  subst hc
  intro m
  induction m with
  | zero =>
    intro j fi mi pr hj Q hJ
    exact pk_le L.length j (fun _ => nm_r (nI_1 i) (hJ fi mi pr (fun i' j' h1 h2 h3 => Q i' j' h1 h2 (by omega)))) (fun z => absurd z (by omega))
  | succ m ih =>
    intro j fi mi pr hj Q hJ
    have ei : (64 * nI i) + nI j = nI (64 * i + j) := by rw [show (64 : Int32) = nI 64 from rfl, pk_mul, nI_add]
    have eu : upd pr ((64 * nI i) + nI j).toNatClampNeg (nI (qf_P N L.length i j)) = upd pr (64 * i + j) (nI (qf_P N L.length i j)) := by rw [ei, nI_clamp (by omega)]
    refine pk_le L.length j (fun z => absurd z (by omega)) (fun _ => ?_)
    refine yw_mul G hd S hi (by omega) (fun fi' mi' => ?_)
    exact ⟨by rw [ei]; exact vp_in_nI (by omega) (by omega), nm_r eu (nm_r (nI_1 j) (ih (j + 1) fi' mi' _ (by omega) (xs_put64 hL (by omega) Q) hJ))⟩
theorem yw_120 (G : qf_chk d L N = true) (hd : 0 < d ∧ d ≤ 400) (S : xs_L L cn A B C) {post : SY → Prop} (hp : ∀ fi' mi' pr', xs_P N L.length 64 pr' L.length 0 → post (qz_i d, cn, fi', mi', A, B, C, pr')) : ∀ (m i : Nat) (fi mi : Int64) (pr : Nat → Int32), i + m = L.length → xs_P N L.length 64 pr i 0 → wY_list_120 post (m + 1) (nI i) (qz_i d) cn fi mi A B C pr := by
  have hL := (qg_1 G).2.2.1
  have hc := S.1
  subst hc
  intro m
  induction m with
  | zero =>
    intro i fi mi pr hi Q
    have e : i = L.length := by omega
    rw [e] at Q
    exact pk_le L.length i (fun _ => hp fi mi pr Q) (fun z => absurd z (by omega))
  | succ m ih =>
    intro i fi mi pr hi Q
    exact pk_le L.length i (fun z => absurd z (by omega)) (fun _ => ⟨L.length + 1, yw_130 G hd S (by omega) L.length 0 fi mi pr (by omega) Q (fun fi' mi' pr' Q' => ih (i + 1) fi' mi' pr' (by omega) Q')⟩)
end
theorem qm_ly_len (d : Nat) : ∀ (m a : Nat) (acc : List qf_F), acc.length ≤ (qf_ly d m a acc).length := by
  intro m
  induction m with
  | zero => intro b acc; exact Nat.le_refl _
  | succ m ih =>
    intro b acc
    rw [qf_ly]
    split
    · exact Nat.le_trans (qm_lb_len _ _ _ _ _) (ih _ _)
    · exact Nat.le_refl _
section
variable {d : Nat} {L : List qf_F} {N : Nat} {fi mi : Int64} {P : Nat → Int32}
theorem yw_push {post : SY → Prop} {J7 J23 : Int32 → Int32 → (Nat → Int32) → (Nat → Int32) → (Nat → Int32) → (Nat → Int32) → Prop} {acc : List qf_F} {A B C : Nat → Int32} {a b c : Int} {md : Int32} (S : xs_L acc (nI acc.length) A B C) (hl : acc.length < 64) (h : ∀ A' B' C', xs_L (acc ++ [(a, b, c)]) (nI (acc.length + 1)) A' B' C' → J23 (qz_i (b + 1)) (nI (acc.length + 1)) A' B' C' P) : wY_list_66 post J7 J23 (qz_i a) (qz_i b) (qz_i c) md (nI acc.length) fi mi A B C P := by
  have hin : vp_in (nI acc.length) 64 := vp_in_nI (by omega) (by omega)
  exact ⟨hin, nm_e ⟨hin, nm_e ⟨hin, nm_e (nm_r (nI_1 _) (nm_r (by rw [qk_1, qz_add]) (h _ _ _ (xs_push S (by omega)))))⟩⟩⟩
theorem yw_lb (hd : 0 < d ∧ d ≤ 400) {a : Int} (ha : 1 ≤ a ∧ a ≤ 11) {post : SY → Prop} {J7 : Int32 → Int32 → (Nat → Int32) → (Nat → Int32) → (Nat → Int32) → (Nat → Int32) → Prop} : ∀ (m : Nat) (b : Int) (acc : List qf_F) (cn : Int32) (A B C : Nat → Int32), b + m = a + 1 → -a < b → xs_L acc cn A B C → (qf_lb d a m b acc).length ≤ 31 → (∀ cn' A' B' C', xs_L (qf_lb d a m b acc) cn' A' B' C' → J7 (qz_i (a + 1)) cn' A' B' C' P) → wY_list_23 post J7 (qz_i a) (qz_i d) fi mi (m + 1) (qz_i b) cn A B C P := by
  intro m
  induction m with
  | zero =>
    intro b acc cn A B C hb hb' S hl hJ
    exact qz_clt a b rfl rfl (by omega) (by omega) (fun _ => nm_r (by rw [qk_1, qz_add]) (hJ _ _ _ _ S)) (fun z => absurd z (by omega))
  | succ m ih =>
    intro b acc cn A B C hb hb' S hl hJ
    have hc := S.1
    subst hc
    rw [qf_lb] at hl hJ
    have s0 := qm_sq b
    have s1 : b * b ≤ 11 * 11 := qm_sqle (by omega) (by omega)
    have e1 : qz_i b + 1 = qz_i (b + 1) := by rw [qk_1, qz_add]
    have e4 : (4 : Int32) * qz_i a = qz_i (4 * a) := by rw [qk_4, qz_mul]
    have ez : ¬ (4 : Int32) * qz_i a = 0 := by
      rw [e4, qk_0, qz_eq (by omega) (by omega)]
      omega
    have ed : (qz_i b * qz_i b + qz_i d) / ((4 : Int32) * qz_i a) = qz_i ((b * b + d) / (4 * a)) := by
      rw [e4, qz_mul, qz_add, qz_div (by omega) (by omega), Int.tdiv_eq_ediv_of_nonneg (by omega)]
    have c0 : 0 ≤ (b * b + (d : Int)) / (4 * a) := Int.ediv_nonneg (by omega) (by omega)
    have c1 : (b * b + (d : Int)) / (4 * a) ≤ b * b + d := Int.ediv_le_self _ (by omega)
    have cc : qf_third d a b ≠ 0 → (b * b + (d : Int)) / (4 * a) = qf_third d a b := by
      intro h
      obtain ⟨_, t4, _⟩ := qm_third_nz (by omega) h
      rw [← t4, Int.mul_ediv_cancel_left _ (by omega)]
    have skip : ¬ qf_ok d a b = true → ∀ y, y = qz_i b + 1 → wY_list_23 post J7 (qz_i a) (qz_i d) fi mi (m + 1) y (nI acc.length) A B C P := by
      intro nok
      rw [if_neg nok] at hl hJ
      exact nm_r e1 (ih (b + 1) acc _ A B C (by omega) (by omega) S hl hJ)
    have push : qf_ok d a b = true → wY_list_66 post J7 (wY_list_23 post J7 (qz_i a) (qz_i d) fi mi (m + 1)) (qz_i a) (qz_i b) (qz_i (qf_third d a b)) (qz_i d) (nI acc.length) fi mi A B C P := by
      intro ok
      rw [if_pos ok] at hl hJ
      have ln := qm_lb_len d a m (b + 1) (acc ++ [(a, b, qf_third d a b)])
      rw [List.length_append, List.length_singleton] at ln
      exact yw_push S (by omega) (fun A' B' C' S' => ih (b + 1) _ _ A' B' C' (by omega) (by omega) S' hl hJ)
    refine qz_clt a b rfl rfl (by omega) (by omega) (fun z => absurd z (by omega)) (fun _ => ⟨ez, nm_r ed ?_⟩)
    generalize (b * b + (d : Int)) / (4 * a) = c at c0 c1 cc ⊢
    refine yw_form hd (ql_of (by omega) (by omega)) (ql_of (by omega) (by omega)) (by omega) (by omega) (fun hz hg => ?_) (fun hz => ?_)
    · have ec := cc hz
      subst ec
      have ok : qf_ok d a b = true ↔ (a < qf_third d a b ∨ (a = qf_third d a b ∧ 0 ≤ b)) := by
        unfold qf_ok
        rw [Bool.and_eq_true, qm_red, decide_eq_true_eq]
        constructor
        · intro h
          exact h.1.2.2
        · intro h
          exact ⟨⟨by omega, by omega, h⟩, hg⟩
      refine br_f (by decide) ?_
      refine qz_clt (qf_third d a b) a rfl rfl (by omega) (by omega) (fun z => skip (by rw [ok]; omega)) (fun z => ?_)
      refine qz_clt a (qf_third d a b) rfl rfl (by omega) (by omega) (fun y => push (by rw [ok]; omega)) (fun y => ?_)
      exact qz_clt b 0 rfl qk_0 (by omega) (by omega) (fun x => skip (by rw [ok]; omega)) (fun x => push (by rw [ok]; omega))
    · refine br_t rfl (skip ?_)
      unfold qf_ok
      rw [Bool.and_eq_true, qm_red, decide_eq_true_eq]
      intro h
      rcases hz with hz | hz
      · rw [hz] at h
        omega
      · exact hz h.2
theorem yw_ly (hd : 0 < d ∧ d ≤ 400) {post : SY → Prop} : ∀ (m a : Nat) (acc : List qf_F) (cn : Int32) (A B C : Nat → Int32), a + m = 21 → 1 ≤ a → xs_L acc cn A B C → (qf_ly d m a acc).length ≤ 31 → (∀ cn' A' B' C', xs_L (qf_ly d m a acc) cn' A' B' C' → ∃ n120, wY_list_120 post n120 0 (qz_i d) cn' fi mi A' B' C' P) → wY_list_7 post (qz_i d) fi mi (m + 1) (qz_i a) cn A B C P := by
  intro m
  induction m with
  | zero =>
    intro a acc cn A B C ha h1 S hl hp
    have ea : a = 21 := by omega
    subst ea
    exact qz_clt d (3 * ((21 : Nat) : Int) * ((21 : Nat) : Int)) rfl (by rw [qk_3, qz_mul, qz_mul]) (by omega) (by omega) (fun _ => hp _ _ _ _ S) (fun z => absurd z (by omega))
  | succ m ih =>
    intro a acc cn A B C ha h1 S hl hp
    have hb := Nat.mul_le_mul (show 3 * a ≤ 63 by omega) (show a ≤ 21 by omega)
    have e3 : (3 : Int) * a * a = ((3 * a * a : Nat) : Int) := by
      rw [Int.natCast_mul, Int.natCast_mul]
      rfl
    rw [qf_ly] at hl hp
    refine qz_clt d (3 * (a : Int) * (a : Int)) rfl (by rw [qk_3, qz_mul, qz_mul]) (by omega) (by omega) (fun z => ?_) (fun z => ?_)
    · rw [if_neg (by omega)] at hp
      exact hp _ _ _ _ S
    · have hq : 3 * a * a ≤ d := by omega
      rw [if_pos hq] at hl hp
      have ha11 : a ≤ 11 := by
        rcases Nat.lt_or_ge 11 a with g | g
        · have := Nat.mul_le_mul (show 36 ≤ 3 * a by omega) (show 12 ≤ a by omega)
          omega
        · exact g
      have l1 := qm_ly_len d m (a + 1) (qf_lb d a (2 * a) (1 - (a : Int)) acc)
      refine nm_r (e' := qz_i (1 - (a : Int))) (by rw [qk_1, qz_sub]) ⟨2 * a + 1, ?_⟩
      refine yw_lb hd (by omega) (2 * a) (1 - (a : Int)) acc cn A B C (by omega) (by omega) S (by omega) (fun cn' A' B' C' S' => ?_)
      rw [show (a : Int) + 1 = ((a + 1 : Nat) : Int) by omega]
      exact ih (a + 1) _ _ _ _ _ (by omega) (by omega) S' hl hp
theorem yw_list (G : qf_chk d L N = true) (hd : 0 < d ∧ d ≤ 400) {cn : Int32} {A B C : Nat → Int32} {post : SY → Prop} (hp : ∀ cn' fi' mi' A' B' C' P', xs_L L cn' A' B' C' → xs_P N L.length 64 P' L.length 0 → post (qz_i d, cn', fi', mi', A', B', C', P')) : wpY_list post (qz_i d, cn, fi, mi, A, B, C, P) := by
  obtain ⟨_, g2, g3, _⟩ := qg_1 G
  refine ⟨21, ?_⟩
  rw [qk_1]
  refine yw_ly hd 20 1 [] 0 A B C (by omega) (by omega) ⟨rfl, fun k hk => absurd hk (by simp)⟩ (by rw [g2]; exact g3) (fun cn' A' B' C' S => ⟨L.length + 1, ?_⟩)
  rw [g2] at S
  exact yw_120 G hd S (fun fi' mi' pr' Q => hp _ _ _ _ _ _ _ S Q) L.length 0 fi mi P (by omega) (fun _ _ _ _ h => absurd h (by omega))
end
/-- the reference holds the table -/
def ys_S (d : Nat) (L : List qf_F) (N : Nat) (v : SY) : Prop := ∃ fi mi A B C P, v = (qz_i d, nI L.length, fi, mi, A, B, C, P) ∧ xs_L L (nI L.length) A B C ∧ xs_P N L.length 64 P L.length 0
