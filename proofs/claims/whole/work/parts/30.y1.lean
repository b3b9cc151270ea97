/-! the reference: divisor, isForm, find -/
theorem qm_mulb {x y X Y : Int} (hx : -X ≤ x ∧ x ≤ X) (hy : -Y ≤ y ∧ y ≤ Y) : -(X * Y) ≤ x * y ∧ x * y ≤ X * Y := by
  have h1 : x.natAbs * y.natAbs ≤ X.natAbs * Y.natAbs := Nat.mul_le_mul (by omega) (by omega)
  rw [← Int.natAbs_mul, ← Int.natAbs_mul] at h1
  have h2 : 0 ≤ X * Y := Int.mul_nonneg (by omega) (by omega)
  omega
section
variable {md cn : Int32} {fi mi : Int64} {A B C P : Nat → Int32}
theorem yw_div_loop {post : Int64 → Prop} : ∀ (m h l : Nat), l ≤ m → h < 4611686018427387904 → l < 4611686018427387904 → post (qz_l (Nat.gcd h l : Nat)) → wY_divisor_28 post md cn fi mi A B C P (m + 1) (qz_l h) (qz_l l) := by
  intro m
  induction m with
  | zero =>
    intro h l hl hh hl2 hp
    have e : l = 0 := by omega
    subst e
    rw [Nat.gcd_zero_right] at hp
    exact ql_cle (0 : Nat) 0 rfl ql_k0 (by omega) (by omega) (fun _ => hp) (fun z => absurd z (by omega))
  | succ m ih =>
    intro h l hl hh hl2 hp
    refine ql_cle l 0 rfl ql_k0 (by omega) (by omega) (fun z => ?_) (fun z => ?_)
    · have e : l = 0 := by omega
      subst e
      rw [Nat.gcd_zero_right] at hp
      exact hp
    · have hm := Nat.mod_lt h (show l > 0 by omega)
      rw [Nat.gcd_comm h l, Nat.gcd_rec, Nat.gcd_comm] at hp
      have ez : ¬ qz_l l = 0 := by
        rw [ql_k0, ql_eq (by omega) (by omega)]
        omega
      have er : qz_l h - qz_l h / qz_l l * qz_l l = qz_l ((h % l : Nat) : Int) := by
        rw [ql_rem (by omega) (by omega), Int.tmod_eq_emod_of_nonneg (by omega), Int.natCast_emod]
      exact ⟨ez, nm_r er (ih _ _ (by omega) hl2 (by omega) hp)⟩
theorem yw_abs {x : Int} (h : 0 ≤ x) : qz_l x = qz_l (x.natAbs : Nat) := by
  congr 1
  omega
theorem yw_absn {x : Int} (h : x < 0) : -qz_l x = qz_l (x.natAbs : Nat) := by
  rw [ql_neg]
  congr 1
  omega
theorem yw_div {post : Int64 → Prop} {X Y : Int64} {x y : Int} (hX : X = qz_l x) (hY : Y = qz_l y) (hx : -4611686018427387903 ≤ x ∧ x ≤ 4611686018427387903) (hy : -4611686018427387903 ≤ y ∧ y ≤ 4611686018427387903) (hp : post (qz_l (Nat.gcd x.natAbs y.natAbs : Nat))) : wpY_divisor post (md, cn, fi, mi, A, B, C, P) X Y := by
  subst hX hY
  have lp : wY_divisor_28 post md cn fi mi A B C P (y.natAbs + 1) (qz_l (x.natAbs : Nat)) (qz_l (y.natAbs : Nat)) := yw_div_loop _ _ _ (Nat.le_refl _) (by omega) (by omega) hp
  have key : wY_divisor_12 post (qz_l y) (qz_l (x.natAbs : Nat)) md cn fi mi A B C P := by
    unfold wY_divisor_12
    refine ql_cle 0 y ql_k0 rfl (by omega) (by omega) (fun h => ⟨y.natAbs + 1, ?_⟩) (fun h => nm_r (yw_absn h) ⟨y.natAbs + 1, lp⟩)
    have e := yw_abs h
    generalize qz_l y = Y at e ⊢
    rw [e]
    exact lp
  unfold wpY_divisor
  dsimp only
  refine ql_cle 0 x ql_k0 rfl (by omega) (by omega) (fun h => ?_) (fun h => ?_)
  · have e := yw_abs h
    generalize qz_l x = X at e ⊢
    rw [e]
    exact key
  · rw [yw_absn h]
    exact key
end
section
variable {d : Nat} {L : List qf_F} {N : Nat} {cn : Int32} {fi mi : Int64} {A B C P : Nat → Int32} {post : Int32 → Prop}
theorem yw_form (hd : 0 < d ∧ d ≤ 400) {X Y : Int64} {a b : Int} (hX : X = qz_l a) (hY : Y = qz_l b) (ha : 1 ≤ a ∧ a ≤ 1000000) (hb : -1000000 ≤ b ∧ b ≤ 1000000) (h1 : qf_third d a b ≠ 0 → qf_g3 a b (qf_third d a b) = 1 → post 1) (h0 : qf_third d a b = 0 ∨ qf_g3 a b (qf_third d a b) ≠ 1 → post 0) : wpY_isForm post (qz_i d, cn, fi, mi, A, B, C, P) X Y := by
  subst hX hY
  have s0 := qm_sq b
  have s1 : b * b ≤ 1000000 * 1000000 := qm_sqle hb.1 hb.2
  have e4 : (4 : Int64) * qz_l a = qz_l (4 * a) := by rw [ql_k4, ql_mul]
  have ez : ¬ qz_l (4 * a) = 0 := by
    rw [ql_k0, ql_eq (by omega) (by omega)]
    omega
  have g1 : Nat.gcd a.natAbs b.natAbs ≤ a.natAbs := Nat.gcd_le_left _ (by omega)
  have g0 : 0 < Nat.gcd a.natAbs b.natAbs := Nat.gcd_pos_of_pos_left _ (by omega)
  have t2 := qm_t2 (d := d) (a := a) (b := b) (by omega)
  have g2 : qf_g3 a b (qf_third d a b) ≤ Nat.gcd a.natAbs b.natAbs := Nat.gcd_le_left _ g0
  unfold wpY_isForm
  dsimp only
  rw [e4]
  refine nm_r (e' := qz_l (b * b + d)) (by rw [ql_mul, ql_of (by omega) (by omega), ql_add]) ⟨ez, ?_⟩
  have er := ql_rem (a := b * b + d) (b := 4 * a) (by omega) (by omega)
  rw [Int.tmod_eq_emod_of_nonneg (by omega)] at er
  have hm := Int.emod_nonneg (b * b + d) (show 4 * a ≠ 0 by omega)
  have hl := Int.emod_lt_of_pos (b * b + d) (show 0 < 4 * a by omega)
  refine ql_ceq _ 0 er ql_k0 (by omega) (by omega) (fun z => ?_) (fun z => ?_)
  · have et : qf_third d a b = (b * b + d) / (4 * a) := by
      unfold qf_third
      rw [if_neg (by omega), if_pos z]
    have ed : qz_l (b * b + d) / qz_l (4 * a) = qz_l (qf_third d a b) := by
      rw [ql_div (by omega) (by omega), Int.tdiv_eq_ediv_of_nonneg (by omega), et]
    have en : qf_third d a b ≠ 0 := by
      intro h
      have := Int.mul_ediv_cancel' (Int.dvd_of_emod_eq_zero z)
      rw [← et, h] at this
      omega
    rw [ed]
    refine yw_div rfl rfl (by omega) (by omega) ⟨ez, ?_⟩
    refine yw_div rfl rfl (by omega) (by omega) ?_
    rw [Int.natAbs_natCast]
    refine ql_ceq (qf_g3 a b (qf_third d a b) : Nat) 1 rfl ql_k1 (by omega) (by omega) (fun y => h1 en (by omega)) (fun y => h0 (Or.inr (by omega)))
  · refine h0 (Or.inl ?_)
    unfold qf_third
    rw [if_neg (by omega), if_neg z]
theorem yw_ix_loop (G : qf_chk d L N = true) (S : xs_L L cn A B C) {J6 : Int64 → Int64 → Prop} {a b c : Int} (hd : 0 < d ∧ d ≤ 400) (ha : 1 ≤ a ∧ a ≤ 2000000) (hb : -2000000 ≤ b ∧ b ≤ 2000000) (hc : 4 * a * c = b * b + d) : ∀ (m k : Nat), k + m = L.length → (∀ i : Nat, qf_ix (L.drop k) a b k = i → post (nI i)) → (qf_ix (L.drop k) a b k = qf_NO → J6 (qz_l c) (qz_l (-b))) → wY_find_59 post J6 (qz_l a) (qz_l b) (qz_i d) cn fi mi A B C P (m + 1) (nI k) := by
  have hL := (qg_1 G).2.2.1
  have hcn := S.1
  subst hcn
  intro m
  induction m with
  | zero =>
    intro k hk h1 h2
    rw [List.drop_of_length_le (by omega)] at h2
    have s0 := qm_sq b
    have s1 : b * b ≤ 2000000 * 2000000 := qm_sqle hb.1 hb.2
    have e4 : (4 : Int64) * qz_l a = qz_l (4 * a) := by rw [ql_k4, ql_mul]
    have ez : ¬ qz_l (4 * a) = 0 := by
      rw [ql_k0, ql_eq (by omega) (by omega)]
      omega
    have ed : (qz_l b * qz_l b + (qz_i d).toInt64) / ((4 : Int64) * qz_l a) = qz_l c := by
      rw [e4, ql_mul, ql_of (by omega) (by omega), ql_add, ql_div (by omega) (by omega), Int.tdiv_eq_ediv_of_nonneg (by omega), ← hc, Int.mul_ediv_cancel_left _ (by omega)]
    exact pk_le L.length k (fun _ => ⟨by rw [e4]; exact ez, nm_r ed (nm_r (ql_neg b) (h2 rfl))⟩) (fun z => absurd z (by omega))
  | succ m ih =>
    intro k hk h1 h2
    obtain ⟨eA, eB, eC⟩ := S.2 k (by omega)
    obtain ⟨b1, b2, b3, _, _, b6⟩ := qg_ent G (show k < L.length by omega)
    rw [qm_drop (by omega), qf_ix] at h1 h2
    have hin : vp_in (nI k) 64 := vp_in_nI (by omega) (by omega)
    have nx : (∀ i : Nat, qf_ix (L.drop (k + 1)) a b ((k : Int) + 1) = i → post (nI i)) → (qf_ix (L.drop (k + 1)) a b ((k : Int) + 1) = qf_NO → J6 (qz_l c) (qz_l (-b))) → ∀ y, y = nI k + 1 → wY_find_59 post J6 (qz_l a) (qz_l b) (qz_i d) (nI L.length) fi mi A B C P (m + 1) y := fun h h' => nm_r (nI_1 k) (ih (k + 1) (by omega) h h')
    refine pk_le L.length k (fun z => absurd z (by omega)) (fun _ => ⟨hin, ?_⟩)
    rw [nI_clamp (by omega), eA, eB, ql_of (by omega) (by omega), ql_of (by omega) (by omega)]
    refine ql_ceq _ a rfl rfl (by omega) (by omega) (fun z => ⟨hin, ?_⟩) (fun z => ?_)
    · refine ql_ceq _ b rfl rfl (by omega) (by omega) (fun y => ?_) (fun y => ?_)
      · rw [if_pos z, if_pos y] at h1
        exact h1 k rfl
      · rw [if_pos z, if_neg y] at h1 h2
        exact nx h1 h2
    · rw [if_neg z] at h1 h2
      exact nx h1 h2
theorem yw_find_loop (G : qf_chk d L N = true) (hd : 0 < d ∧ d ≤ 400) (S : xs_L L cn A B C) {i : Nat} (hp : post (nI i)) : ∀ (n : Nat) (a b c : Int), 1 ≤ a ∧ a ≤ 2000000 → -100000000 ≤ b ∧ b ≤ 100000000 → 4 * a * c = b * b + d → qf_fc d L n a b = i → wY_find_6 post (qz_i d) cn fi mi A B C P n (qz_l a) (qz_l b) := by
  intro n
  induction n with
  | zero =>
    intro a b c ha hb hc hv
    have : qf_NO = (i : Int) := hv
    unfold qf_NO at this
    omega
  | succ n ih =>
    intro a b c ha hb hc hv
    have hne : (i : Int) ≠ qf_NO := by
      unfold qf_NO
      omega
    have fd := qm_find G hd.1 ha.1 hc hv hne
    have nb := qm_near_b b ha.1
    obtain ⟨k, hk⟩ := qm_near_k a b
    have hs := qm_shift (k := k) hc
    rw [← hk] at hs
    generalize c + b * k + a * k * k = c' at hs
    have ht := qm_third ha.1 hs
    have tb := qm_tb (d := d) (a := a) (m := qf_near b a) (by omega) (by omega) (by omega) (by omega)
    rw [ht] at tb
    have hm := qm_sq (qf_near b a)
    have c1 := qm_pos ha.1 hs (by omega)
    have key : ∃ n59, wY_find_59 post (wY_find_6 post (qz_i d) cn fi mi A B C P n) (qz_l a) (qz_l (qf_near b a)) (qz_i d) cn fi mi A B C P n59 0 := by
      refine ⟨L.length + 1, yw_ix_loop G S hd ha (by omega) hs L.length 0 (by omega) (fun i' hi' => ?_) (fun hno => ?_)⟩
      · have hi2 : qf_ix L a (qf_near b a) 0 = i' := hi'
        rcases fd with h | ⟨h, _⟩
        · have : i' = i := by omega
          rw [this]
          exact hp
        · rw [hi2] at h
          unfold qf_NO at h
          omega
      · have hno2 : qf_ix L a (qf_near b a) 0 = qf_NO := hno
        rcases fd with h | ⟨h, c2, g1, g2, g3⟩
        · exact absurd (h.symm.trans hno2) hne
        · have := qm_third ha.1 g2
          rw [ht] at this
          rw [this]
          refine ih c2 (-qf_near b a) a (by omega) (by omega) ?_ g3
          rw [Int.neg_mul_neg, ← g2]
          grind
    have e2 : (2 : Int64) * qz_l a = qz_l (2 * a) := by rw [ql_k2, ql_mul]
    have ez : ¬ qz_l (2 * a) = 0 := by
      rw [ql_k0, ql_eq (by omega) (by omega)]
      omega
    have h1 := Int.tmod_lt_of_pos b (show 0 < 2 * a by omega)
    have h2 := Int.lt_tmod_of_pos b (show 0 < 2 * a by omega)
    have er := ql_rem (a := b) (b := 2 * a) (by omega) (by omega)
    obtain ⟨t1, t2, t3⟩ := qm_near_t ha.1 (rfl : b.tmod (2 * a) = b.tmod (2 * a))
    generalize b.tmod (2 * a) = r at h1 h2 er t1 t2 t3
    refine ⟨by rw [e2]; exact ez, nm_r (e' := qz_l r) (by rw [e2]; exact er) ?_⟩
    refine ql_cle r a rfl rfl (by omega) (by omega) (fun z => ?_) (fun z => ?_)
    · refine ql_clt (-a) r (ql_neg a) rfl (by omega) (by omega) (fun y => ?_) (fun y => ?_)
      · rw [t3 z y]
        exact key
      · exact nm_r (by rw [e2, ql_add, t2 y]) key
    · refine nm_r (e' := qz_l (qf_near b a)) (by rw [e2, ql_sub, t1 z]) ?_
      exact ql_clt (-a) (qf_near b a) (ql_neg a) rfl (by omega) (by omega) (fun y => key) (fun y => absurd y (by omega))
theorem yw_find (G : qf_chk d L N = true) (hd : 0 < d ∧ d ≤ 400) (S : xs_L L cn A B C) {X Y : Int64} {a b c : Int} (hX : X = qz_l a) (hY : Y = qz_l b) {i : Nat} (ha : 1 ≤ a ∧ a ≤ 2000000) (hb : -100000000 ≤ b ∧ b ≤ 100000000) (hc : 4 * a * c = b * b + d) (hv : qf_fc d L 1000 a b = i) (hp : post (nI i)) : wpY_find post (qz_i d, cn, fi, mi, A, B, C, P) X Y := by
  subst hX hY
  exact ⟨1000, yw_find_loop G hd S hp 1000 a b c ha hb hc hv⟩
end
