/-! the component: gcd, third, reduced, nearest, index, class of a form -/
theorem xw_gcd_loop (post : Int32 → Prop) : ∀ (m s h l : Nat), l ≤ m → s + m = 1000 → h < 2147483648 → post (nI (Nat.gcd h l)) → wX_gcd_25 post (m + 1) (nI h) (nI l) (nI s) := by
  intro m
  induction m with
  | zero =>
    intro s h l hl hs hh hp
    have e : l = 0 := by omega
    subst e
    rw [Nat.gcd_zero_right] at hp
    exact pk_le 1000 s (fun _ => hp) (fun z => absurd z (by omega))
  | succ m ih =>
    intro s h l hl hs hh hp
    refine pk_le 1000 s (fun z => absurd z (by omega)) (fun _ => ?_)
    refine pk_eq l 0 (fun z => ?_) (fun z => ?_)
    · subst z
      rw [Nat.gcd_zero_right] at hp
      exact hp
    · have hm := Nat.mod_lt h (show l > 0 by omega)
      rw [Nat.gcd_comm h l, Nat.gcd_rec, Nat.gcd_comm] at hp
      exact ⟨nI_ne0 (by omega) (by omega), nm_r (pk_rem hh (by omega) (by omega)) (nm_r (nI_1 s) (ih _ _ _ (by omega) (by omega) (by omega) hp))⟩
theorem xw_abs {x : Int} (h : 0 ≤ x) : qz_i x = nI x.natAbs := by
  rw [qz_nI]
  congr 1
  omega
theorem xw_absn {x : Int} (h : x < 0) : -qz_i x = nI x.natAbs := by
  rw [qz_neg, qz_nI]
  congr 1
  omega
theorem xw_gcd {post : Int32 → Prop} {X Y : Int32} {x y : Int} (hX : X = qz_i x) (hY : Y = qz_i y) (hx : -1000000 ≤ x ∧ x ≤ 1000000) (hy : -1000 ≤ y ∧ y ≤ 1000) (hp : post (nI (Nat.gcd x.natAbs y.natAbs))) : wpX_gcd post X Y := by
  subst hX hY
  have lp : wX_gcd_25 post 1001 (nI x.natAbs) (nI y.natAbs) 0 := xw_gcd_loop post 1000 0 _ _ (by omega) (by omega) (by omega) hp
  have key : wX_gcd_10 post (qz_i y) (nI x.natAbs) := by
    unfold wX_gcd_10
    refine qz_cle 0 y qk_0 rfl (by omega) (by omega) (fun h => ⟨1001, ?_⟩) (fun h => nm_r (xw_absn h) ⟨1001, lp⟩)
    rw [xw_abs h]
    exact lp
  unfold wpX_gcd
  refine qz_cle 0 x qk_0 rfl (by omega) (by omega) (fun h => ?_) (fun h => ?_)
  · rw [xw_abs h]
    exact key
  · rw [xw_absn h]
    exact key
theorem xw_prim {post : Int32 → Prop} {a b c : Int} (ha : 1 ≤ a ∧ a ≤ 1000) (hb : -1000 ≤ b ∧ b ≤ 1000) (hc : -1000 ≤ c ∧ c ≤ 1000) (h1 : qf_g3 a b c = 1 → post 1) (h0 : qf_g3 a b c ≠ 1 → post 0) : wpX_isPrimitive post (qz_i a) (qz_i b) (qz_i c) := by
  have g1 : Nat.gcd a.natAbs b.natAbs ≤ a.natAbs := Nat.gcd_le_left _ (by omega)
  have g0 : 0 < Nat.gcd a.natAbs b.natAbs := Nat.gcd_pos_of_pos_left _ (by omega)
  have g2 : qf_g3 a b c ≤ Nat.gcd a.natAbs b.natAbs := Nat.gcd_le_left _ g0
  unfold wpX_isPrimitive
  refine xw_gcd rfl rfl (by omega) (by omega) ?_
  refine xw_gcd (qz_nI _) rfl (by omega) (by omega) ?_
  rw [Int.natAbs_natCast]
  exact pk_eq (qf_g3 a b c) 1 h1 h0
theorem qm_t2 {d a b : Int} (hd : 0 < d) : 0 ≤ qf_third d a b ∧ qf_third d a b ≤ b * b + d := by
  have s := qm_sq b
  unfold qf_third
  split
  · omega
  · split
    · exact ⟨Int.ediv_nonneg (by omega) (by omega), Int.ediv_le_self _ (by omega)⟩
    · omega
theorem xw_third {post : Int32 → Prop} {d a b : Int} {cn : Int32} {A B C P : Nat → Int32} (hd : 0 < d ∧ d ≤ 400) (ha : 0 ≤ a ∧ a ≤ 30000) (hb : -30000 ≤ b ∧ b ≤ 30000) (hp : post (qz_i (qf_third d a b))) : wpX_third post (qz_i d, cn, A, B, C, P) (qz_i a) (qz_i b) := by
  have s0 := qm_sq b
  have s1 : b * b ≤ 30000 * 30000 := qm_sqle hb.1 hb.2
  have e4 : (4 : Int32) * qz_i a = qz_i (4 * a) := by rw [qk_4, qz_mul]
  unfold wpX_third
  dsimp only
  rw [e4]
  refine qz_cle 1 a qk_1 rfl (by omega) (by omega) (fun h => ?_) (fun h => ?_)
  · have ez : ¬ qz_i (4 * a) = 0 := by
      rw [qk_0, qz_eq (by omega) (by omega)]
      omega
    refine nm_r (e' := qz_i (b * b + d)) (by rw [qz_mul, qz_add]) ⟨ez, ?_⟩
    have er := qz_rem (a := b * b + d) (b := 4 * a) (by omega) (by omega)
    rw [Int.tmod_eq_emod_of_nonneg (by omega)] at er
    have hm := Int.emod_nonneg (b * b + d) (show 4 * a ≠ 0 by omega)
    have hl := Int.emod_lt_of_pos (b * b + d) (show 0 < 4 * a by omega)
    refine qz_ceq _ 0 er qk_0 (by omega) (by omega) (fun z => ⟨ez, ?_⟩) (fun z => ?_)
    · rw [qz_div (by omega) (by omega), Int.tdiv_eq_ediv_of_nonneg (by omega)]
      unfold qf_third at hp
      rw [if_neg (by omega), if_pos z] at hp
      exact hp
    · unfold qf_third at hp
      rw [if_neg (by omega), if_neg z] at hp
      rw [qk_0]
      exact hp
  · unfold qf_third at hp
    rw [if_pos (by omega)] at hp
    rw [qk_0]
    exact hp
theorem xw_near {post : Int32 → Prop} {a b : Int} (ha : 0 ≤ a ∧ a ≤ 30000) (hb : -30000 ≤ b ∧ b ≤ 30000) (hp : post (qz_i (qf_near b a))) : wpX_nearest post (qz_i b) (qz_i a) := by
  have e2 : (2 : Int32) * qz_i a = qz_i (2 * a) := by rw [qk_2, qz_mul]
  unfold wpX_nearest
  rw [e2]
  refine qz_cle 1 a qk_1 rfl (by omega) (by omega) (fun h => ?_) (fun h => ?_)
  · have ez : ¬ qz_i (2 * a) = 0 := by
      rw [qk_0, qz_eq (by omega) (by omega)]
      omega
    refine ⟨ez, nm_r (e' := qz_i (b.tmod (2 * a))) (qz_rem (by omega) (by omega)) ?_⟩
    have h1 := Int.tmod_lt_of_pos b (show 0 < 2 * a by omega)
    have h2 := Int.lt_tmod_of_pos b (show 0 < 2 * a by omega)
    obtain ⟨t1, t2, t3⟩ := qm_near_t h (rfl : b.tmod (2 * a) = b.tmod (2 * a))
    generalize b.tmod (2 * a) = n at h1 h2 t1 t2 t3 ⊢
    refine qz_cle n a rfl rfl (by omega) (by omega) (fun z => ?_) (fun z => ?_)
    · refine qz_clt (-a) n (qz_neg a) rfl (by omega) (by omega) (fun y => ?_) (fun y => ?_)
      · rw [t3 z y]
        exact hp
      · rw [qz_add, t2 y]
        exact hp
    · rw [qz_sub, t1 z]
      exact hp
  · have e : a = 0 := by omega
    rw [e, qm_near_0] at hp
    exact hp
theorem xw_red {post : Int32 → Prop} {a b c : Int} (ha : -1000000 ≤ a ∧ a ≤ 1000000) (hb : -1000000 ≤ b ∧ b ≤ 1000000) (hc : -1000000 ≤ c ∧ c ≤ 1000000) (h1 : qf_red a b c = true → post 1) (h0 : qf_red a b c = false → post 0) : wpX_isReduced post (qz_i a) (qz_i b) (qz_i c) := by
  have g1 : (-a < b ∧ b ≤ a ∧ (a < c ∨ (a = c ∧ 0 ≤ b))) → post 1 := fun h => h1 ((qm_red a b c).mpr h)
  have g0 : ¬ (-a < b ∧ b ≤ a ∧ (a < c ∨ (a = c ∧ 0 ≤ b))) → post 0 := fun h => h0 (by rw [← Bool.not_eq_true, qm_red]; exact h)
  unfold wpX_isReduced
  refine qz_cle b (-a) rfl (qz_neg a) (by omega) (by omega) (fun z => g0 (by omega)) (fun z => ?_)
  refine qz_clt a b rfl rfl (by omega) (by omega) (fun y => g0 (by omega)) (fun y => ?_)
  refine qz_clt a c rfl rfl (by omega) (by omega) (fun x => g1 (by omega)) (fun x => ?_)
  refine qz_ceq a c rfl rfl (by omega) (by omega) (fun w => ?_) (fun w => g0 (by omega))
  exact qz_clt b 0 rfl qk_0 (by omega) (by omega) (fun v => g0 (by omega)) (fun v => g1 (by omega))
/-- the arrays hold the list -/
def xs_L (L : List qf_F) (cn : Int32) (A B C : Nat → Int32) : Prop := cn = nI L.length ∧ ∀ k, k < L.length → A k = qz_i (qf_at L k).1 ∧ B k = qz_i (qf_at L k).2.1 ∧ C k = qz_i (qf_at L k).2.2
theorem qm_drop {L : List qf_F} {k : Nat} (h : k < L.length) : L.drop k = qf_at L k :: L.drop (k + 1) := by
  have e : qf_at L k = L[k] := by simp [qf_at, h]
  rw [e]
  exact List.drop_eq_getElem_cons h
section
variable {d : Nat} {L : List qf_F} {N : Nat} {md cn : Int32} {A B C P : Nat → Int32} {post : Int32 → Prop}
theorem xw_ix_loop (G : qf_chk d L N = true) (S : xs_L L cn A B C) {a b : Int} (ha : -1000000 ≤ a ∧ a ≤ 1000000) (hb : -1000000 ≤ b ∧ b ≤ 1000000) : ∀ (m k : Nat), k + m = L.length → post (qz_i (qf_ix (L.drop k) a b k)) → wX_indexOf_2 post (qz_i a) (qz_i b) md cn A B C P (m + 1) (nI k) := by
  obtain ⟨rfl, S2⟩ := S
  have hL := (qg_1 G).2.2.1
  intro m
  induction m with
  | zero =>
    intro k hk hp
    rw [List.drop_of_length_le (by omega), qf_ix] at hp
    exact pk_le L.length k (fun _ => by rw [qk_m1000001]; exact hp) (fun z => absurd z (by omega))
  | succ m ih =>
    intro k hk hp
    obtain ⟨eA, eB, eC⟩ := S2 k (by omega)
    obtain ⟨b1, b2, b3, _, _, b6⟩ := qg_ent G (show k < L.length by omega)
    rw [qm_drop (by omega), qf_ix] at hp
    have hin : vp_in (nI k) 66 := vp_in_nI (by omega) (by omega)
    have nx : post (qz_i (qf_ix (L.drop (k + 1)) a b ((k : Int) + 1))) → ∀ y, y = nI k + 1 → wX_indexOf_2 post (qz_i a) (qz_i b) md (nI L.length) A B C P (m + 1) y := fun h => nm_r (nI_1 k) (ih (k + 1) (by omega) h)
    refine pk_le L.length k (fun z => absurd z (by omega)) (fun _ => ⟨hin, ?_⟩)
    rw [nI_clamp (by omega), eA, eB]
    refine qz_ceq _ a rfl rfl (by omega) (by omega) (fun z => ⟨hin, ?_⟩) (fun z => ?_)
    · refine qz_ceq _ b rfl rfl (by omega) (by omega) (fun y => ?_) (fun y => ?_)
      · rw [if_pos z, if_pos y] at hp
        rw [qz_nI]
        exact hp
      · rw [if_pos z, if_neg y] at hp
        exact nx hp
    · rw [if_neg z] at hp
      exact nx hp
theorem xw_ix (G : qf_chk d L N = true) (S : xs_L L cn A B C) {a b : Int} (ha : -1000000 ≤ a ∧ a ≤ 1000000) (hb : -1000000 ≤ b ∧ b ≤ 1000000) (hp : post (qz_i (qf_ix L a b 0))) : wpX_indexOf post (md, cn, A, B, C, P) (qz_i a) (qz_i b) :=
  ⟨L.length + 1, xw_ix_loop G S ha hb L.length 0 (by omega) hp⟩
theorem xw_fc_loop (G : qf_chk d L N = true) (hd : 0 < d ∧ d ≤ 400) (S : xs_L L cn A B C) : ∀ (m s : Nat) (a b : Int), s + m = 1000 → 0 ≤ a ∧ a ≤ 30000 → -30000 ≤ b ∧ b ≤ 30000 → post (qz_i (qf_fc d L m a b)) → wX_formClass_20 post (qz_i d) cn A B C P (m + 1) (qz_i a) (qz_i b) (nI s) := by
  intro m
  induction m with
  | zero =>
    intro s a b hs ha hb hp
    exact pk_le 1000 s (fun _ => by rw [qk_m1000001]; exact hp) (fun z => absurd z (by omega))
  | succ m ih =>
    intro s a b hs ha hb hp
    rw [qf_fc] at hp
    have nb := qm_nb (a := a) (b := b) (B := 30000) ha.1 ha.2 hb.1 hb.2
    have tb : 0 ≤ qf_third d a (qf_near b a) ∧ qf_third d a (qf_near b a) ≤ 30000 := by
      refine qm_bnd (by omega) (by omega) ha.1 ha.2 (by omega) ?_
      rcases (show 0 < a ∨ a ≤ 0 by omega) with h | h
      · have := qm_near_b b (show 1 ≤ a by omega)
        omega
      · omega
    refine pk_le 1000 s (fun z => absurd z (by omega)) (fun _ => ?_)
    refine xw_near ha hb (xw_third (by omega) ha nb (xw_red (by omega) (by omega) (by omega) (fun hr => ?_) (fun hr => ?_)))
    · rw [if_pos hr] at hp
      exact br_f (by decide) (xw_ix G S (by omega) (by omega) hp)
    · rw [if_neg (by rw [hr]; decide)] at hp
      exact br_t rfl (nm_r (qz_neg _) (nm_r (nI_1 s) (ih _ _ _ (by omega) tb (by omega) hp)))
theorem xw_fcl (G : qf_chk d L N = true) (hd : 0 < d ∧ d ≤ 400) (S : xs_L L cn A B C) {X Y : Int32} {a b : Int} (hX : X = qz_i a) (hY : Y = qz_i b) (ha : 0 ≤ a ∧ a ≤ 30000) (hb : -30000 ≤ b ∧ b ≤ 30000) (hp : post (qz_i (qf_fcl d L a b))) : wpX_formClass post (qz_i d, cn, A, B, C, P) X Y := by
  subst hX hY
  have s1 : b * b ≤ 30000 * 30000 := qm_sqle hb.1 hb.2
  have t2 := qm_t2 (d := d) (a := a) (b := b) (by omega)
  unfold qf_fcl at hp
  unfold wpX_formClass
  dsimp only
  refine xw_third (by omega) ha hb ?_
  refine qz_ceq _ 0 rfl qk_0 (by omega) (by omega) (fun z => ?_) (fun z => ⟨1001, ?_⟩)
  · rw [if_pos z] at hp
    rw [qk_m1000001]
    exact hp
  · rw [if_neg z] at hp
    exact xw_fc_loop G hd S 1000 0 a b (by omega) ha hb hp
theorem qm_fcl_b (G : qf_chk d L N = true) (a b : Int) : -1000001 ≤ qf_fcl d L a b ∧ qf_fcl d L a b ≤ 31 := by
  have hL := (qg_1 G).2.2.1
  unfold qf_fcl
  split
  · decide
  · rcases qm_fcl_range G 1000 a b with h | ⟨i, hi, h⟩
    · rw [h]; decide
    · rw [h]; omega
end
