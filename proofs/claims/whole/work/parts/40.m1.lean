/-! the methods over a table: classes, products, powers -/
section
variable {d : Nat} {L : List qf_F} {N n : Nat} {md cn : Int32} {fi mi : Int64} {A B C P : Nat → Int32} {post : Int32 → Prop}
theorem xw_c0 {k : Int32} (h : k < 0 ∨ nI n ≤ k) (hp : post 0) : wpX_isClass post (md, nI n, A, B, C, P) k := by
  unfold wpX_isClass
  dsimp only
  by_cases h0 : k < 0
  · exact br_t h0 hp
  · exact br_f h0 (br_t (h.resolve_left h0) hp)
theorem xw_c1 {i : Nat} (hi : i < n) (hn : n < 2147483648) (hp : post 1) : wpX_isClass post (md, nI n, A, B, C, P) (nI i) := by
  unfold wpX_isClass
  dsimp only
  exact br_f (nI_pos (by omega)) (br_f (nI_ge hi hn) hp)
theorem yw_c1 {k : Int32} (h : k < 0 ∨ nI n ≤ k) (hp : post 1) : wpY_noClass post (md, nI n, fi, mi, A, B, C, P) k := by
  unfold wpY_noClass
  dsimp only
  by_cases h0 : k < 0
  · exact br_t h0 hp
  · exact br_f h0 (br_f (Int32.not_lt.mpr (h.resolve_left h0)) hp)
theorem yw_c0 {i : Nat} (hi : i < n) (hn : n < 2147483648) (hp : post 0) : wpY_noClass post (md, nI n, fi, mi, A, B, C, P) (nI i) := by
  unfold wpY_noClass
  dsimp only
  exact br_f (nI_pos (by omega)) (br_t (nI_lt hi hn) hp)
theorem yw_neutral (G : qf_chk d L N = true) (S : xs_L L cn A B C) (hp : post 0) : wpY_neutral post (md, cn, fi, mi, A, B, C, P) := by
  obtain ⟨_, _, _, g4, g5⟩ := qg_1 G
  have e : A (0 : Int32).toNatClampNeg = 1 := by
    show A 0 = 1
    rw [(S.2 0 g4).1, g5, qk_1]
  exact ⟨1, vp_in_nI (n := 0) (by omega) (by omega), br_t e hp⟩
theorem xw_product (G : qf_chk d L N = true) (SP : xs_P N L.length 66 P L.length 0) {i j : Nat} (hi : i < L.length) (hj : j < L.length) (hp : post (nI (qf_P N L.length i j))) : wpX_product post (md, nI L.length, A, B, C, P) (nI i) (nI j) := by
  have hL := (qg_1 G).2.2.1
  have ei : (nI i * 66) + nI j = nI (66 * i + j) := by rw [show (66 : Int32) = nI 66 from rfl, pk_mul, nI_add, Nat.mul_comm]
  have ep : P ((nI i * 66) + nI j).toNatClampNeg = nI (qf_P N L.length i j) := by
    rw [ei, nI_clamp (by omega)]
    exact SP i j hi hj (by omega)
  unfold wpX_product
  dsimp only
  refine xw_c1 hi (by omega) (br_f (by decide) ?_)
  refine xw_c1 hj (by omega) (br_f (by decide) ?_)
  refine ⟨by rw [ei]; exact vp_in_nI (by omega) (by omega), ?_⟩
  rw [ep]
  exact hp
theorem yw_at (G : qf_chk d L N = true) (SP : xs_P N L.length 64 P L.length 0) {i j : Nat} (hi : i < L.length) (hj : j < L.length) : vp_in ((64 * nI i) + nI j) 4096 ∧ P ((64 * nI i) + nI j).toNatClampNeg = nI (qf_P N L.length i j) := by
  have hL := (qg_1 G).2.2.1
  have ei : (64 * nI i) + nI j = nI (64 * i + j) := by rw [show (64 : Int32) = nI 64 from rfl, pk_mul, nI_add]
  rw [ei]
  refine ⟨vp_in_nI (by omega) (by omega), ?_⟩
  rw [nI_clamp (by omega)]
  exact SP i j hi hj (by omega)
theorem xw_inv (G : qf_chk d L N = true) (hd : 0 < d ∧ d ≤ 400) (S : xs_L L (nI L.length) A B C) {i : Nat} (hi : i < L.length) (hp : post (nI (qf_inv d L i))) : wpX_inverse post (qz_i d, nI L.length, A, B, C, P) (nI i) := by
  have hL := (qg_1 G).2.2.1
  obtain ⟨eA, eB, eC⟩ := S.2 i hi
  obtain ⟨b1, b2, b3, _, _, b6⟩ := qg_ent G hi
  obtain ⟨v1, _⟩ := qg_inv G hi
  have hin : vp_in (nI i) 66 := vp_in_nI (by omega) (by omega)
  unfold wpX_inverse
  dsimp only
  refine xw_c1 hi (by omega) (br_f (by decide) ⟨hin, hin, ?_⟩)
  refine xw_fcl G hd S (a := (qf_at L i).1) (b := -(qf_at L i).2.1) (by rw [nI_clamp (by omega), eA]) (by rw [nI_clamp (by omega), eB, qz_neg]) (by omega) (by omega) ?_
  have e : qz_i (qf_fcl d L (qf_at L i).1 (-(qf_at L i).2.1)) = nI (qf_inv d L i) := by
    rw [qz_nI]
    congr 1
    unfold qf_inv
    omega
  rw [e]
  exact hp
theorem yw_inv_loop (G : qf_chk d L N = true) (SP : xs_P N L.length 64 P L.length 0) {i : Nat} (hi : i < L.length) (hp : post (nI (qf_inv d L i))) : ∀ (m j : Nat), j + m = qf_inv d L i → wY_inverse_18 post (nI i) 0 md cn fi mi A B C P (m + 1) (nI j) := by
  have hL := (qg_1 G).2.2.1
  obtain ⟨v1, v2, v3, v4, _⟩ := qg_inv G hi
  intro m
  induction m with
  | zero =>
    intro j hj
    have e : j = qf_inv d L i := by omega
    subst e
    obtain ⟨q1, q2⟩ := yw_at G SP hi v2
    exact ⟨q1, br_t (by rw [q2, v3]; rfl) hp⟩
  | succ m ih =>
    intro j hj
    obtain ⟨q1, q2⟩ := yw_at G SP hi (show j < L.length by omega)
    obtain ⟨p1, _⟩ := qg_P G hi (show j < L.length by omega)
    have v5 := v4 j (by omega)
    exact ⟨q1, br_f (by rw [q2]; exact nI_ne0 (by omega) (by omega)) (nm_r (nI_1 j) (ih (j + 1) (by omega)))⟩
theorem yw_inv (G : qf_chk d L N = true) (S : xs_L L (nI L.length) A B C) (SP : xs_P N L.length 64 P L.length 0) {i : Nat} (hi : i < L.length) (hp : post (nI (qf_inv d L i))) : wpY_inverse post (md, nI L.length, fi, mi, A, B, C, P) (nI i) := by
  have hL := (qg_1 G).2.2.1
  unfold wpY_inverse
  dsimp only
  refine yw_c0 hi (by omega) (br_t rfl ?_)
  exact yw_neutral G S ⟨qf_inv d L i + 1, yw_inv_loop G SP hi hp (qf_inv d L i) 0 (by omega)⟩
theorem xw_rep_loop (G : qf_chk d L N = true) (SP : xs_P N L.length 66 P L.length 0) {i e : Nat} (hi : i < L.length) (he : e ≤ 1000) : ∀ (m s k : Nat), k < L.length → s + m = e → post (nI (qf_it N L.length i m k)) → wX_repeated_5 post (nI i) (nI e) md (nI L.length) A B C P (m + 1) (nI k) (nI s) := by
  intro m
  induction m with
  | zero =>
    intro s k hk hs hp
    exact pk_le e s (fun _ => hp) (fun z => absurd z (by omega))
  | succ m ih =>
    intro s k hk hs hp
    obtain ⟨p1, _⟩ := qg_P G hk hi
    refine pk_le e s (fun z => absurd z (by omega)) (fun _ => ?_)
    exact xw_product G SP hk hi (nm_r (nI_1 s) (ih (s + 1) _ p1 (by omega) hp))
theorem xw_rep (G : qf_chk d L N = true) (SP : xs_P N L.length 66 P L.length 0) {X : Int32} {i e : Nat} (hX : X = nI e) (hi : i < L.length) (he : e ≤ 1000) (hp : post (nI (qf_it N L.length i e 0))) : wpX_repeated post (md, nI L.length, A, B, C, P) (nI i) X := by
  subst hX
  exact ⟨e + 1, xw_rep_loop G SP hi he e 0 0 (qg_1 G).2.2.2.1 (by omega) hp⟩
theorem yw_times_loop (G : qf_chk d L N = true) (SP : xs_P N L.length 64 P L.length 0) {i e : Nat} (hi : i < L.length) (he : e ≤ 1000) : ∀ (m s k : Nat), k < L.length → s + m = e → post (nI (qf_it N L.length i m k)) → wY_times_8 post (nI i) (nI e) md cn fi mi A B C P (m + 1) (nI k) (nI s) := by
  intro m
  induction m with
  | zero =>
    intro s k hk hs hp
    exact pk_le e s (fun _ => hp) (fun z => absurd z (by omega))
  | succ m ih =>
    intro s k hk hs hp
    obtain ⟨p1, _⟩ := qg_P G hk hi
    obtain ⟨q1, q2⟩ := yw_at G SP hk hi
    refine pk_le e s (fun z => absurd z (by omega)) (fun _ => ?_)
    exact ⟨q1, nm_r q2 (nm_r (nI_1 s) (ih (s + 1) _ p1 (by omega) hp))⟩
theorem yw_times (G : qf_chk d L N = true) (S : xs_L L cn A B C) (SP : xs_P N L.length 64 P L.length 0) {X : Int32} {i e : Nat} (hX : X = nI e) (hi : i < L.length) (he : e ≤ 1000) (hp : post (nI (qf_it N L.length i e 0))) : wpY_times post (md, cn, fi, mi, A, B, C, P) (nI i) X := by
  subst hX
  unfold wpY_times
  dsimp only
  exact yw_neutral G S ⟨e + 1, yw_times_loop G SP hi he e 0 0 (qg_1 G).2.2.2.1 (by omega) hp⟩
end
section
variable {d : Nat} {L : List qf_F} {N : Nat} {md md' cn : Int32} {fi mi : Int64} {A B C P A' B' C' P' : Nat → Int32}
theorem xy_order (G : qf_chk d L N = true) (SP : xs_P N L.length 66 P L.length 0) (SP' : xs_P N L.length 64 P' L.length 0) {i : Nat} (hi : i < L.length) : ∀ (m k s : Nat), k < L.length → qf_it N L.length i m k = 0 → s + m ≤ L.length → ∃ r, (∀ post : Int32 → Prop, post r → wX_order_15 post (nI i) md (nI L.length) A B C P (m + 1) (nI k) (nI s)) ∧ (∀ post : Int32 → Prop, post r → wY_order_21 post (nI i) 0 md' cn fi mi A' B' C' P' (m + 1) (nI s) (nI k)) := by
  have hL := (qg_1 G).2.2.1
  intro m
  induction m with
  | zero =>
    intro k s hk h0 hs
    have e : k = 0 := h0
    subst e
    exact ⟨nI s, fun post hp => pk_lt L.length s (fun z => absurd z (by omega)) (fun _ => br_t rfl hp), fun post hp => br_t rfl hp⟩
  | succ m ih =>
    intro k s hk h0 hs
    by_cases e : k = 0
    · subst e
      exact ⟨nI s, fun post hp => pk_lt L.length s (fun z => absurd z (by omega)) (fun _ => br_t rfl hp), fun post hp => br_t rfl hp⟩
    · obtain ⟨p1, _⟩ := qg_P G hk hi
      obtain ⟨q1, q2⟩ := yw_at G SP' hk hi
      obtain ⟨r, hX, hY⟩ := ih (qf_P N L.length k i) (s + 1) p1 h0 (by omega)
      have nz : ¬ nI k = 0 := nI_ne0 (by omega) (by omega)
      exact ⟨r, fun post hp => pk_lt L.length s (fun z => absurd z (by omega)) (fun _ => br_f nz (xw_product G SP hk hi (nm_r (nI_1 s) (hX post hp)))), fun post hp => br_f nz (nm_r (nI_1 s) ⟨q1, nm_r q2 (hY post hp)⟩)⟩
theorem xy_roots (G : qf_chk d L N = true) (SP : xs_P N L.length 66 P L.length 0) (S' : xs_L L (nI L.length) A' B' C') (SP' : xs_P N L.length 64 P' L.length 0) {e : Nat} (he : e ≤ 1000) : ∀ (m k c : Nat), k + m = L.length → ∃ r, (∀ post : Int32 → Prop, post r → wX_roots_19 post (nI e) md (nI L.length) A B C P (m + 1) (nI c) (nI k)) ∧ (∀ post : Int32 → Prop, post r → wY_roots_25 post (nI e) 0 md' (nI L.length) fi mi A' B' C' P' (m + 1) (nI c) (nI k)) := by
  have hL := (qg_1 G).2.2.1
  intro m
  induction m with
  | zero =>
    intro k c hk
    exact ⟨nI c, fun post hp => pk_le L.length k (fun _ => hp) (fun z => absurd z (by omega)), fun post hp => pk_le L.length k (fun _ => hp) (fun z => absurd z (by omega))⟩
  | succ m ih =>
    intro k c hk
    by_cases h : nI (qf_it N L.length k e 0) = 0
    · obtain ⟨r, hX, hY⟩ := ih (k + 1) (c + 1) (by omega)
      exact ⟨r, fun post hp => pk_le L.length k (fun z => absurd z (by omega)) (fun _ => xw_rep G SP rfl (by omega) he (br_t h (nm_r (nI_1 c) (nm_r (nI_1 k) (hX post hp))))), fun post hp => pk_le L.length k (fun z => absurd z (by omega)) (fun _ => yw_times G S' SP' rfl (by omega) he (br_t h (nm_r (nI_1 c) (nm_r (nI_1 k) (hY post hp)))))⟩
    · obtain ⟨r, hX, hY⟩ := ih (k + 1) c (by omega)
      exact ⟨r, fun post hp => pk_le L.length k (fun z => absurd z (by omega)) (fun _ => xw_rep G SP rfl (by omega) he (br_f h (nm_r (nI_1 k) (hX post hp)))), fun post hp => pk_le L.length k (fun z => absurd z (by omega)) (fun _ => yw_times G S' SP' rfl (by omega) he (br_f h (nm_r (nI_1 k) (hY post hp))))⟩
/-- is k a square, from i on -/
def qs_sq (N h k : Nat) : Nat → Nat → Bool
  | 0, _ => false
  | m + 1, i => if qf_P N h i i = k then true else qs_sq N h k m (i + 1)
theorem xw_sq (G : qf_chk d L N = true) (SP : xs_P N L.length 66 P L.length 0) {k : Nat} (hk : k < L.length) {post : Int32 → Prop} : ∀ (m i : Nat), i + m = L.length → (qs_sq N L.length k m i = true → post 1) → (qs_sq N L.length k m i = false → post 0) → wX_isSquare_2 post (nI k) md (nI L.length) A B C P (m + 1) (nI i) := by
  have hL := (qg_1 G).2.2.1
  intro m
  induction m with
  | zero =>
    intro i hi h1 h0
    exact pk_le L.length i (fun _ => h0 rfl) (fun z => absurd z (by omega))
  | succ m ih =>
    intro i hi h1 h0
    have hi' : i < L.length := by omega
    obtain ⟨p1, _⟩ := qg_P G hi' hi'
    rw [qs_sq] at h1 h0
    refine pk_le L.length i (fun z => absurd z (by omega)) (fun _ => ?_)
    refine xw_product G SP hi' hi' ?_
    refine pk_eq (qf_P N L.length i i) k (fun z => ?_) (fun z => ?_)
    · rw [if_pos z] at h1
      exact h1 rfl
    · rw [if_neg z] at h1 h0
      exact nm_r (nI_1 i) (ih (i + 1) (by omega) h1 h0)
theorem yw_sq1 (G : qf_chk d L N = true) {x1 x2 : Int32} {post : Int32 → Prop} {J4 : Int32 → Int32 → Prop} (hJ : J4 (x1 + 1) (x2 + 1)) : ∀ (m i : Nat), i + m = L.length → wY_squares_17 post J4 x1 x2 md (nI L.length) fi mi A B C P (m + 1) 1 (nI i) := by
  have hL := (qg_1 G).2.2.1
  intro m
  induction m with
  | zero =>
    intro i hi
    exact pk_le L.length i (fun _ => br_f (by decide) (nm_e (nm_e hJ))) (fun z => absurd z (by omega))
  | succ m ih =>
    intro i hi
    exact pk_le L.length i (fun z => absurd z (by omega)) (fun _ => br_f (by decide) (nm_r (nI_1 i) (ih (i + 1) (by omega))))
theorem yw_sq (G : qf_chk d L N = true) (SP : xs_P N L.length 64 P L.length 0) {x1 : Int32} {k : Nat} (hk : k < L.length) {post : Int32 → Prop} {J4 : Int32 → Int32 → Prop} : ∀ (m i : Nat), i + m = L.length → (qs_sq N L.length k m i = true → J4 (x1 + 1) (nI k + 1)) → (qs_sq N L.length k m i = false → J4 x1 (nI k + 1)) → wY_squares_17 post J4 x1 (nI k) md (nI L.length) fi mi A B C P (m + 1) 0 (nI i) := by
  have hL := (qg_1 G).2.2.1
  intro m
  induction m with
  | zero =>
    intro i hi h1 h0
    exact pk_le L.length i (fun _ => br_t rfl (nm_e (h0 rfl))) (fun z => absurd z (by omega))
  | succ m ih =>
    intro i hi h1 h0
    have hi' : i < L.length := by omega
    obtain ⟨p1, _⟩ := qg_P G hi' hi'
    obtain ⟨q1, q2⟩ := yw_at G SP hi' hi'
    rw [qs_sq] at h1 h0
    refine pk_le L.length i (fun z => absurd z (by omega)) (fun _ => br_t rfl ⟨q1, ?_⟩)
    rw [q2]
    refine pk_eq (qf_P N L.length i i) k (fun z => ?_) (fun z => ?_)
    · rw [if_pos z] at h1
      exact nm_r (nI_1 i) (yw_sq1 G (h1 rfl) m (i + 1) (by omega))
    · rw [if_neg z] at h1 h0
      exact nm_r (nI_1 i) (ih (i + 1) (by omega) h1 h0)
theorem xy_squares (G : qf_chk d L N = true) (SP : xs_P N L.length 66 P L.length 0) (SP' : xs_P N L.length 64 P' L.length 0) : ∀ (m k c : Nat), k + m = L.length → ∃ r, (∀ post : Int32 → Prop, post r → wX_squares_4 post md (nI L.length) A B C P (m + 1) (nI c) (nI k)) ∧ (∀ post : Int32 → Prop, post r → wY_squares_4 post md' (nI L.length) fi mi A' B' C' P' (m + 1) (nI c) (nI k)) := by
  have hL := (qg_1 G).2.2.1
  intro m
  induction m with
  | zero =>
    intro k c hk
    exact ⟨nI c, fun post hp => pk_le L.length k (fun _ => hp) (fun z => absurd z (by omega)), fun post hp => pk_le L.length k (fun _ => hp) (fun z => absurd z (by omega))⟩
  | succ m ih =>
    intro k c hk
    have hk' : k < L.length := by omega
    cases h : qs_sq N L.length k L.length 0 with
    | true =>
      obtain ⟨r, hX, hY⟩ := ih (k + 1) (c + 1) (by omega)
      refine ⟨r, fun post hp => ?_, fun post hp => ?_⟩
      · refine pk_le L.length k (fun z => absurd z (by omega)) (fun _ => ⟨L.length + 1, ?_⟩)
        exact xw_sq G SP hk' L.length 0 (by omega) (fun _ => br_f (by decide) (nm_r (nI_1 c) (nm_r (nI_1 k) (hX post hp)))) (fun z => by rw [h] at z; exact absurd z (by decide))
      · refine pk_le L.length k (fun z => absurd z (by omega)) (fun _ => ⟨L.length + 1, ?_⟩)
        exact yw_sq G SP' hk' L.length 0 (by omega) (fun _ => by rw [nI_1, nI_1]; exact hY post hp) (fun z => by rw [h] at z; exact absurd z (by decide))
    | false =>
      obtain ⟨r, hX, hY⟩ := ih (k + 1) c (by omega)
      refine ⟨r, fun post hp => ?_, fun post hp => ?_⟩
      · refine pk_le L.length k (fun z => absurd z (by omega)) (fun _ => ⟨L.length + 1, ?_⟩)
        exact xw_sq G SP hk' L.length 0 (by omega) (fun z => by rw [h] at z; exact absurd z (by decide)) (fun _ => br_t rfl (nm_r (nI_1 k) (hX post hp)))
      · refine pk_le L.length k (fun z => absurd z (by omega)) (fun _ => ⟨L.length + 1, ?_⟩)
        exact yw_sq G SP' hk' L.length 0 (by omega) (fun z => by rw [h] at z; exact absurd z (by decide)) (fun _ => by rw [nI_1]; exact hY post hp)
end
