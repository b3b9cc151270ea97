/-! the component: products and lists -/
def xs_P (N h w : Nat) (pr : Nat → Int32) (i j : Nat) : Prop := ∀ i' j', i' < h → j' < h → (i' < i ∨ (i' = i ∧ j' < j)) → pr (w * i' + j') = nI (qf_P N h i' j')
theorem xs_put66 {N h : Nat} {pr : Nat → Int32} {i j : Nat} (hw : h ≤ 31) (hj : j < h) (S : xs_P N h 66 pr i j) : xs_P N h 66 (upd pr (66 * i + j) (nI (qf_P N h i j))) i (j + 1) := by
  intro i' j' h1 h2 h3
  by_cases e : i' = i ∧ j' = j
  · obtain ⟨rfl, rfl⟩ := e
    exact pk_us
  · rw [pk_un (by omega)]
    exact S i' j' h1 h2 (by omega)
theorem xs_put64 {N h : Nat} {pr : Nat → Int32} {i j : Nat} (hw : h ≤ 31) (hj : j < h) (S : xs_P N h 64 pr i j) : xs_P N h 64 (upd pr (64 * i + j) (nI (qf_P N h i j))) i (j + 1) := by
  intro i' j' h1 h2 h3
  by_cases e : i' = i ∧ j' = j
  · obtain ⟨rfl, rfl⟩ := e
    exact pk_us
  · rw [pk_un (by omega)]
    exact S i' j' h1 h2 (by omega)
section
variable {d : Nat} {L : List qf_F} {N : Nat} {cn : Int32} {A B C P : Nat → Int32}
theorem xw_ft_loop (G : qf_chk d L N = true) (hd : 0 < d ∧ d ≤ 400) (S : xs_L L cn A B C) {post : Int32 → Prop} {J15 : Int32 → Prop} {i j e : Nat} (hi : i < L.length) (hj : j < L.length) (he : 1 ≤ e ∧ e ≤ 1000) : ∀ (m t : Nat), t + m = e → (∀ r, qf_ft d L j (qf_at L i).1 e m ((qf_at L i).2.1 + 2 * (qf_at L i).1 * t) = some r → post (qz_i r)) → (qf_ft d L j (qf_at L i).1 e m ((qf_at L i).2.1 + 2 * (qf_at L i).1 * t) = none → J15 (nI (e + 1))) → wX_findProduct_36 post J15 (nI i) (nI j) (qz_i (qf_at L i).1) (nI e) (qz_i d) cn A B C P (m + 1) (nI t) := by
  have hL := (qg_1 G).2.2.1
  obtain ⟨eA, eB, eC⟩ := S.2 i hi
  obtain ⟨b1, b2, b3, _, _, b6⟩ := qg_ent G hi
  generalize (qf_at L i).1 = a at b1 b2 b3 ⊢
  generalize (qf_at L i).2.1 = bi at eB b3 ⊢
  have q3 : a * (e : Int) ≤ 11 * 1000 := Int.mul_le_mul b2 (by omega) (by omega) (by omega)
  have q4 : 0 ≤ a * (e : Int) := Int.mul_nonneg (by omega) (by omega)
  intro m
  induction m with
  | zero =>
    intro t ht h1 h2
    exact pk_le e t (fun _ => nm_r (nI_1 e) (h2 rfl)) (fun z => absurd z (by omega))
  | succ m ih =>
    intro t ht h1 h2
    have q1 : a * (t : Int) ≤ 11 * 1000 := Int.mul_le_mul b2 (by omega) (by omega) (by omega)
    have q0 : 0 ≤ a * (t : Int) := Int.mul_nonneg (by omega) (by omega)
    have q2 : 2 * a * (t : Int) = 2 * (a * t) := Int.mul_assoc _ _ _
    have fb := qm_fcl_b G e (bi + 2 * a * t)
    refine pk_le e t (fun z => absurd z (by omega)) (fun _ => ⟨vp_in_nI (by omega) (by omega), ?_⟩)
    refine nm_r (e' := qz_i (bi + 2 * a * t)) ?_ ?_
    · rw [nI_clamp (by omega), eB, qz_nI t, qk_2, qz_mul, qz_mul, qz_add]
    · refine xw_fcl G hd S (qz_nI e) rfl (by omega) (by omega) ?_
      rw [qf_ft] at h1 h2
      refine qz_ceq _ (j : Int) rfl (qz_nI j) (by omega) (by omega) (fun z => ?_) (fun z => ?_)
      · refine xw_fcl G hd S (a := a * e) (by rw [qz_nI e, qz_mul]) rfl (by omega) (by omega) ?_
        exact h1 _ (by rw [if_pos z])
      · rw [if_neg z] at h1 h2
        have e3 : bi + 2 * a * (t : Int) + 2 * a = bi + 2 * a * ((t + 1 : Nat) : Int) := by
          rw [Int.natCast_add, Int.mul_add]
          omega
        rw [e3] at h1 h2
        exact nm_r (nI_1 t) (ih (t + 1) (by omega) h1 h2)
theorem xw_fe_loop (G : qf_chk d L N = true) (hd : 0 < d ∧ d ≤ 400) (S : xs_L L cn A B C) {post : Int32 → Prop} {i j : Nat} (hi : i < L.length) (hj : j < L.length) : ∀ (m e : Nat), e + m = 1001 → 1 ≤ e → post (qz_i (qf_fe d L j (qf_at L i).1 (qf_at L i).2.1 m e)) → wX_findProduct_15 post (nI i) (nI j) (qz_i (qf_at L i).1) (qz_i d) cn A B C P (m + 1) (nI e) := by
  obtain ⟨b1, b2, b3, _, _, b6⟩ := qg_ent G hi
  intro m
  induction m with
  | zero =>
    intro e he h1 hp
    exact pk_lt 1000 e (fun _ => by rw [qk_m1000001]; exact hp) (fun z => absurd z (by omega))
  | succ m ih =>
    intro e he h1 hp
    have g1 : Nat.gcd (qf_at L i).1.natAbs e ≤ (qf_at L i).1.natAbs := Nat.gcd_le_left _ (by omega)
    rw [qf_fe] at hp
    refine pk_lt 1000 e (fun z => absurd z (by omega)) (fun _ => ?_)
    refine xw_gcd rfl (qz_nI e) (by omega) (by omega) ?_
    rw [Int.natAbs_natCast]
    refine pk_eq (Nat.gcd (qf_at L i).1.natAbs e) 1 (fun z => ⟨e + 1, ?_⟩) (fun z => ?_)
    · rw [if_pos z] at hp
      have e0 : (qf_at L i).2.1 + 2 * (qf_at L i).1 * ((0 : Nat) : Int) = (qf_at L i).2.1 := by simp
      refine xw_ft_loop G hd S hi hj (by omega) e 0 (by omega) (fun r hr => ?_) (fun hr => ?_)
      · rw [e0] at hr
        rw [hr] at hp
        exact hp
      · rw [e0] at hr
        rw [hr] at hp
        exact ih (e + 1) (by omega) (by omega) hp
    · rw [if_neg z] at hp
      exact nm_r (nI_1 e) (ih (e + 1) (by omega) (by omega) hp)
theorem xw_fp (G : qf_chk d L N = true) (hd : 0 < d ∧ d ≤ 400) (S : xs_L L cn A B C) {post : Int32 → Prop} {i j : Nat} (hi : i < L.length) (hj : j < L.length) (hp : post (nI (qf_P N L.length i j))) : wpX_findProduct post (qz_i d, cn, A, B, C, P) (nI i) (nI j) := by
  have hL := (qg_1 G).2.2.1
  obtain ⟨p1, p2, p3⟩ := qg_P G hi hj
  obtain ⟨b1, b2, b3, _, _, b6⟩ := qg_ent G hj
  have ei : A (nI i).toNatClampNeg = qz_i (qf_at L i).1 := by
    rw [nI_clamp (by omega)]
    exact (S.2 i hi).1
  have ej : A (nI j).toNatClampNeg = nI (qf_at L j).1.toNat := by
    rw [nI_clamp (by omega), (S.2 j hj).1, qz_nI]
    congr 1
    omega
  refine ⟨vp_in_nI (by omega) (by omega), nm_r ei ⟨vp_in_nI (by omega) (by omega), nm_r ej ⟨(1001 - (qf_at L j).1.toNat) + 1, xw_fe_loop G hd S hi hj _ _ (by omega) (by omega) ?_⟩⟩⟩
  rw [p2, ← qz_nI]
  exact hp
theorem xw_fill12 (G : qf_chk d L N = true) (hd : 0 < d ∧ d ≤ 400) (S : xs_L L cn A B C) {post : SX → Prop} {J2 : Int32 → (Nat → Int32) → (Nat → Int32) → (Nat → Int32) → (Nat → Int32) → Prop} {i : Nat} (hi : i < L.length) : ∀ (m j : Nat) (pr : Nat → Int32), j + m = L.length → xs_P N L.length 66 pr i j → (∀ pr', xs_P N L.length 66 pr' (i + 1) 0 → J2 (nI (i + 1)) A B C pr') → wX_fillProducts_12 post J2 (nI i) (qz_i d) cn (m + 1) (nI j) A B C pr := by
  have hL := (qg_1 G).2.2.1
  have hc := S.1
  subst hc
  intro m
  induction m with
  | zero =>
    intro j pr hj Q hJ
    exact pk_le L.length j (fun _ => nm_r (nI_1 i) (hJ pr (fun i' j' h1 h2 h3 => Q i' j' h1 h2 (by omega)))) (fun z => absurd z (by omega))
  | succ m ih =>
    intro j pr hj Q hJ
    have ei : (nI i * 66) + nI j = nI (66 * i + j) := by rw [show (66 : Int32) = nI 66 from rfl, pk_mul, nI_add, Nat.mul_comm]
    have eu : upd pr ((nI i * 66) + nI j).toNatClampNeg (nI (qf_P N L.length i j)) = upd pr (66 * i + j) (nI (qf_P N L.length i j)) := by rw [ei, nI_clamp (by omega)]
    refine pk_le L.length j (fun z => absurd z (by omega)) (fun _ => ?_)
    refine xw_fp G hd S hi (by omega) ?_
    refine ⟨by rw [ei]; exact vp_in_nI (by omega) (by omega), nm_r eu (nm_r (nI_1 j) (ih (j + 1) _ (by omega) (xs_put66 hL (by omega) Q) hJ))⟩
theorem xw_fill2 (G : qf_chk d L N = true) (hd : 0 < d ∧ d ≤ 400) (S : xs_L L cn A B C) {post : SX → Prop} : ∀ (m i : Nat) (pr : Nat → Int32), i + m = L.length → xs_P N L.length 66 pr i 0 → (∀ pr', xs_P N L.length 66 pr' L.length 0 → post (qz_i d, cn, A, B, C, pr')) → wX_fillProducts_2 post (qz_i d) cn (m + 1) (nI i) A B C pr := by
  have hL := (qg_1 G).2.2.1
  have hc := S.1
  subst hc
  intro m
  induction m with
  | zero =>
    intro i pr hi Q hp
    have e : i = L.length := by omega
    rw [e] at Q
    exact pk_le L.length i (fun _ => hp pr Q) (fun z => absurd z (by omega))
  | succ m ih =>
    intro i pr hi Q hp
    exact pk_le L.length i (fun z => absurd z (by omega)) (fun _ => ⟨L.length + 1, xw_fill12 G hd S (by omega) L.length 0 pr (by omega) Q (fun pr' Q' => ih (i + 1) pr' (by omega) Q' hp)⟩)
theorem xw_fill (G : qf_chk d L N = true) (hd : 0 < d ∧ d ≤ 400) (S : xs_L L cn A B C) {post : SX → Prop} (hp : ∀ pr', xs_P N L.length 66 pr' L.length 0 → post (qz_i d, cn, A, B, C, pr')) : wpX_fillProducts post (qz_i d, cn, A, B, C, P) :=
  ⟨L.length + 1, xw_fill2 G hd S L.length 0 P (by omega) (fun _ _ _ _ h => absurd h (by omega)) hp⟩
end
theorem qm_lb_len (d a : Int) : ∀ (m : Nat) (b : Int) (acc : List qf_F), acc.length ≤ (qf_lb d a m b acc).length := by
  intro m
  induction m with
  | zero => intro b acc; exact Nat.le_refl _
  | succ m ih =>
    intro b acc
    rw [qf_lb]
    refine Nat.le_trans ?_ (ih _ _)
    split <;> simp
theorem qm_la_len (d : Int) : ∀ (m a : Nat) (acc : List qf_F), acc.length ≤ (qf_la d m a acc).length := by
  intro m
  induction m with
  | zero => intro b acc; exact Nat.le_refl _
  | succ m ih =>
    intro b acc
    rw [qf_la]
    exact Nat.le_trans (qm_lb_len _ _ _ _ _) (ih _ _)
theorem xs_push {acc : List qf_F} {A B C : Nat → Int32} {a b c : Int} (S : xs_L acc (nI acc.length) A B C) (h : acc.length < 1000) : xs_L (acc ++ [(a, b, c)]) (nI (acc.length + 1)) (upd A (nI acc.length).toNatClampNeg (qz_i a)) (upd B (nI acc.length).toNatClampNeg (qz_i b)) (upd C (nI acc.length).toNatClampNeg (qz_i c)) := by
  rw [nI_clamp (by omega)]
  refine ⟨by simp, fun k hk => ?_⟩
  have hk' : k < acc.length + 1 := by simpa using hk
  by_cases e : k = acc.length
  · subst e
    have e2 : qf_at (acc ++ [(a, b, c)]) acc.length = (a, b, c) := by simp [qf_at]
    rw [e2]
    exact ⟨pk_us, pk_us, pk_us⟩
  · have e2 : qf_at (acc ++ [(a, b, c)]) k = qf_at acc k := by simp [qf_at, List.getElem?_append_left (show k < acc.length by omega)]
    rw [e2, pk_un e, pk_un e, pk_un e]
    exact S.2 k (by omega)
section
variable {d : Nat} {L : List qf_F} {N : Nat} {P : Nat → Int32}
theorem xw_lb (hd : 0 < d ∧ d ≤ 400) {a : Int} (ha : 1 ≤ a ∧ a ≤ 11) {post : SX → Prop} {J7 : Int32 → Int32 → (Nat → Int32) → (Nat → Int32) → (Nat → Int32) → (Nat → Int32) → Prop} : ∀ (m : Nat) (b : Int) (acc : List qf_F) (cn : Int32) (A B C : Nat → Int32), b + m = a + 1 → -a < b → xs_L acc cn A B C → (qf_lb d a m b acc).length ≤ 31 → (∀ cn' A' B' C', xs_L (qf_lb d a m b acc) cn' A' B' C' → J7 (qz_i (a + 1)) cn' A' B' C' P) → wX_listForms_17 post J7 (qz_i a) (qz_i d) (m + 1) (qz_i b) cn A B C P := by
  intro m
  induction m with
  | zero =>
    intro b acc cn A B C hb hb' S hl hJ
    exact qz_clt a b rfl rfl (by omega) (by omega) (fun _ => nm_r (by rw [qk_1, qz_add]) (hJ _ _ _ _ S)) (fun z => absurd z (by omega))
  | succ m ih =>
    intro b acc cn A B C hb hb' S hl hJ
    have hc := S.1
    subst hc
    rw [qf_lb] at hl hJ
    have e1 : qz_i b + 1 = qz_i (b + 1) := by rw [qk_1, qz_add]
    have tb := qm_tb (d := d) (a := a) (m := b) (by omega) (by omega) (by omega) (by omega)
    refine qz_clt a b rfl rfl (by omega) (by omega) (fun z => absurd z (by omega)) (fun _ => ?_)
    refine xw_third (by omega) (by omega) (by omega) (xw_red (by omega) (by omega) (by omega) (fun hr => ?_) (fun hr => ?_))
    · refine br_f (by decide) (xw_prim (by omega) (by omega) (by omega) (fun hg => ?_) (fun hg => ?_))
      · have ok : qf_ok d a b = true := by
          unfold qf_ok
          rw [hr, hg]
          rfl
        rw [if_pos ok] at hl hJ
        have ln := qm_lb_len d a m (b + 1) (acc ++ [(a, b, qf_third d a b)])
        rw [List.length_append, List.length_singleton] at ln
        have hin : vp_in (nI acc.length) 66 := vp_in_nI (by omega) (by omega)
        exact br_f (by decide) (pk_le 66 acc.length (fun z => absurd z (by omega)) (fun _ => ⟨hin, nm_e ⟨hin, nm_e ⟨hin, nm_e (nm_r (nI_1 _) (nm_r e1 (ih (b + 1) _ _ _ _ _ (by omega) (by omega) (xs_push S (by omega)) hl hJ)))⟩⟩⟩))
      · have nok : ¬ qf_ok d a b = true := by
          unfold qf_ok
          rw [hr]
          simp [hg]
        rw [if_neg nok] at hl hJ
        exact br_t rfl (nm_r e1 (ih (b + 1) acc _ A B C (by omega) (by omega) S hl hJ))
    · have nok : ¬ qf_ok d a b = true := by
        unfold qf_ok
        rw [hr]
        simp
      rw [if_neg nok] at hl hJ
      exact br_t rfl (nm_r e1 (ih (b + 1) acc _ A B C (by omega) (by omega) S hl hJ))
theorem xw_la (hd : 0 < d ∧ d ≤ 400) {post : SX → Prop} : ∀ (m a : Nat) (acc : List qf_F) (cn : Int32) (A B C : Nat → Int32), a + m = 12 → 1 ≤ a → xs_L acc cn A B C → (qf_la d m a acc).length ≤ 31 → (∀ cn' A' B' C', xs_L (qf_la d m a acc) cn' A' B' C' → post (qz_i d, cn', A', B', C', P)) → wX_listForms_7 post (qz_i d) (m + 1) (qz_i a) cn A B C P := by
  intro m
  induction m with
  | zero =>
    intro a acc cn A B C ha h1 S hl hp
    exact qz_clt 11 a qk_11 rfl (by omega) (by omega) (fun _ => hp _ _ _ _ S) (fun z => absurd z (by omega))
  | succ m ih =>
    intro a acc cn A B C ha h1 S hl hp
    rw [qf_la] at hl hp
    have l1 := qm_la_len d m (a + 1) (qf_lb d a (2 * a) (1 - (a : Int)) acc)
    refine qz_clt 11 a qk_11 rfl (by omega) (by omega) (fun z => absurd z (by omega)) (fun _ => nm_r (e' := qz_i (1 - (a : Int))) (by rw [qk_1, qz_sub]) ⟨2 * a + 1, ?_⟩)
    refine xw_lb hd (by omega) (2 * a) (1 - (a : Int)) acc cn A B C (by omega) (by omega) S (by omega) (fun cn' A' B' C' S' => ?_)
    rw [show (a : Int) + 1 = ((a + 1 : Nat) : Int) by omega]
    exact ih (a + 1) _ _ _ _ _ (by omega) (by omega) S' hl hp
theorem xw_list (G : qf_chk d L N = true) (hd : 0 < d ∧ d ≤ 400) {cn : Int32} {A B C : Nat → Int32} {post : SX → Prop} (hp : ∀ cn' A' B' C', xs_L L cn' A' B' C' → post (qz_i d, cn', A', B', C', P)) : wpX_listForms post (qz_i d, cn, A, B, C, P) := by
  obtain ⟨g1, _, g3, _⟩ := qg_1 G
  refine ⟨12, ?_⟩
  rw [qk_1]
  exact xw_la hd 11 1 [] 0 A B C (by omega) (by omega) ⟨rfl, fun k hk => absurd hk (by simp)⟩ (by rw [g1]; exact g3) (by rw [g1]; exact hp)
end
/-- the component holds the table -/
def xs_S (d : Nat) (L : List qf_F) (N : Nat) (u : SX) : Prop := ∃ A B C P, u = (qz_i d, nI L.length, A, B, C, P) ∧ xs_L L (nI L.length) A B C ∧ xs_P N L.length 66 P L.length 0
