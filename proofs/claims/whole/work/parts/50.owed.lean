/-! the relation and what is owed -/
theorem qs_disc {v : Int32} (c1 : ¬ v < 3) (c2 : ¬ 400 < v) (c3 : ¬ v - v / 4 * 4 = 1) (c4 : ¬ v - v / 4 * 4 = 2) : ∃ e : Nat, v = qz_i e ∧ 3 ≤ e ∧ e ≤ 400 ∧ (e % 4 = 0 ∨ e % 4 = 3) := by
  have e := qz_self v
  have b1 := v.le_toInt
  have b2 := v.toInt_lt
  generalize v.toInt = z at e b1 b2
  subst e
  rw [qk_3, qz_lt (by omega) (by omega)] at c1
  rw [qk_400, qz_lt (by omega) (by omega)] at c2
  rw [qk_4, qz_rem (by omega) (by omega), Int.tmod_eq_emod_of_nonneg (by omega)] at c3 c4
  rw [qk_1, qz_eq (by omega) (by omega)] at c3
  rw [qk_2, qz_eq (by omega) (by omega)] at c4
  exact ⟨z.toNat, by congr 1; omega, by omega, by omega, by omega⟩
theorem qs_ab {v w : Int32} (c1 : ¬ v < 1) (c2 : ¬ 1000 < v) (c3 : ¬ w < (-1000)) (c4 : w ≤ 1000) : ∃ a b : Int, v = qz_i a ∧ w = qz_i b ∧ (1 ≤ a ∧ a ≤ 1000) ∧ (-1000 ≤ b ∧ b ≤ 1000) := by
  have e := qz_self v
  have b1 := v.le_toInt
  have b2 := v.toInt_lt
  generalize v.toInt = z at e b1 b2
  subst e
  have e := qz_self w
  have b3 := w.le_toInt
  have b4 := w.toInt_lt
  generalize w.toInt = y at e b3 b4
  subst e
  rw [qk_1, qz_lt (by omega) (by omega)] at c1
  rw [qk_1000, qz_lt (by omega) (by omega)] at c2
  rw [qk_m1000, qz_lt (by omega) (by omega)] at c3
  rw [qk_1000, qz_le (by omega) (by omega)] at c4
  exact ⟨z, y, rfl, rfl, by omega, by omega⟩
theorem qs_exp {w : Int32} (c3 : ¬ w < (-1000)) (c4 : w ≤ 1000) : (0 ≤ w → ∃ e : Nat, w = nI e ∧ e ≤ 1000) ∧ (¬ 0 ≤ w → ∃ e : Nat, -w = nI e ∧ e ≤ 1000) := by
  have e := qz_self w
  have b3 := w.le_toInt
  have b4 := w.toInt_lt
  generalize w.toInt = y at e b3 b4
  subst e
  rw [qk_m1000, qz_lt (by omega) (by omega)] at c3
  rw [qk_1000, qz_le (by omega) (by omega)] at c4
  rw [qk_0, qz_le (by omega) (by omega)]
  refine ⟨fun h => ⟨y.toNat, ?_, by omega⟩, fun h => ⟨(-y).toNat, ?_, by omega⟩⟩
  · rw [qz_nI]
    congr 1
    omega
  · rw [qz_neg, qz_nI]
    congr 1
    omega
def i_Rel (_ : Nat) (u : SX) (v : SY) : Prop := ∃ (d : Nat) (L : List qf_F) (N : Nat), (0 < d ∧ d ≤ 400) ∧ qf_chk d L N = true ∧ xs_S d L N u ∧ ys_S d L N v
theorem i_up {k : Nat} {u : SX} {v : SY} (h : i_Rel k u v) : i_Rel (k + 3) u v := h
theorem i_vc0 : wpX_init (fun u => wpY_init (fun v => i_Rel 0 u v)) := by
  obtain ⟨L, N, G⟩ := qf_ex 3 (by omega) (by omega) (Or.inr rfl)
  unfold wpX_init
  rw [show (3 : Int32) = qz_i ((3 : Nat) : Int) from qk_3]
  refine xw_list G (by omega) (fun cn A B C S => ?_)
  refine xw_fill G (by omega) S (fun pr Q => ?_)
  dsimp only
  unfold wpY_init
  rw [show (3 : Int32) = qz_i ((3 : Nat) : Int) from qk_3]
  refine yw_list G (by omega) (fun cn' fi mi A' B' C' P' S' Q' => ?_)
  have e1 := S.1
  have e2 := S'.1
  subst e1 e2
  exact ⟨3, L, N, by omega, G, ⟨A, B, C, pr, rfl, S, Q⟩, ⟨fi, mi, A', B', C', P', rfl, S', Q'⟩⟩
theorem i_vc_discriminant {k : Nat} {u : SX} {v : SY} (I : i_Rel k u v) (hk : k + 3 ≤ 1536) (v1 : Int32) : wpX_discriminant (fun r u' => wpY_discriminant (fun r' v' => r' = r ∧ i_Rel (k + 3) u' v') v v1) u v1 := by
  have I' : i_Rel (k + 3) u v := I
  obtain ⟨d, L, N, hd, G, ⟨A, B, C, P, rfl, S, Q⟩, ⟨fi, mi, A', B', C', P', rfl, S', Q'⟩⟩ := I
  unfold wpX_discriminant wpY_discriminant
  dsimp only
  by_cases c1 : v1 < 3
  · exact br_t c1 (br_t c1 ⟨rfl, I'⟩)
  by_cases c2 : 400 < v1
  · exact br_f c1 (br_t c2 (br_f c1 (br_t c2 ⟨rfl, I'⟩)))
  by_cases c3 : v1 - v1 / 4 * 4 = 1
  · exact br_f c1 (br_f c2 ⟨by decide, br_t c3 (br_f c1 (br_f c2 ⟨by decide, br_t c3 ⟨rfl, I'⟩⟩))⟩)
  by_cases c4 : v1 - v1 / 4 * 4 = 2
  · exact br_f c1 (br_f c2 ⟨by decide, br_f c3 ⟨by decide, br_t c4 (br_f c1 (br_f c2 ⟨by decide, br_f c3 ⟨by decide, br_t c4 ⟨rfl, I'⟩⟩⟩))⟩⟩)
  obtain ⟨e, rfl, h1, h2, h3⟩ := qs_disc c1 c2 c3 c4
  obtain ⟨L2, N2, G2⟩ := qf_ex e h1 h2 h3
  refine br_f c1 (br_f c2 ⟨by decide, br_f c3 ⟨by decide, br_f c4 ?_⟩⟩)
  refine xw_list G2 (by omega) (fun cn A2 B2 C2 S2 => ?_)
  refine xw_fill G2 (by omega) S2 (fun pr Q2 => ?_)
  refine br_f c1 (br_f c2 ⟨by decide, br_f c3 ⟨by decide, br_f c4 ?_⟩⟩)
  refine yw_list G2 (by omega) (fun cn' fi' mi' A3 B3 C3 P3 S3 Q3 => ?_)
  have e1 := S2.1
  have e2 := S3.1
  subst e1 e2
  exact ⟨rfl, e, L2, N2, by omega, G2, ⟨A2, B2, C2, pr, rfl, S2, Q2⟩, ⟨fi', mi', A3, B3, C3, P3, rfl, S3, Q3⟩⟩
theorem i_vc_classes {k : Nat} {u : SX} {v : SY} (I : i_Rel k u v) (hk : k + 3 ≤ 1536) : wpX_classes (fun r => wpY_classes (fun r' => r' = r ∧ i_Rel (k + 3) u v) v) u := by
  have I' : i_Rel (k + 3) u v := I
  obtain ⟨d, L, N, hd, G, ⟨A, B, C, P, rfl, S, Q⟩, ⟨fi, mi, A', B', C', P', rfl, S', Q'⟩⟩ := I
  exact ⟨rfl, I'⟩
theorem i_vc_reduced {k : Nat} {u : SX} {v : SY} (I : i_Rel k u v) (hk : k + 3 ≤ 1536) (v1 : Int32) (v2 : Int32) : wpX_reduced (fun r => wpY_reduced (fun r' => r' = r ∧ i_Rel (k + 3) u v) v v1 v2) u v1 v2 := by
  have I' : i_Rel (k + 3) u v := I
  obtain ⟨d, L, N, hd, G, ⟨A, B, C, P, rfl, S, Q⟩, ⟨fi, mi, A', B', C', P', rfl, S', Q'⟩⟩ := I
  have hL := (qg_1 G).2.2.1
  unfold wpX_reduced wpY_reduced
  dsimp only
  rcases pk_ix v1 (show L.length < 2 ^ 31 by omega) with h | h | ⟨i, hi, rfl⟩
  · exact xw_c0 (Or.inl h) (br_t rfl (yw_c1 (Or.inl h) (br_f (by decide) ⟨rfl, I'⟩)))
  · exact xw_c0 (Or.inr h) (br_t rfl (yw_c1 (Or.inr h) (br_f (by decide) ⟨rfl, I'⟩)))
  · obtain ⟨a1, a2, a3⟩ := S.2 i hi
    obtain ⟨y1, y2, y3⟩ := S'.2 i hi
    have hin : vp_in (nI i) 66 := vp_in_nI (by omega) (by omega)
    have hin' : vp_in (nI i) 64 := vp_in_nI (by omega) (by omega)
    have ec : (nI i).toNatClampNeg = i := nI_clamp (by omega)
    have hi' : L.length < 2147483648 := by omega
    refine xw_c1 hi hi' (br_f (by decide) ?_)
    by_cases c0 : v2 < 0
    · exact br_t c0 (yw_c0 hi hi' (br_t rfl (br_t c0 ⟨rfl, I'⟩)))
    by_cases c2 : 2 < v2
    · exact br_f c0 (br_t c2 (yw_c0 hi hi' (br_t rfl (br_f c0 (br_f (Int32.not_le.mpr c2) ⟨rfl, I'⟩)))))
    have c2' := Int32.not_lt.mp c2
    refine br_f c0 (br_f c2 (br_c (fun e0 => ⟨hin, yw_c0 hi hi' (br_t rfl (br_f c0 (br_t c2' (br_t e0 ⟨hin', ?_, I'⟩))))⟩) (fun e0 => br_c (fun e1 => ⟨hin, yw_c0 hi hi' (br_t rfl (br_f c0 (br_t c2' (br_f e0 (br_t e1 ⟨hin', ?_, I'⟩)))))⟩) (fun e1 => br_c (fun e2 => ⟨hin, yw_c0 hi hi' (br_t rfl (br_f c0 (br_t c2' (br_f e0 (br_f e1 ⟨hin', ?_, I'⟩)))))⟩) (fun _ => trivial)))))
    · rw [ec, a1, y1]
    · rw [ec, a2, y2]
    · rw [ec, a3, y3]
theorem i_vc_classOf {k : Nat} {u : SX} {v : SY} (I : i_Rel k u v) (hk : k + 3 ≤ 1536) (v1 : Int32) (v2 : Int32) : wpX_classOf (fun r => wpY_classOf (fun r' => r' = r ∧ i_Rel (k + 3) u v) v v1 v2) u v1 v2 := by
  have I' : i_Rel (k + 3) u v := I
  obtain ⟨d, L, N, hd, G, ⟨A, B, C, P, rfl, S, Q⟩, ⟨fi, mi, A', B', C', P', rfl, S', Q'⟩⟩ := I
  unfold wpX_classOf wpY_classOf
  dsimp only
  by_cases c1 : v1 < 1
  · exact br_t c1 (br_t c1 ⟨rfl, I'⟩)
  by_cases c2 : 1000 < v1
  · exact br_f c1 (br_t c2 (br_f c1 (br_t c2 ⟨rfl, I'⟩)))
  by_cases c3 : v2 < (-1000)
  · exact br_f c1 (br_f c2 (br_t c3 (br_f c1 (br_f c2 (br_t c3 ⟨rfl, I'⟩)))))
  by_cases c4 : v2 ≤ 1000
  · obtain ⟨a, b, rfl, rfl, ha, hb⟩ := qs_ab c1 c2 c3 c4
    refine br_f c1 (br_f c2 (br_f c3 (br_t c4 ?_)))
    refine xw_fcl G hd S rfl rfl (by omega) (by omega) ?_
    refine br_f c1 (br_f c2 (br_f c3 (br_t c4 ?_)))
    refine yw_form hd (ql_of (by omega) (by omega)) (ql_of (by omega) (by omega)) (by omega) (by omega) (fun hz hg => ?_) (fun hz => ?_)
    · obtain ⟨_, t4, _⟩ := qm_third_nz (by omega) hz
      have q := qm_r3 G hd.1 hd.2 ha.1 ha.2 t4 ((qm_g3 _ _ _).mp hg)
      rcases qm_fcl_range G 1000 a b with h | ⟨i, hi, h⟩
      · rw [h] at q
        exact absurd q (by decide)
      · have ef : qf_fcl d L a b = i := by
          unfold qf_fcl
          rw [if_neg hz]
          exact h
        refine br_f (by decide) (yw_find G hd S' (ql_of (by omega) (by omega)) (ql_of (by omega) (by omega)) (by omega) (by omega) t4 h ⟨?_, I'⟩)
        rw [ef, qz_nI]
    · have ef : qf_fcl d L a b = qf_NO := by
        unfold qf_fcl
        by_cases h : qf_third d a b = 0
        · rw [if_pos h]
        · rw [if_neg h]
          rcases qm_fcl_range G 1000 a b with h2 | ⟨i, hi, h2⟩
          · exact h2
          · exfalso
            obtain ⟨_, t4, _⟩ := qm_third_nz (by omega) h
            have hp := qm_r1 G hd.1 1000 a b _ ha.1 t4 (by rw [h2]; unfold qf_NO; omega)
            rcases hz with z | z
            · exact h z
            · exact z ((qm_g3 _ _ _).mpr hp)
      refine br_t rfl ⟨?_, I'⟩
      rw [ef]
      exact qk_m1000001
  · exact br_f c1 (br_f c2 (br_f c3 (br_f c4 (br_f c1 (br_f c2 (br_f c3 (br_f c4 ⟨rfl, I'⟩)))))))
theorem i_vc_neutral {k : Nat} {u : SX} {v : SY} (I : i_Rel k u v) (hk : k + 3 ≤ 1536) : wpX_neutral (fun r => wpY_neutral (fun r' => r' = r ∧ i_Rel (k + 3) u v) v) u := by
  have I' : i_Rel (k + 3) u v := I
  obtain ⟨d, L, N, hd, G, ⟨A, B, C, P, rfl, S, Q⟩, ⟨fi, mi, A', B', C', P', rfl, S', Q'⟩⟩ := I
  exact yw_neutral G S' ⟨rfl, I'⟩
theorem i_vc_product {k : Nat} {u : SX} {v : SY} (I : i_Rel k u v) (hk : k + 3 ≤ 1536) (v1 : Int32) (v2 : Int32) : wpX_product (fun r => wpY_product (fun r' => r' = r ∧ i_Rel (k + 3) u v) v v1 v2) u v1 v2 := by
  have I' : i_Rel (k + 3) u v := I
  obtain ⟨d, L, N, hd, G, ⟨A, B, C, P, rfl, S, Q⟩, ⟨fi, mi, A', B', C', P', rfl, S', Q'⟩⟩ := I
  have hL := (qg_1 G).2.2.1
  have hi' : L.length < 2147483648 := by omega
  have bad1 : v1 < 0 ∨ nI L.length ≤ v1 → wpX_product (fun r => wpY_product (fun r' => r' = r ∧ i_Rel (k + 3) (qz_i d, nI L.length, A, B, C, P) (qz_i d, nI L.length, fi, mi, A', B', C', P')) (qz_i d, nI L.length, fi, mi, A', B', C', P') v1 v2) (qz_i d, nI L.length, A, B, C, P) v1 v2 := by
    intro h
    unfold wpX_product wpY_product
    dsimp only
    exact xw_c0 h (br_t rfl (yw_c1 h (br_f (by decide) ⟨rfl, I'⟩)))
  rcases pk_ix v1 (show L.length < 2 ^ 31 by omega) with h | h | ⟨i, hi, rfl⟩
  · exact bad1 (Or.inl h)
  · exact bad1 (Or.inr h)
  · have bad2 : v2 < 0 ∨ nI L.length ≤ v2 → wpX_product (fun r => wpY_product (fun r' => r' = r ∧ i_Rel (k + 3) (qz_i d, nI L.length, A, B, C, P) (qz_i d, nI L.length, fi, mi, A', B', C', P')) (qz_i d, nI L.length, fi, mi, A', B', C', P') (nI i) v2) (qz_i d, nI L.length, A, B, C, P) (nI i) v2 := by
      intro h
      unfold wpX_product wpY_product
      dsimp only
      exact xw_c1 hi hi' (br_f (by decide) (xw_c0 h (br_t rfl (yw_c0 hi hi' (br_t rfl (yw_c1 h (br_f (by decide) ⟨rfl, I'⟩)))))))
    rcases pk_ix v2 (show L.length < 2 ^ 31 by omega) with h | h | ⟨j, hj, rfl⟩
    · exact bad2 (Or.inl h)
    · exact bad2 (Or.inr h)
    · obtain ⟨q1, q2⟩ := yw_at G Q' hi hj
      refine xw_product G Q hi hj ?_
      unfold wpY_product
      dsimp only
      exact yw_c0 hi hi' (br_t rfl (yw_c0 hj hi' (br_t rfl ⟨q1, q2, I'⟩)))
theorem i_vc_inverse {k : Nat} {u : SX} {v : SY} (I : i_Rel k u v) (hk : k + 3 ≤ 1536) (v1 : Int32) : wpX_inverse (fun r => wpY_inverse (fun r' => r' = r ∧ i_Rel (k + 3) u v) v v1) u v1 := by
  have I' : i_Rel (k + 3) u v := I
  obtain ⟨d, L, N, hd, G, ⟨A, B, C, P, rfl, S, Q⟩, ⟨fi, mi, A', B', C', P', rfl, S', Q'⟩⟩ := I
  have hL := (qg_1 G).2.2.1
  have bad1 : v1 < 0 ∨ nI L.length ≤ v1 → wpX_inverse (fun r => wpY_inverse (fun r' => r' = r ∧ i_Rel (k + 3) (qz_i d, nI L.length, A, B, C, P) (qz_i d, nI L.length, fi, mi, A', B', C', P')) (qz_i d, nI L.length, fi, mi, A', B', C', P') v1) (qz_i d, nI L.length, A, B, C, P) v1 := by
    intro h
    unfold wpX_inverse wpY_inverse
    dsimp only
    exact xw_c0 h (br_t rfl (yw_c1 h (br_f (by decide) ⟨rfl, I'⟩)))
  rcases pk_ix v1 (show L.length < 2 ^ 31 by omega) with h | h | ⟨i, hi, rfl⟩
  · exact bad1 (Or.inl h)
  · exact bad1 (Or.inr h)
  · exact xw_inv G hd S hi (yw_inv G S' Q' hi ⟨rfl, I'⟩)
theorem i_vc_power {k : Nat} {u : SX} {v : SY} (I : i_Rel k u v) (hk : k + 3 ≤ 1536) (v1 : Int32) (v2 : Int32) : wpX_power (fun r => wpY_power (fun r' => r' = r ∧ i_Rel (k + 3) u v) v v1 v2) u v1 v2 := by
  have I' : i_Rel (k + 3) u v := I
  obtain ⟨d, L, N, hd, G, ⟨A, B, C, P, rfl, S, Q⟩, ⟨fi, mi, A', B', C', P', rfl, S', Q'⟩⟩ := I
  have hL := (qg_1 G).2.2.1
  have hi' : L.length < 2147483648 := by omega
  unfold wpX_power wpY_power
  dsimp only
  rcases pk_ix v1 (show L.length < 2 ^ 31 by omega) with h | h | ⟨i, hi, rfl⟩
  · exact xw_c0 (Or.inl h) (br_t rfl (yw_c1 (Or.inl h) (br_f (by decide) ⟨rfl, I'⟩)))
  · exact xw_c0 (Or.inr h) (br_t rfl (yw_c1 (Or.inr h) (br_f (by decide) ⟨rfl, I'⟩)))
  · refine xw_c1 hi hi' (br_f (by decide) ?_)
    by_cases c1 : v2 < (-1000)
    · exact br_t c1 (yw_c0 hi hi' (br_t rfl (br_t c1 ⟨rfl, I'⟩)))
    by_cases c2 : v2 ≤ 1000
    · obtain ⟨e1, e2⟩ := qs_exp c1 c2
      by_cases c3 : 0 ≤ v2
      · obtain ⟨e, he, he2⟩ := e1 c3
        exact br_f c1 (br_t c2 (br_t c3 (xw_rep G Q he hi he2 (yw_c0 hi hi' (br_t rfl (br_f c1 (br_t c2 (br_f (Int32.not_lt.mpr c3) (yw_times G S' Q' he hi he2 ⟨rfl, I'⟩)))))))))
      · obtain ⟨e, he, he2⟩ := e2 c3
        have hv := (qg_inv G hi).2.1
        exact br_f c1 (br_t c2 (br_f c3 (xw_inv G hd S hi (xw_rep G Q he hv he2 (yw_c0 hi hi' (br_t rfl (br_f c1 (br_t c2 (br_t (Int32.not_le.mp c3) (yw_inv G S' Q' hi (yw_times G S' Q' he hv he2 ⟨rfl, I'⟩)))))))))))
    · exact br_f c1 (br_f c2 (yw_c0 hi hi' (br_t rfl (br_f c1 (br_f c2 ⟨rfl, I'⟩)))))
theorem i_vc_order {k : Nat} {u : SX} {v : SY} (I : i_Rel k u v) (hk : k + 3 ≤ 1536) (v1 : Int32) : wpX_order (fun r => wpY_order (fun r' => r' = r ∧ i_Rel (k + 3) u v) v v1) u v1 := by
  have I' : i_Rel (k + 3) u v := I
  obtain ⟨d, L, N, hd, G, ⟨A, B, C, P, rfl, S, Q⟩, ⟨fi, mi, A', B', C', P', rfl, S', Q'⟩⟩ := I
  have hL := (qg_1 G).2.2.1
  have hi' : L.length < 2147483648 := by omega
  unfold wpX_order wpY_order
  dsimp only
  rcases pk_ix v1 (show L.length < 2 ^ 31 by omega) with h | h | ⟨i, hi, rfl⟩
  · exact xw_c0 (Or.inl h) (br_t rfl (yw_c1 (Or.inl h) (br_f (by decide) ⟨rfl, I'⟩)))
  · exact xw_c0 (Or.inr h) (br_t rfl (yw_c1 (Or.inr h) (br_f (by decide) ⟨rfl, I'⟩)))
  · obtain ⟨_, _, _, _, t, ht, h0⟩ := qg_inv G hi
    obtain ⟨r, hX, hY⟩ := xy_order (md := qz_i d) (md' := qz_i d) (cn := nI L.length) (fi := fi) (mi := mi) (A := A) (B := B) (C := C) (A' := A') (B' := B') (C' := C') G Q Q' hi t i 1 hi h0 (by omega)
    exact xw_c1 hi hi' (br_f (by decide) ⟨t + 1, hX _ (yw_c0 hi hi' (br_t rfl (yw_neutral G S' ⟨t + 1, hY _ ⟨rfl, I'⟩⟩)))⟩)
theorem i_vc_roots {k : Nat} {u : SX} {v : SY} (I : i_Rel k u v) (hk : k + 3 ≤ 1536) (v1 : Int32) : wpX_roots (fun r => wpY_roots (fun r' => r' = r ∧ i_Rel (k + 3) u v) v v1) u v1 := by
  have I' : i_Rel (k + 3) u v := I
  obtain ⟨d, L, N, hd, G, ⟨A, B, C, P, rfl, S, Q⟩, ⟨fi, mi, A', B', C', P', rfl, S', Q'⟩⟩ := I
  unfold wpX_roots wpY_roots
  dsimp only
  by_cases c1 : v1 < 1
  · exact br_t c1 (br_t c1 ⟨rfl, I'⟩)
  by_cases c2 : v1 ≤ 1000
  · obtain ⟨a, b, e, _, ha, _⟩ := qs_ab (w := 0) c1 (Int32.not_lt.mpr c2) (by decide) (by decide)
    obtain ⟨m, rfl⟩ : ∃ m : Nat, a = m := ⟨a.toNat, by omega⟩
    rw [← qz_nI] at e
    subst e
    obtain ⟨r, hX, hY⟩ := xy_roots (md := qz_i d) (md' := qz_i d) (fi := fi) (mi := mi) (A := A) (B := B) (C := C) G Q S' Q' (show m ≤ 1000 by omega) L.length 0 0 (by omega)
    exact br_f c1 (br_t c2 ⟨L.length + 1, hX _ (br_f c1 (br_t c2 (yw_neutral G S' ⟨L.length + 1, hY _ ⟨rfl, I'⟩⟩)))⟩)
  · exact br_f c1 (br_f c2 (br_f c1 (br_f c2 ⟨rfl, I'⟩)))
theorem i_vc_squares {k : Nat} {u : SX} {v : SY} (I : i_Rel k u v) (hk : k + 3 ≤ 1536) : wpX_squares (fun r => wpY_squares (fun r' => r' = r ∧ i_Rel (k + 3) u v) v) u := by
  have I' : i_Rel (k + 3) u v := I
  obtain ⟨d, L, N, hd, G, ⟨A, B, C, P, rfl, S, Q⟩, ⟨fi, mi, A', B', C', P', rfl, S', Q'⟩⟩ := I
  obtain ⟨r, hX, hY⟩ := xy_squares (md := qz_i d) (md' := qz_i d) (fi := fi) (mi := mi) (A := A) (B := B) (C := C) (A' := A') (B' := B') (C' := C') G Q Q' L.length 0 0 (by omega)
  exact ⟨L.length + 1, hX _ ⟨L.length + 1, hY _ ⟨rfl, I'⟩⟩⟩
theorem i_vc_gives {k : Nat} {u : SX} {v : SY} (I : i_Rel k u v) (hk : k + 3 ≤ 1536) (v1 : Int32) (v2 : Int32) : wpX_gives (fun r => wpY_gives (fun r' => r' = r ∧ i_Rel (k + 3) u v) v v1 v2) u v1 v2 := by
  have I' : i_Rel (k + 3) u v := I
  obtain ⟨d, L, N, hd, G, ⟨A, B, C, P, rfl, S, Q⟩, ⟨fi, mi, A', B', C', P', rfl, S', Q'⟩⟩ := I
  have hL := (qg_1 G).2.2.1
  have hi' : L.length < 2147483648 := by omega
  have hc : (0 : Int32) = 0 ↔ false = false := ⟨fun _ => rfl, fun _ => rfl⟩
  unfold wpX_gives wpY_gives
  dsimp only
  rcases pk_ix v1 (show L.length < 2 ^ 31 by omega) with h | h | ⟨i, hi, rfl⟩
  · exact xw_c0 (Or.inl h) (br_t rfl (yw_c1 (Or.inl h) (br_f (by decide) ⟨rfl, I'⟩)))
  · exact xw_c0 (Or.inr h) (br_t rfl (yw_c1 (Or.inr h) (br_f (by decide) ⟨rfl, I'⟩)))
  · refine xw_c1 hi hi' (br_f (by decide) ?_)
    by_cases b : v2 < 1 ∨ 500 < v2
    · exact xw_n0 b (br_t rfl (yw_c0 hi hi' (br_t rfl (yw_n1 b (br_f (by decide) ⟨rfl, I'⟩)))))
    · have b1 : ¬ v2 < 1 := fun z => b (Or.inl z)
      have b2 : ¬ 500 < v2 := fun z => b (Or.inr z)
      obtain ⟨n, rfl, hn⟩ := qs_num b1 b2
      exact xw_n1 b1 b2 (br_f (by decide) (xw_cp G S hi hn false hc (yw_c0 hi hi' (br_t rfl (yw_n0 b1 b2 (br_t rfl (yw_cp G S' hi hn false hc ⟨rfl, I'⟩)))))))
theorem i_vc_givesFirst {k : Nat} {u : SX} {v : SY} (I : i_Rel k u v) (hk : k + 3 ≤ 1536) (v1 : Int32) (v2 : Int32) : wpX_givesFirst (fun r => wpY_givesFirst (fun r' => r' = r ∧ i_Rel (k + 3) u v) v v1 v2) u v1 v2 := by
  have I' : i_Rel (k + 3) u v := I
  obtain ⟨d, L, N, hd, G, ⟨A, B, C, P, rfl, S, Q⟩, ⟨fi, mi, A', B', C', P', rfl, S', Q'⟩⟩ := I
  have hL := (qg_1 G).2.2.1
  have hi' : L.length < 2147483648 := by omega
  have hc : (1 : Int32) = 0 ↔ true = false := by decide
  unfold wpX_givesFirst wpY_givesFirst
  dsimp only
  rcases pk_ix v1 (show L.length < 2 ^ 31 by omega) with h | h | ⟨i, hi, rfl⟩
  · exact xw_c0 (Or.inl h) (br_t rfl (yw_c1 (Or.inl h) (br_f (by decide) ⟨rfl, I'⟩)))
  · exact xw_c0 (Or.inr h) (br_t rfl (yw_c1 (Or.inr h) (br_f (by decide) ⟨rfl, I'⟩)))
  · refine xw_c1 hi hi' (br_f (by decide) ?_)
    by_cases b : v2 < 1 ∨ 500 < v2
    · exact xw_n0 b (br_t rfl (yw_c0 hi hi' (br_t rfl (yw_n1 b (br_f (by decide) ⟨rfl, I'⟩)))))
    · have b1 : ¬ v2 < 1 := fun z => b (Or.inl z)
      have b2 : ¬ 500 < v2 := fun z => b (Or.inr z)
      obtain ⟨n, rfl, hn⟩ := qs_num b1 b2
      exact xw_n1 b1 b2 (br_f (by decide) (xw_cp G S hi hn true hc (yw_c0 hi hi' (br_t rfl (yw_n0 b1 b2 (br_t rfl (yw_cp G S' hi hn true hc ⟨rfl, I'⟩)))))))
theorem i_vc_all {k : Nat} {u : SX} {v : SY} (I : i_Rel k u v) (hk : k + 3 ≤ 1536) (v1 : Int32) : wpX_all (fun r => wpY_all (fun r' => r' = r ∧ i_Rel (k + 3) u v) v v1) u v1 := by
  have I' : i_Rel (k + 3) u v := I
  obtain ⟨d, L, N, hd, G, ⟨A, B, C, P, rfl, S, Q⟩, ⟨fi, mi, A', B', C', P', rfl, S', Q'⟩⟩ := I
  unfold wpX_all wpY_all
  dsimp only
  by_cases b : v1 < 1 ∨ 500 < v1
  · exact xw_n0 b (br_t rfl (yw_n1 b (br_f (by decide) ⟨rfl, I'⟩)))
  · have b1 : ¬ v1 < 1 := fun z => b (Or.inl z)
    have b2 : ¬ 500 < v1 := fun z => b (Or.inr z)
    obtain ⟨n, rfl, hn⟩ := qs_num b1 b2
    obtain ⟨r, hX, hY⟩ := xy_all (md := qz_i d) (md' := qz_i d) (fi := fi) (mi := mi) (P := P) (P' := P') G S S' hn L.length 0 0 (by omega)
    exact xw_n1 b1 b2 (br_f (by decide) ⟨L.length + 1, hX _ (yw_n0 b1 b2 (br_t rfl ⟨L.length + 1, hY _ ⟨rfl, I'⟩⟩))⟩)
theorem i_vc_least {k : Nat} {u : SX} {v : SY} (I : i_Rel k u v) (hk : k + 3 ≤ 1536) (v1 : Int32) : wpX_least (fun r => wpY_least (fun r' => r' = r ∧ i_Rel (k + 3) u v) v v1) u v1 := by
  have I' : i_Rel (k + 3) u v := I
  obtain ⟨d, L, N, hd, G, ⟨A, B, C, P, rfl, S, Q⟩, ⟨fi, mi, A', B', C', P', rfl, S', Q'⟩⟩ := I
  unfold wpX_least wpY_least
  dsimp only
  by_cases b : v1 < 1 ∨ 500 < v1
  · exact xw_n0 b (br_t rfl (yw_n1 b (br_f (by decide) ⟨rfl, I'⟩)))
  · have b1 : ¬ v1 < 1 := fun z => b (Or.inl z)
    have b2 : ¬ 500 < v1 := fun z => b (Or.inr z)
    obtain ⟨n, rfl, hn⟩ := qs_num b1 b2
    obtain ⟨r, hX, hY⟩ := xy_least (md := qz_i d) (md' := qz_i d) (fi := fi) (mi := mi) (P := P) (P' := P') G S S' hn L.length 0 (by omega)
    exact xw_n1 b1 b2 (br_f (by decide) ⟨L.length + 1, hX _ (yw_n0 b1 b2 (br_t rfl ⟨L.length + 1, hY _ ⟨rfl, I'⟩⟩))⟩)
