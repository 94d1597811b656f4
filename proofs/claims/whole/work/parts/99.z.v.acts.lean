/-! ===== acts keep the invariant ===== -/
theorem hx9_push {nx u i : Nat} (hnx : nx < 20) (hu : u < 20) (hi : i < u) : hx9 ((nx + 1) % 20) (u + 1) i = hx9 nx u i ∧ hx9 nx u i ≠ 9 + nx := by
  unfold hx9
  constructor
  · have : ((nx + 1) % 20 + 20 - (u + 1) + i) % 20 = (nx + 20 - u + i) % 20 := by omega
    rw [this]
  · intro h
    omega
theorem hx9_top {nx u : Nat} (hnx : nx < 20) (hu : u < 20) : hx9 ((nx + 1) % 20) (u + 1) u = 9 + nx := by
  unfold hx9
  omega
theorem hx9_full {nx i : Nat} (hnx : nx < 20) (hi : i < 19) : hx9 ((nx + 1) % 20) 20 i = hx9 nx 20 (i + 1) ∧ hx9 nx 20 (i + 1) ≠ 9 + nx := by
  unfold hx9
  constructor
  · omega
  · intro h
    omega
theorem hx9_ftop {nx : Nat} (hnx : nx < 20) : hx9 ((nx + 1) % 20) 20 19 = 9 + nx := by
  unfold hx9
  omega
theorem hpu_le {u : Nat} (h : u ≤ 20) : hpu u ≤ 20 := by
  unfold hpu
  split <;> omega
theorem LI.act {n : Nat} {X : gX} {O : gO} {Q : gU} {S S1 : gS} (h : LI n X O Q S) {nx u : Nat} (hnx20 : nx < 20) (hu20 : u ≤ 20) (hnx : X 8 0 1 = nI nx) (hu : X 8 0 2 = nI u) {J' : gJn} (hst : jst J' (X 2)) (hf : jfit J') (hT : jT J' ≤ 999) (htold : ¬ j_isTold (X 2) = 0) (hk : kqa S S1) (hh : kha S1 (hpu u) (hph u (fun i => X (hx9 nx u i)) (X 2))) : LI n (x_r (xkp X nx u (X 2)) 2 J') O Q S1 := by
  obtain ⟨a, b, ⟨c1, c2, c3, c4⟩, c, d, e, f, g, i, j, k⟩ := h
  have hX1 : ∀ r, r ≠ 2 → r ≠ 8 → r ≠ 9 + nx → x_r (xkp X nx u (X 2)) 2 J' r = X r := fun r a2 a8 a9 => by
    unfold xkp
    rw [x_r_ne _ _ a2, x_r_ne _ _ a8, x_r_ne _ _ a9]
  have x8 : x_r (xkp X nx u (X 2)) 2 J' 8 = xhs (X 8) ((nx + 1) % 20) (hpu u) := by
    unfold xkp
    rw [x_r_ne _ _ (by decide), x_r_eq]
  have x9 : x_r (xkp X nx u (X 2)) 2 J' (9 + nx) = X 2 := by
    unfold xkp
    rw [x_r_ne _ _ (by omega), x_r_ne _ _ (by omega), x_r_eq]
  have x0 := hX1 0 (by decide) (by decide) (by omega)
  have x2 : x_r (xkp X nx u (X 2)) 2 J' 2 = J' := x_r_eq _ _ _
  obtain ⟨j1, j2, cn, j3, j4, j5, j6⟩ := j
  have hj1 : S 10 0 = 1 ∧ jfit (X 2) ∧ jT (X 2) ≤ 999 ∧ kth (fun _ => S 10) (X 2) (X 3) ∧ jfit (X 3) ∧ jT (X 3) = 0 := by
    rcases j1 with z | ⟨_, z, _⟩
    · exact z
    · exact absurd (by unfold j_isTold; rw [z]; rfl) htold
  obtain ⟨nx', u', q1, q2, q3, q4, q5, q6⟩ := k
  have en : nx' = nx := nI_inj (by omega) (by omega) (q3.symm.trans hnx)
  have eu : u' = u := nI_inj (by omega) (by omega) (q4.symm.trans hu)
  subst en eu
  have hHp : ∀ i, i < hpu u' → x_r (xkp X nx' u' (X 2)) 2 J' (hx9 ((nx' + 1) % 20) (hpu u') i) = hph u' (fun i => X (hx9 nx' u' i)) (X 2) i ∧ (hph u' (fun i => X (hx9 nx' u' i)) (X 2) i = X 2 ∨ ∃ t, t < u' ∧ hph u' (fun i => X (hx9 nx' u' i)) (X 2) i = X (hx9 nx' u' t)) := fun i hi => by
    have hr : ∀ i, 9 ≤ hx9 nx' u' i ∧ hx9 nx' u' i < 29 := fun i => ⟨by show 9 ≤ 9 + _; omega, by show 9 + _ % 20 < 29; omega⟩
    unfold hph
    by_cases h20 : u' = 20
    · have e1 : hpu u' = 20 := if_pos h20
      rw [e1] at hi ⊢
      rw [if_pos h20]
      by_cases h19 : i < 19
      · rw [if_pos h19, (hx9_full hnx20 h19).1]
        have e2 := (hx9_full (i := i) hnx20 h19).2
        subst h20
        have := hr (i + 1)
        exact ⟨hX1 _ (by omega) (by omega) e2, Or.inr ⟨i + 1, by omega, rfl⟩⟩
      · rw [if_neg h19, show i = 19 by omega, hx9_ftop hnx20]
        exact ⟨x9, Or.inl rfl⟩
    · have e1 : hpu u' = u' + 1 := if_neg h20
      rw [e1] at hi ⊢
      rw [if_neg h20]
      by_cases h19 : i < u'
      · rw [if_pos h19, (hx9_push hnx20 (by omega) h19).1]
        have e2 := (hx9_push (i := i) hnx20 (show u' < 20 by omega) h19).2
        have := hr i
        exact ⟨hX1 _ (by omega) (by omega) e2, Or.inr ⟨i, h19, rfl⟩⟩
      · rw [if_neg h19, show i = u' by omega, hx9_top hnx20 (by omega)]
        exact ⟨x9, Or.inl rfl⟩
  refine ⟨a.eq (by rw [x0]), b.eq (hX1 1 (by decide) (by decide) (by omega)) (hk.1 1 (by omega)) (hk.2 1 (by omega)), ⟨?_, ?_, ?_, ?_⟩, c, by rw [x0]; exact d, e, by rw [x0]; exact f, g.eq (hk.1 2 (by omega)) (hk.1 4 (by omega)) (hk.1 5 (by omega)), i.eq (fun r p q => hX1 r (by omega) (by omega) (by omega)) (hk.1 20 (by omega)) (hk.1 21 (by omega)) (hk.1 22 (by omega)) (hk.1 23 (by omega)), ?_, (nx' + 1) % 20, hpu u', by omega, hpu_le hu20, ?_, ?_, ?_, fun i hi => ?_⟩
  · rw [x0, hk.2 2 (by omega)]; exact c1
  · rw [x0, hk.2 21 (by omega)]; exact c2
  · rw [x0, hk.2 22 (by omega)]; exact c3
  · rw [hk.2 24 (by omega)]; exact c4
  · rw [x2, hX1 3 (by decide) (by decide) (by omega), hX1 29 (by decide) (by decide) (by omega), hk.1 10 (by omega)]
    obtain ⟨z1, z2, z3, z4, z5, z6⟩ := hj1
    obtain ⟨t1, t2, t3, t4, t5⟩ := z4
    exact ⟨Or.inl ⟨z1, hf, hT, ⟨t1, t2, t3, t4, jst.trans hst.symm t5⟩, z5, z6⟩, (hst.2.2 5 (by decide) (by decide)).trans j2, cn, j3, j4, j5, by rw [hst.R]; exact j6⟩
  · rw [x8]; rfl
  · rw [x8]; rfl
  · obtain ⟨e1, e2, e3⟩ := hh
    refine ⟨e1, e2, fun i hi k hk => ?_⟩
    show S1 12 (44 * i + k) = krow (x_r (xkp X nx' u' (X 2)) 2 J' (hx9 ((nx' + 1) % 20) (hpu u') i)) k
    rw [(hHp i hi).1]
    exact e3 i hi k hk
  · rw [(hHp i hi).1, x2]
    rcases (hHp i hi).2 with z | ⟨t, ht, z⟩
    · rw [z]
      exact ⟨hst.symm, hj1.2.1, hj1.2.2.1⟩
    · rw [z]
      have := q6 t ht
      exact ⟨jst.trans hst.symm this.1, this.2⟩
