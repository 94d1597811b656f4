/-! ===== the law's invariant ===== -/
def JI (r : Nat → Int32) (J K : gJn) (T : Nat → Nat → Int32) : Prop := ((r 0 = 1 ∧ jfit J ∧ jT J ≤ 999 ∧ kth (fun _ => r) J K ∧ jfit K ∧ jT K = 0) ∨ (r 0 = 0 ∧ J 9 0 = 0 ∧ J 9 2 = 0)) ∧ J 9 5 = -1 ∧ ∃ c, c ≤ 10 ∧ T 0 3 = nI c ∧ kn r c (T 1) (T 2) (T 3) ∧ knr (jR J) c (T 2)
def FI (c : Nat) (f x : Int32) : Prop := (f = -1 ∨ ∃ i, i < c ∧ f = nI i) ∧ ∃ x0, x0 < 2147483648 ∧ x = nI x0
abbrev hx9 (nx u i : Nat) : Nat := 9 + (nx + 20 - u + i) % 20
def HI (S : gS) (X : gX) : Prop := ∃ nx u, nx < 20 ∧ u ≤ 20 ∧ X 8 0 1 = nI nx ∧ X 8 0 2 = nI u ∧ kha S u (fun i => X (hx9 nx u i)) ∧ ∀ i, i < u → jst (X (hx9 nx u i)) (X 2) ∧ jfit (X (hx9 nx u i)) ∧ jT (X (hx9 nx u i)) ≤ 999
def RI (S : gS) (Q : gU) (c : Nat) : Prop := ∀ i, i < c → ∃ cl, krel S i cl ∧ crel (Q i).2 (Q i).1 cl
def II (S : gS) (X : gX) (c : Nat) : Prop := ∀ k, k < 4 → (X (33 + 4 * k) 0 3 = 0 ∧ S 23 k = 0) ∨ (X (33 + 4 * k) 0 3 = 1 ∧ S 23 k = 1 ∧ (∃ r, kimg S k r (X (34 + 4 * k)) ∧ JI r (X (34 + 4 * k)) (X (35 + 4 * k)) (X (36 + 4 * k))) ∧ FI c (X (33 + 4 * k) 0 4) (X (33 + 4 * k) 0 5) ∧ S 21 k = X (33 + 4 * k) 0 4 ∧ S 22 k = X (33 + 4 * k) 0 5)
def TI (S : gS) (X : gX) : Prop := ∃ p, p ≤ 400 ∧ X 1 0 1 = nI p ∧ S 0 1 = nI p ∧ S 1 = X 1 1 ∧ ∀ i, tb8 (X 1 1 i)
def SI (S : gS) (X : gX) : Prop := S 0 2 = X 0 0 16 ∧ S 0 21 = X 0 0 17 ∧ S 0 22 = X 0 0 18 ∧ S 0 24 = -1
def LI (n : Nat) (X : gX) (O : gO) (Q : gU) (S : gS) : Prop := xR n X O Q ∧ TI S X ∧ SI S X ∧ ∃ c, X 0 0 16 = nI c ∧ c ≤ 6 ∧ FI c (X 0 0 17) (X 0 0 18) ∧ RI S Q c ∧ II S X c ∧ JI (S 10) (X 2) (X 3) (X 29) ∧ HI S X
section LIQ
variable {n : Nat} {X X1 : gX} {O : gO} {Q : gU} {S S1 : gS}
theorem TI.eq (h : TI S X) (h1 : X1 1 = X 1) (s1 : S1 1 = S 1) (s01 : S1 0 1 = S 0 1) : TI S1 X1 := by
  obtain ⟨p, a, b, c, d, e⟩ := h
  refine ⟨p, a, by rw [h1]; exact b, s01.trans c, by rw [s1, h1]; exact d, fun i => ?_⟩
  rw [h1]
  exact e i
theorem RI.eq {c : Nat} (h : RI S Q c) (s2 : S1 2 = S 2) (s4 : S1 4 = S 4) (s5 : S1 5 = S 5) : RI S1 Q c := fun i hi => by
  obtain ⟨cl, a, b⟩ := h i hi
  exact ⟨cl, krel_eq s2 s4 s5 a, b⟩
theorem II.eq {c : Nat} (h : II S X c) (hX : ∀ r, 33 ≤ r → r < 49 → X1 r = X r) (s20 : S1 20 = S 20) (s21 : S1 21 = S 21) (s22 : S1 22 = S 22) (s23 : S1 23 = S 23) : II S1 X1 c := fun k hk => by
  have h' := h k hk
  unfold kimg at h' ⊢
  rw [hX _ (by omega) (by omega), hX _ (by omega) (by omega), hX _ (by omega) (by omega), hX _ (by omega) (by omega), s20, s21, s22, s23]
  exact h'
theorem HI.eq (h : HI S X) (h8 : X1 8 = X 8) (hX : ∀ r, 9 ≤ r → r < 29 → X1 r = X r) (h2 : X1 2 = X 2) (s12 : S1 12 = S 12) (s27 : S1 0 27 = S 0 27) : HI S1 X1 := by
  obtain ⟨nx, u, a, b, c, d, e, f⟩ := h
  have hh : ∀ i, X1 (hx9 nx u i) = X (hx9 nx u i) := fun i => hX _ (by show 9 ≤ 9 + _; omega) (by show 9 + _ % 20 < 29; omega)
  refine ⟨nx, u, a, b, by rw [h8]; exact c, by rw [h8]; exact d, ?_, fun i hi => ?_⟩
  · obtain ⟨e1, e2, e3⟩ := e
    refine ⟨s27.trans e1, e2, fun i hi k hk => ?_⟩
    show S1 12 (44 * i + k) = krow (X1 (hx9 nx u i)) k
    rw [s12, hh i]
    exact e3 i hi k hk
  · rw [hh i, h2]
    exact f i hi
theorem LI.q (h : LI n X O Q S) (hx : xq X X1) (hk : kq S S1) : LI n X1 O Q S1 := by
  obtain ⟨a, b, ⟨c1, c2, c3, c4⟩, c, d, e, f, g, i, j, k⟩ := h
  have x0 := hx 0 (by decide) (by decide) (by decide)
  have x2 := hx 2 (by decide) (by decide) (by decide)
  refine ⟨a.eq (by rw [x0]), b.eq (hx 1 (by decide) (by decide) (by decide)) (hk.1 1 (by omega)) (hk.2 1 (by omega)), ⟨?_, ?_, ?_, ?_⟩, c, by rw [x0]; exact d, e, by rw [x0]; exact f, g.eq (hk.1 2 (by omega)) (hk.1 4 (by omega)) (hk.1 5 (by omega)), i.eq (fun r p q => hx r (by omega) (by omega) (by omega)) (hk.1 20 (by omega)) (hk.1 21 (by omega)) (hk.1 22 (by omega)) (hk.1 23 (by omega)), ?_, k.eq (hx 8 (by decide) (by decide) (by decide)) (fun r p q => hx r (by omega) (by omega) (by omega)) x2 (hk.1 12 (by omega)) (hk.2 27 (by omega))⟩
  · rw [x0, hk.2 2 (by omega)]; exact c1
  · rw [x0, hk.2 21 (by omega)]; exact c2
  · rw [x0, hk.2 22 (by omega)]; exact c3
  · rw [hk.2 24 (by omega)]; exact c4
  · rw [x2, hx 3 (by decide) (by decide) (by decide), hx 29 (by decide) (by decide) (by decide), hk.1 10 (by omega)]; exact j
theorem LI.kT_of {c : Nat} (hc6 : c ≤ 6) (h16 : X 0 0 16 = nI c) (hR : RI S Q c) {f : Int32} (hf : f = -1 ∨ ∃ i, i < c ∧ f = nI i) (h21 : S 0 21 = f) : kT S (xtf X Q f) := by
  rcases hf with rfl | ⟨i, hi, rfl⟩
  · exact Or.inl ⟨by rw [h21]; decide, by unfold xtf; rw [if_pos (by decide)]⟩
  · obtain ⟨cl, a, b⟩ := hR i hi
    refine Or.inr ⟨i, cl, by omega, h21, a, fun J hj hl => ?_⟩
    have e : xtf X Q (nI i) = jt1 (Q i).2 (Q i).1 := by
      unfold xtf
      rw [if_neg (show ¬ nI i < 0 from Int32.not_lt.mpr (nI_le (a := 0) (b := i) (by omega) (by omega))), h16, if_neg (nI_ge (a := i) (b := c) hi (by omega)), nI_clamp (by omega)]
    rw [e]
    exact b.set hj hl
theorem LI.kok (h : LI n X O Q S) : kok S (X 2) (xtf X Q (X 0 0 17)) := by
  obtain ⟨a, b, ⟨c1, c2, c3, c4⟩, c, d, e, f, g, i, j, k⟩ := h
  rcases j.1 with ⟨j1, j2, j3, _⟩ | j1
  · exact Or.inl ⟨⟨j1, by rw [c4]; decide, LI.kT_of e d g f.1 c2⟩, j2, j3⟩
  · exact Or.inr j1
theorem LI.xk (h : LI n X O Q S) : xk (X 2) := by
  obtain ⟨a, b, _, c, d, e, f, g, i, j, k⟩ := h
  rcases j.1 with ⟨j1, j2, j3, _⟩ | j1
  · exact Or.inl ⟨j2, j3⟩
  · exact Or.inr j1.2
end LIQ
