/-! ===== pairs: what changes the state beside the junction now ===== -/
theorem LI.of {n : Nat} {X X1 : gX} {O : gO} {Q : gU} {S S1 : gS} (h : LI n X O Q S) (h16 : X1 0 0 16 = X 0 0 16) (s2 : S1 0 2 = S 0 2) (s24 : S1 0 24 = S 0 24) (h21 : S1 0 21 = X1 0 0 17) (h22 : S1 0 22 = X1 0 0 18) (hT : TI S1 X1) (r2 : S1 2 = S 2) (r4 : S1 4 = S 4) (r5 : S1 5 = S 5) (hF : ∀ c, c ≤ 6 → X 0 0 16 = nI c → FI c (X1 0 0 17) (X1 0 0 18)) (hI : ∀ c, c ≤ 6 → X 0 0 16 = nI c → II S1 X1 c) (hJ : JI (S1 10) (X1 2) (X1 3) (X1 29)) (hH : HI S1 X1) : LI n X1 O Q S1 := by
  obtain ⟨a, b, ⟨c1, c2, c3, c4⟩, c, d, e, f, g, i, j, k⟩ := h
  exact ⟨a.eq h16, hT, ⟨by rw [h16, s2]; exact c1, h21, h22, s24.trans c4⟩, c, h16.trans d, e, hF c e d, g.eq r2 r4 r5, hI c e d, hJ, hH⟩
theorem LI.tape {n : Nat} {X : gX} {O : gO} {Q : gU} {S : gS} (h : LI n X O Q S) : TI S X := h.2.1
theorem LI.junc {n : Nat} {X : gX} {O : gO} {Q : gU} {S : gS} (h : LI n X O Q S) : JI (S 10) (X 2) (X 3) (X 29) := by
  obtain ⟨a, b, _, c, d, e, f, g, i, j, k⟩ := h
  exact j
theorem LI.img {n : Nat} {X : gX} {O : gO} {Q : gU} {S : gS} (h : LI n X O Q S) {c : Nat} (hc : c ≤ 6) (h16 : X 0 0 16 = nI c) : II S X c := by
  obtain ⟨a, b, _, c', d, e, f, g, i, j, k⟩ := h
  have := nI_inj (by omega) (by omega) (d.symm.trans h16)
  subst this
  exact i
theorem LI.fc {n : Nat} {X : gX} {O : gO} {Q : gU} {S : gS} (h : LI n X O Q S) {c : Nat} (hc : c ≤ 6) (h16 : X 0 0 16 = nI c) : FI c (X 0 0 17) (X 0 0 18) := by
  obtain ⟨a, b, _, c', d, e, f, g, i, j, k⟩ := h
  have := nI_inj (by omega) (by omega) (d.symm.trans h16)
  subst this
  exact f
theorem LI.cnt {n : Nat} {X : gX} {O : gO} {Q : gU} {S : gS} (h : LI n X O Q S) : ∃ c, c ≤ 6 ∧ X 0 0 16 = nI c := by
  obtain ⟨a, b, _, c', d, e, f, g, i, j, k⟩ := h
  exact ⟨c', e, d⟩
theorem LI.pm {n : Nat} {X : gX} {O : gO} {Q : gU} {G : gK} {S : gS} {L : gLg} {g : Nat → Int32} (h : LI n X O Q S) {d d' : Nat} (hd : d ≤ 31) (hd' : d' ≤ 31) {mc mr : gMi} {av : List Value} {w : Int32} {X1 : gX} {S1 : gS} {g1 : Nat → Int32} (hc : SX d 0 0 mc (.ref 16 :: av) (xm n X O Q G (kput S (j_s (X 2) 7 g)) L) (fun v M' => v = some (.int w) ∧ M' = xm n X1 O Q G (kput S (j_s (X 2) 7 g)) L)) (hr : ∀ M : gM, 408 ≤ M.1 → SX d' 0 0 mr (.ref 384 :: av) (kp M (kput S (j_s (X 2) 7 g)) L) (fun v M' => v = some (.int w) ∧ M' = kp M (kput S1 (j_s (X1 2) 7 g1)) L)) (hL : LI n X1 O Q S1) : PR 0 0 mc mr av (xm n X O Q G (kput S (j_s (X 2) 7 g)) L) := by
  refine ⟨d, hd, hc.weaken ?_⟩
  rintro v M' ⟨rfl, rfl⟩
  refine ⟨w, d', hd', rfl, ⟨_, _, _, _, _, _, _, h.1.M, rfl⟩, ?_⟩
  have := hr (xm n X1 O Q G (kput S (j_s (X 2) 7 g)) L) h.1.M
  rw [kp_xm] at this
  refine this.weaken ?_
  rintro v2 M2 ⟨rfl, rfl⟩
  exact ⟨rfl, n, X1, O, Q, G, S1, L, g1, hL, kp_xm _ _⟩
theorem nn_of {n : Int32} (h : 0 ≤ n) : ∃ x, x < 2147483648 ∧ n = nI x := by
  refine ⟨n.toInt.toNat, ?_, ?_⟩
  · have := n.toInt_lt
    omega
  · have h' : 0 ≤ n.toInt := by
      have := Int32.le_iff_toInt_le.mp h
      simpa using this
    have : nI n.toInt.toNat = Int32.ofInt n.toInt := by
      unfold nI
      rw [← Int.toNat_of_nonneg h']
      rfl
    rw [this, Int32.ofInt_toInt]
theorem pr_seed {M : gM} (h : ST M) (a : Int32) : PR 0 0 mX10_seed mX11_seed [.int a] M := by
  obtain ⟨n, X, O, Q, G, S, L, g, h, rfl⟩ := h
  have h22 : S 0 22 = X 0 0 18 := h.2.2.1.2.2.1
  by_cases ha : 0 ≤ a
  · have hc := c_X10_seed (X := X) (O := O) (Q := Q) (G := G) (S := kput S (j_s (X 2) 7 g)) (L := L) h.1.M a
    rw [if_pos ha] at hc
    refine h.pm (S1 := k_f S 22 a) (g1 := g) (d' := 0) (by decide) (by decide) hc (fun M hM => ?_) ?_
    · have hr := c_X11_seed (S := S) (J := j_s (X 2) 7 g) (L := L) hM a
      rw [if_pos ha, h22] at hr
      exact hr
    · refine h.of rfl rfl rfl h.2.2.1.2.1 rfl (h.tape.eq rfl rfl rfl) rfl rfl rfl (fun c a1 a2 => ⟨(h.fc a1 a2).1, nn_of ha⟩) (fun c a1 a2 => (h.img a1 a2).eq (fun r b1 _ => x_r_ne _ _ (by omega)) rfl rfl rfl rfl) h.junc (h.hist.eq rfl (fun r b1 _ => x_r_ne _ _ (by omega)) rfl rfl rfl)
  · have hc := c_X10_seed (X := X) (O := O) (Q := Q) (G := G) (S := kput S (j_s (X 2) 7 g)) (L := L) h.1.M a
    rw [if_neg ha] at hc
    refine h.pm (S1 := S) (g1 := g) (d' := 0) (by decide) (by decide) hc (fun M hM => ?_) h
    have hr := c_X11_seed (S := S) (J := j_s (X 2) 7 g) (L := L) hM a
    rw [if_neg ha, h22] at hr
    exact hr
theorem force_iff {S : gS} {c : Nat} (hc : c ≤ 6) (h2 : S 0 2 = nI c) (rule : Int32) : q_in rule (-1) (nI c - 1) = 0 ↔ (¬ rule = -1 ∧ k_isRule S rule = 0) := by
  have e1 : (nI c - 1).toInt = (c : Int) - 1 := by
    match c, hc with
    | 0, _ => rfl
    | 1, _ => rfl
    | 2, _ => rfl
    | 3, _ => rfl
    | 4, _ => rfl
    | 5, _ => rfl
    | 6, _ => rfl
  have e2 : (nI c).toInt = (c : Int) := by
    match c, hc with
    | 0, _ => rfl
    | 1, _ => rfl
    | 2, _ => rfl
    | 3, _ => rfl
    | 4, _ => rfl
    | 5, _ => rfl
    | 6, _ => rfl
  have e3 : (-1 : Int32).toInt = -1 := rfl
  have e4 : (0 : Int32).toInt = 0 := rfl
  have e5 : rule = -1 ↔ rule.toInt = -1 := by rw [← e3, Int32.toInt_inj]
  unfold q_in k_isRule
  rw [h2, e5]
  simp only [Int32.lt_iff_toInt_lt, Int32.le_iff_toInt_le, e1, e2, e3, e4]
  split
  · constructor
    · intro _
      refine ⟨by omega, ?_⟩
      rw [if_pos (by omega)]
    · intro _; rfl
  · split
    · constructor
      · intro _
        refine ⟨by omega, ?_⟩
        split
        · rfl
        · rw [if_pos (by omega)]
      · intro _; rfl
    · constructor
      · intro q
        exact absurd q (by decide)
      · rintro ⟨q1, q2⟩
        rw [if_neg (by omega), if_neg (by omega)] at q2
        exact absurd q2 (by decide)
theorem pr_force {M : gM} (h : ST M) (a : Int32) : PR 0 0 mX10_force mX11_force [.int a] M := by
  obtain ⟨n, X, O, Q, G, S, L, g, h, rfl⟩ := h
  have h21 : S 0 21 = X 0 0 17 := h.2.2.1.2.1
  obtain ⟨c, hc6, h16⟩ := h.cnt
  have hs2 : S 0 2 = nI c := h.2.2.1.1.trans h16
  have hc := c_X10_force (X := X) (O := O) (Q := Q) (G := G) (S := kput S (j_s (X 2) 7 g)) (L := L) h.1.M a
  rw [h16] at hc
  have hiff := force_iff hc6 hs2 a
  by_cases ha : q_in a (-1) (nI c - 1) = 0
  · rw [if_pos ha, if_pos ha] at hc
    refine h.pm (S1 := S) (g1 := g) (d' := 1) (by decide) (by decide) hc (fun M hM => ?_) h
    have hr := c_X11_force (S := S) (J := j_s (X 2) 7 g) (L := L) hM a
    unfold q_force q_forceS at hr
    rw [if_pos (hiff.mp ha), if_pos (hiff.mp ha)] at hr
    exact hr
  · rw [if_neg ha, if_neg ha] at hc
    refine h.pm (S1 := k_f S 21 a) (g1 := g) (d' := 1) (by decide) (by decide) hc (fun M hM => ?_) ?_
    · have hr := c_X11_force (S := S) (J := j_s (X 2) 7 g) (L := L) hM a
      unfold q_force q_forceS at hr
      rw [if_neg (fun q => ha (hiff.mpr q)), if_neg (fun q => ha (hiff.mpr q)), h21] at hr
      exact hr
    · have hno : ¬ (¬ a = -1 ∧ k_isRule S a = 0) := fun q => ha (hiff.mpr q)
      have hf : a = -1 ∨ ∃ i, i < c ∧ a = nI i := by
        by_cases h1 : a = -1
        · exact Or.inl h1
        · right
          have h2 : ¬ k_isRule S a = 0 := fun q => hno ⟨h1, q⟩
          unfold k_isRule at h2
          by_cases h3 : a < 0
          · exact absurd (if_pos h3) h2
          · rw [if_neg h3] at h2
            by_cases h4 : S 0 2 ≤ a
            · exact absurd (if_pos h4) h2
            · obtain ⟨x, hx, rfl⟩ := nn_of (Int32.not_lt.mp h3)
              refine ⟨x, ?_, rfl⟩
              rw [hs2] at h4
              exact Nat.lt_of_not_le fun q => h4 (nI_le (a := c) (b := x) q (by omega))
      refine h.of rfl rfl rfl rfl h.2.2.1.2.2.1 (h.tape.eq rfl rfl rfl) rfl rfl rfl (fun c' a1 a2 => ⟨?_, (h.fc a1 a2).2⟩) (fun c a1 a2 => (h.img a1 a2).eq (fun r b1 _ => x_r_ne _ _ (by omega)) rfl rfl rfl rfl) h.junc (h.hist.eq rfl (fun r b1 _ => x_r_ne _ _ (by omega)) rfl rfl rfl)
      have : c' = c := nI_inj (by omega) (by omega) (a2.symm.trans h16)
      rw [this]
      exact hf
