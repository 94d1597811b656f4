/-! ===== pairs: junction() ===== -/
theorem jv.fit {k : Nat} {K : gJn} (h : jv (k + 1) K) : jfit K ∧ jT K = 0 ∧ K 9 5 = -1 := by
  obtain ⟨⟨R, r1, r2, r3⟩, a0, a2, az, a9, hh⟩ := h
  obtain ⟨⟨b, b1, b2, b3⟩, m, m1, m2, m3⟩ := hh (by omega)
  have h3 : K 9 3 = 0 := a9 3 (by omega)
  have h5 : K 9 5 = -1 := a9 5 (by omega)
  have hR : jR K = R := by
    unfold jR
    rw [r2, nI_clamp (by omega)]
  have hB : jB K = b := by
    unfold jB
    rw [b3, nI_clamp (by omega)]
  have hT : jT K = 0 := by
    unfold jT
    rw [h3]
    rfl
  refine ⟨⟨⟨by rw [hR]; exact r2, by omega, fun i hi => ?_, by rw [hB]; exact b3, by omega, by omega, by rw [hT]; exact h3, by omega⟩, ⟨m, m1, m2, m3⟩, fun i hi => ?_, fun i hi => ?_, fun i hi => r3 i (by omega), fun i hi => ?_, 0, by omega, h3⟩, hT, h5⟩
  · obtain ⟨w, w1, w2⟩ := a2 i hi
    show K 2 i = nI (K 2 i).toNatClampNeg ∧ (K 2 i).toNatClampNeg < 12
    rw [w2, nI_clamp (by omega)]
    exact ⟨rfl, by omega⟩
  · obtain ⟨w, w1, w2⟩ := a0 i hi
    exact ⟨w, by omega, w2⟩
  · rw [az 5 (by omega) (by omega)]
    exact ⟨0, by omega, rfl⟩
  · rw [az 6 (by omega) (by omega)]
    exact Or.inl rfl
theorem kfz_rows {S S' : gS} {J : gJn} (hk : kfz (kput S J) S') : (∀ r, r ≠ 0 → r ≠ 3 → r ≠ 6 → r ≠ 10 → r ≠ 11 → S' r = S r) ∧ ∀ i, i ≠ 1 → i ≠ 8 → i ≠ 9 → i ≠ 10 → i ≠ 11 → i ≠ 12 → i ≠ 14 → i ≠ 23 → S' 0 i = S 0 i := by
  refine ⟨fun r q0 q3 q6 q10 q11 => ?_, fun i q1 q2 q3 q4 q5 q6 q7 q8 => ?_⟩
  · rw [hk.1 r q0 q3 q6 q10]
    unfold kput
    rw [if_neg q10, if_neg q11, if_neg q0]
  · rw [hk.2 i q1 q2 q3 q4 q5 q6 q7]
    exact upd_ne q8
theorem LI.junE {n : Nat} {X X1 : gX} {O : gO} {Q : gU} {S S' : gS} {g : Nat → Int32} (h : LI n X O Q S) (hx : ∀ r, r ≠ 1 → r ≠ 4 → X1 r = X r) (hx1 : X1 1 0 1 = 0) (hx2 : X1 1 1 = X 1 1) (hk : kfz (kput S (j_s (X 2) 7 g)) S') (h1 : S' 0 1 = 0) (h10 : S' 10 = kput S (j_s (X 2) 7 g) 10) : LI n X1 O Q (k_s S' 10 (S 10)) ∧ kput (k_s S' 10 (S 10)) (j_s (X1 2) 7 g) = S' := by
  obtain ⟨hr, hf⟩ := kfz_rows hk
  have x2 : X1 2 = X 2 := hx 2 (by decide) (by decide)
  have x0 : X1 0 = X 0 := hx 0 (by decide) (by decide)
  obtain ⟨p, b1, b2, b3, b4, b5⟩ := h.tape
  constructor
  · refine h.of (by rw [x0]) (hf 2 (by decide) (by decide) (by decide) (by decide) (by decide) (by decide) (by decide) (by decide)) (hf 24 (by decide) (by decide) (by decide) (by decide) (by decide) (by decide) (by decide) (by decide)) ?_ ?_ ⟨0, by decide, hx1, h1, ?_, fun t => by rw [hx2]; exact b5 t⟩ (hr 2 (by decide) (by decide) (by decide) (by decide) (by decide)) (hr 4 (by decide) (by decide) (by decide) (by decide) (by decide)) (hr 5 (by decide) (by decide) (by decide) (by decide) (by decide)) (fun c a1 a2 => by rw [x0]; exact h.fc a1 a2) (fun c a1 a2 => (h.img a1 a2).eq (fun r q1 q2 => hx r (by omega) (by omega)) (hr 20 (by decide) (by decide) (by decide) (by decide) (by decide)) (hr 21 (by decide) (by decide) (by decide) (by decide) (by decide)) (hr 22 (by decide) (by decide) (by decide) (by decide) (by decide)) (hr 23 (by decide) (by decide) (by decide) (by decide) (by decide))) ?_ (h.hist.eq (hx 8 (by decide) (by decide)) (fun r q1 q2 => hx r (by omega) (by omega)) x2 (hr 12 (by decide) (by decide) (by decide) (by decide) (by decide)) (hf 27 (by decide) (by decide) (by decide) (by decide) (by decide) (by decide) (by decide) (by decide)))
    · rw [x0]
      exact (hf 21 (by decide) (by decide) (by decide) (by decide) (by decide) (by decide) (by decide) (by decide)).trans h.2.2.1.2.1
    · rw [x0]
      exact (hf 22 (by decide) (by decide) (by decide) (by decide) (by decide) (by decide) (by decide) (by decide)).trans h.2.2.1.2.2.1
    · show S' 1 = X1 1 1
      rw [hr 1 (by decide) (by decide) (by decide) (by decide) (by decide), hx2, b4]
    · rw [x2, hx 3 (by decide) (by decide), hx 29 (by decide) (by decide)]
      exact h.junc
  · rw [x2]
    refine kput_back h10 (fun t ht => ?_) ?_
    · rw [hk.1 11 (by decide) (by decide) (by decide) (by decide)]
      exact if_pos ht
    · rw [hk.2 23 (by decide) (by decide) (by decide) (by decide) (by decide) (by decide) (by decide)]
      rfl
theorem LI.junO {n : Nat} {X X1 : gX} {O : gO} {Q : gU} {S S4 : gS} {g : Nat → Int32} (h : LI n X O Q S) {K : gJn} {k : Nat} (hjv : jv (k + 1) K) (x2 : X1 2 = K) (x3 : X1 3 = K) (x29 : X1 29 = j_f (X 29) 3 0) (x8 : X1 8 = j_f (X 8) 2 0) (hx : ∀ r, r ≠ 1 → r ≠ 2 → r ≠ 3 → r ≠ 4 → r ≠ 8 → r ≠ 29 → X1 r = X r) (hx1 : X1 1 0 1 = 0) (hx2 : X1 1 1 = X 1 1) (hk : kfz (kput S (j_s (X 2) 7 g)) S4) (h1 : S4 0 1 = 0) (h0 : S4 10 0 = 1) (h120 : S4 10 120 = 0) (hkt : kth S4 K K) : LI n X1 O Q (k_f S4 27 0) := by
  obtain ⟨hr, hf⟩ := kfz_rows hk
  obtain ⟨p, b1, b2, b3, b4, b5⟩ := h.tape
  obtain ⟨k1, k2, k3⟩ := hjv.fit
  have x0 : X1 0 = X 0 := hx 0 (by decide) (by decide) (by decide) (by decide) (by decide) (by decide)
  refine h.of (by rw [x0]) (hf 2 (by decide) (by decide) (by decide) (by decide) (by decide) (by decide) (by decide) (by decide)) (hf 24 (by decide) (by decide) (by decide) (by decide) (by decide) (by decide) (by decide) (by decide)) ?_ ?_ ⟨0, by decide, hx1, h1, ?_, fun t => by rw [hx2]; exact b5 t⟩ (hr 2 (by decide) (by decide) (by decide) (by decide) (by decide)) (hr 4 (by decide) (by decide) (by decide) (by decide) (by decide)) (hr 5 (by decide) (by decide) (by decide) (by decide) (by decide)) (fun c a1 a2 => by rw [x0]; exact h.fc a1 a2) (fun c a1 a2 => (h.img a1 a2).eq (fun r q1 q2 => hx r (by omega) (by omega) (by omega) (by omega) (by omega) (by omega)) (hr 20 (by decide) (by decide) (by decide) (by decide) (by decide)) (hr 21 (by decide) (by decide) (by decide) (by decide) (by decide)) (hr 22 (by decide) (by decide) (by decide) (by decide) (by decide)) (hr 23 (by decide) (by decide) (by decide) (by decide) (by decide))) ?_ ?_
  · rw [x0]
    exact (hf 21 (by decide) (by decide) (by decide) (by decide) (by decide) (by decide) (by decide) (by decide)).trans h.2.2.1.2.1
  · rw [x0]
    exact (hf 22 (by decide) (by decide) (by decide) (by decide) (by decide) (by decide) (by decide) (by decide)).trans h.2.2.1.2.2.1
  · show S4 1 = X1 1 1
    rw [hr 1 (by decide) (by decide) (by decide) (by decide) (by decide), hx2, b4]
  · rw [x2, x3, x29]
    exact ⟨Or.inl ⟨h0, k1, by omega, hkt, k1, k2⟩, k3, 0, by decide, rfl, ⟨h120, by decide, fun i hi => absurd hi (by omega)⟩, fun i hi => absurd hi (by omega)⟩
  · obtain ⟨nx, u, a1, a2, a3, a4, a5, a6⟩ := h.hist
    exact ⟨nx, 0, a1, by omega, by rw [x8]; exact a3, by rw [x8]; rfl, ⟨rfl, by omega, fun i hi => absurd hi (by omega)⟩, fun i hi => absurd hi (by omega)⟩
theorem pr_junction {M : gM} (h : ST M) : PR 0 0 mX10_junction mX11_junction [] M := by
  obtain ⟨n, X, O, Q, G, S, L, g, h, rfl⟩ := h
  obtain ⟨p, p4, t1, t2, t3, t4⟩ := h.tape
  refine ⟨7, by decide, (c_X10_junction h.1.M p4 t1 rfl).weaken ?_⟩
  rintro v M' ⟨X1, rfl, x1, x2, hv⟩
  rcases hv with ⟨e, rfl, he, ⟨m, hm⟩, hx⟩ | ⟨K, rfl, ⟨m, hm⟩, ⟨k, hjv⟩, y2, y3, y29, y8, hx⟩
  · refine ⟨-2 - e, 12, by decide, rfl, ⟨_, _, _, _, _, _, _, h.1.M, rfl⟩, ?_⟩
    have := c_X11_junction (M := xm n X1 O Q G (kput S (j_s (X 2) 7 g)) L) (S := kput S (j_s (X 2) 7 g)) (L := L) (T := X 1 1) (N := p) h.1.M p4 t4 t2 t3 hm (fun g hg => by cases hg; exact he) h.h5
    rw [kp_xm] at this
    refine this.weaken ?_
    rintro v2 M2 (⟨g', S3, hg', rfl, rfl, hk, s1, s10⟩ | ⟨K, S4, hK, _⟩)
    · cases hg'
      obtain ⟨y1, y2⟩ := h.junE hx x1 x2 hk s1 s10
      refine ⟨rfl, n, X1, O, Q, G, _, L, g, y1, ?_⟩
      rw [kp_xm, y2]
    · cases hK
  · refine ⟨K 9 2, 12, by decide, rfl, ⟨_, _, _, _, _, _, _, h.1.M, rfl⟩, ?_⟩
    have := c_X11_junction (M := xm n X1 O Q G (kput S (j_s (X 2) 7 g)) L) (S := kput S (j_s (X 2) 7 g)) (L := L) (T := X 1 1) (N := p) h.1.M p4 t4 t2 t3 hm (fun g hg => by cases hg) h.h5
    rw [kp_xm] at this
    refine this.weaken ?_
    rintro v2 M2 (⟨g', S3, hg', _⟩ | ⟨K', S4, hK, rfl, rfl, hk, s1, s0, s120, skt, _⟩)
    · cases hg'
    · cases hK
      refine ⟨rfl, n, X1, O, Q, G, k_f S4 27 0, L, S4 11, h.junO hjv y2 y3 y29 y8 hx x1 x2 hk s1 s0 s120 skt, ?_⟩
      rw [kp_xm, kput_f27, y2]
