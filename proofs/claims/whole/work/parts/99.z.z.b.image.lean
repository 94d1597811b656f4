/-! ===== pairs: image, back ===== -/
theorem xim_r {X : gX} {k r : Nat} (J K : gJn) (T' : Nat → Nat → Int32) (h : r < 33 + 4 * k ∨ 36 + 4 * k < r) : xim X k J K T' r = X r := by
  unfold xim
  rw [x_r_ne _ _ (by omega), x_r_ne _ _ (by omega), x_r_ne _ _ (by omega), x_r_ne _ _ (by omega)]
theorem xim_at (X : gX) (k : Nat) (J K : gJn) (T' : Nat → Nat → Int32) : xim X k J K T' (34 + 4 * k) = J ∧ xim X k J K T' (35 + 4 * k) = K ∧ xim X k J K T' (36 + 4 * k) = T' ∧ xim X k J K T' (33 + 4 * k) = j_f (j_f (j_f (X (33 + 4 * k)) 3 1) 4 (X 0 0 17)) 5 (X 0 0 18) := by
  unfold xim
  refine ⟨?_, ?_, ?_, ?_⟩
  · rw [x_r_ne _ _ (by omega), x_r_ne _ _ (by omega), x_r_ne _ _ (by omega), x_r_eq]
  · rw [x_r_ne _ _ (by omega), x_r_ne _ _ (by omega), x_r_eq]
  · rw [x_r_ne _ _ (by omega), x_r_eq]
  · rw [x_r_eq]
theorem LI.image {n : Nat} {X : gX} {O : gO} {Q : gU} {S : gS} (h : LI n X O Q S) {k : Nat} (hk : k < 4) {T' : Nat → Nat → Int32} (hx : xnq (X 29) T') (g : Nat → Int32) : LI n (xim X k (X 2) (X 3) T') O Q (kim S (j_s (X 2) 7 g) k) := by
  have hX : ∀ r, r < 33 → xim X k (X 2) (X 3) T' r = X r := fun r hr => xim_r _ _ _ (Or.inl (by omega))
  obtain ⟨i1, i2, i3, i4⟩ := xim_at X k (X 2) (X 3) T'
  refine h.of (by rw [hX 0 (by decide)]) rfl rfl ?_ ?_ (h.tape.eq (hX 1 (by decide)) rfl rfl) rfl rfl rfl (fun c a1 a2 => by rw [hX 0 (by decide)]; exact h.fc a1 a2) (fun c a1 a2 k' hk' => ?_) ?_ (h.hist.eq (hX 8 (by decide)) (fun r _ q => hX r (by omega)) (hX 2 (by decide)) rfl rfl)
  · rw [hX 0 (by decide)]; exact h.2.2.1.2.1
  · rw [hX 0 (by decide)]; exact h.2.2.1.2.2.1
  · by_cases hkk : k' = k
    · subst hkk
      right
      rw [i1, i2, i3, i4]
      refine ⟨rfl, upd_eq, ⟨S 10, fun i hi => ?_, h.junc.tt hx⟩, h.fc a1 a2, ?_, ?_⟩
      · show klay (S 20) (ksaid (S 10) (j_s (X 2) 7 g)) (121 * k') 121 (121 * k' + i) = ksaid (S 10) (X 2) i
        rw [ksaid_s7]
        unfold klay
        rw [if_pos ⟨by omega, by omega⟩, Nat.add_sub_cancel_left]
      · show upd (S 21) k' (S 0 21) k' = X 0 0 17
        rw [upd_eq]; exact h.2.2.1.2.1
      · show upd (S 22) k' (S 0 22) k' = X 0 0 18
        rw [upd_eq]; exact h.2.2.1.2.2.1
    · have hh := h.img a1 a2 k' hk'
      have e23 : kim S (j_s (X 2) 7 g) k 23 k' = S 23 k' := upd_ne hkk
      have e21 : kim S (j_s (X 2) 7 g) k 21 k' = S 21 k' := upd_ne hkk
      have e22 : kim S (j_s (X 2) 7 g) k 22 k' = S 22 k' := upd_ne hkk
      rw [xim_r _ _ _ (by omega), xim_r _ _ _ (by omega), xim_r _ _ _ (by omega), xim_r _ _ _ (by omega), e21, e22, e23]
      rcases hh with q | ⟨q1, q2, ⟨r, q3, q4⟩, q5⟩
      · exact Or.inl q
      · refine Or.inr ⟨q1, q2, ⟨r, fun i hi => ?_, q4⟩, q5⟩
        show klay (S 20) (ksaid (S 10) (j_s (X 2) 7 g)) (121 * k) 121 (121 * k' + i) = ksaid r (X (34 + 4 * k')) i
        unfold klay
        rw [if_neg (by omega)]
        exact q3 i hi
  · rw [hX 2 (by decide), hX 3 (by decide), hX 29 (by decide)]
    exact h.junc
theorem pr_image {M : gM} (h : ST M) (a : Int32) : PR 0 0 mX10_image mX11_image [.int a] M := by
  obtain ⟨n, X, O, Q, G, S, L, g, h, rfl⟩ := h
  refine ⟨3, by decide, (c_X10_image h.1.M rfl rfl a).weaken ?_⟩
  intro v M' hv
  by_cases ha : q_in a 0 3 = 0
  · rw [if_pos ha] at hv
    obtain ⟨rfl, rfl⟩ := hv
    refine ⟨-1, 1, by decide, rfl, ⟨_, _, _, _, _, _, _, h.1.M, rfl⟩, ?_⟩
    have := c_X11_image (M := xm n X O Q G (kput S (j_s (X 2) 7 g)) L) (S := S) (J := j_s (X 2) 7 g) (L := L) h.1.M a
    unfold q_imageM at this
    rw [if_pos ha, if_pos ha, kp_xm] at this
    refine this.weaken ?_
    rintro v2 M2 ⟨rfl, rfl⟩
    exact ⟨rfl, n, X, O, Q, G, S, L, g, h, rfl⟩
  · rw [if_neg ha] at hv
    obtain ⟨rfl, T', hx, rfl⟩ := hv
    obtain ⟨k, _, k3, rfl⟩ := q_in_of (a := 0) (b := 3) ⟨by omega, by omega⟩ ha
    refine ⟨_, 1, by decide, rfl, ⟨_, _, _, _, _, _, _, h.1.M, rfl⟩, ?_⟩
    have := c_X11_image (M := xm n (xim X (nI k).toNatClampNeg (X 2) (X 3) T') O Q G (kput S (j_s (X 2) 7 g)) L) (S := S) (J := j_s (X 2) 7 g) (L := L) h.1.M (nI k)
    unfold q_imageM at this
    rw [if_neg ha, if_neg ha, kp_xm, kp_xm] at this
    rw [nI_clamp (by omega)] at this ⊢
    refine this.weaken ?_
    rintro v2 M2 ⟨rfl, rfl⟩
    refine ⟨rfl, n, xim X k (X 2) (X 3) T', O, Q, G, kim S (j_s (X 2) 7 g) k, L, g, h.image (by omega) hx g, ?_⟩
    rw [xim_r _ _ _ (Or.inl (by omega))]
theorem xbk_at (X : gX) (k : Nat) (T' : Nat → Nat → Int32) : xbk X k T' 2 = X (34 + 4 * k) ∧ xbk X k T' 3 = X (35 + 4 * k) ∧ xbk X k T' 29 = T' ∧ xbk X k T' 0 = j_f (j_f (X 0) 17 (X (33 + 4 * k) 0 4)) 18 (X (33 + 4 * k) 0 5) ∧ xbk X k T' 8 = j_f (X 8) 2 0 ∧ ∀ r, r ≠ 0 → r ≠ 2 → r ≠ 3 → r ≠ 8 → r ≠ 29 → xbk X k T' r = X r := by
  refine ⟨rfl, rfl, rfl, rfl, rfl, fun r a b c d e => ?_⟩
  unfold xbk
  rw [x_r_ne _ _ (by omega), x_r_ne _ _ (by omega), x_r_ne _ _ (by omega), x_r_ne _ _ (by omega), x_r_ne _ _ (by omega)]
theorem LI.back {n : Nat} {X : gX} {O : gO} {Q : gU} {S : gS} (h : LI n X O Q S) {k : Nat} (hk : k < 4) {T' : Nat → Nat → Int32} (hx : xnq (X (36 + 4 * k)) T') {r : Nat → Int32} (hJ : JI r (X (34 + 4 * k)) (X (35 + 4 * k)) (X (36 + 4 * k))) (hF : ∀ c, c ≤ 6 → X 0 0 16 = nI c → FI c (X (33 + 4 * k) 0 4) (X (33 + 4 * k) 0 5)) (h21 : S 21 k = X (33 + 4 * k) 0 4) (h22 : S 22 k = X (33 + 4 * k) 0 5) : LI n (xbk X k T') O Q (k_s (kbk S k) 10 (kbr r (S 10))) := by
  obtain ⟨b2, b3, b29, b0, b8, bo⟩ := xbk_at X k T'
  refine h.of (by rw [b0]; rfl) rfl rfl (by rw [b0]; exact h21) (by rw [b0]; exact h22) (h.tape.eq (bo 1 (by decide) (by decide) (by decide) (by decide) (by decide)) rfl rfl) rfl rfl rfl (fun c a1 a2 => by rw [b0]; exact hF c a1 a2) (fun c a1 a2 => (h.img a1 a2).eq (fun r q1 q2 => bo r (by omega) (by omega) (by omega) (by omega) (by omega)) rfl rfl rfl rfl) ?_ ?_
  · rw [b2, b3, b29]
    exact (hJ.tt hx).rr (fun q hq => if_pos hq)
  · obtain ⟨nx, u, a1, a2, a3, a4, a5, a6⟩ := h.hist
    exact ⟨nx, 0, a1, by omega, by rw [b8]; exact a3, by rw [b8]; rfl, ⟨rfl, by omega, fun i hi => absurd hi (by omega)⟩, fun i hi => absurd hi (by omega)⟩
theorem pr_back {M : gM} (h : ST M) (a : Int32) : PR 0 0 mX10_back mX11_back [.int a] M := by
  obtain ⟨n, X, O, Q, G, S, L, g, h, rfl⟩ := h
  obtain ⟨c, hc6, h16⟩ := h.cnt
  refine ⟨3, by decide, (c_X10_back h.1.M a).weaken ?_⟩
  intro v M' hv
  have hiff : ∀ k, k < 4 → (X (33 + 4 * k) 0 3 = 0 ↔ S 23 k = 0) := fun k hk => by
    rcases h.img hc6 h16 k hk with ⟨q1, q2⟩ | ⟨q1, q2, _⟩
    · rw [q1, q2]
    · rw [q1, q2]
  by_cases ha : q_in a 0 3 = 0 ∨ X (33 + 4 * a.toNatClampNeg) 0 3 = 0
  · rw [if_pos ha] at hv
    obtain ⟨rfl, rfl⟩ := hv
    have ha' : q_in a 0 3 = 0 ∨ S 23 a.toNatClampNeg = 0 := by
      by_cases hq : q_in a 0 3 = 0
      · exact Or.inl hq
      · obtain ⟨k, _, k3, rfl⟩ := q_in_of (a := 0) (b := 3) ⟨by omega, by omega⟩ hq
        rw [nI_clamp (by omega)] at ha ⊢
        exact Or.inr ((hiff k (by omega)).mp (ha.resolve_left hq))
    refine ⟨-1, 1, by decide, rfl, ⟨_, _, _, _, _, _, _, h.1.M, rfl⟩, ?_⟩
    have := c_X11_back (M := xm n X O Q G (kput S (j_s (X 2) 7 g)) L) (S := S) (J := j_s (X 2) 7 g) (L := L) (Jk := X 2) (r := S 10) h.1.M a (fun k0 e hk hs => by
      subst e
      rcases ha' with q | q
      · exfalso
        unfold q_in at q
        rw [if_neg (show ¬ nI k0 < 0 from Int32.not_lt.mpr (nI_le (a := 0) (b := k0) (by omega) (by omega))), if_neg (show ¬ 3 < nI k0 from Int32.not_lt.mpr (nI_le (a := k0) (b := 3) (by omega) (by omega)))] at q
        exact absurd q (by decide)
      · rw [nI_clamp (by omega)] at q
        exact absurd q hs)
    unfold q_backM at this
    rw [if_pos ha', if_pos ha', kp_xm] at this
    refine this.weaken ?_
    rintro v2 M2 ⟨rfl, rfl⟩
    exact ⟨rfl, n, X, O, Q, G, S, L, g, h, rfl⟩
  · rw [if_neg ha] at hv
    obtain ⟨rfl, T', hx, rfl⟩ := hv
    obtain ⟨k, _, k3, rfl⟩ := q_in_of (a := 0) (b := 3) ⟨by omega, by omega⟩ (fun q => ha (Or.inl q))
    refine ⟨_, 1, by decide, rfl, ⟨_, _, _, _, _, _, _, h.1.M, rfl⟩, ?_⟩
    rw [nI_clamp (by omega)] at ha hx ⊢
    have hne : ¬ X (33 + 4 * k) 0 3 = 0 := fun q => ha (Or.inr q)
    have hne' : ¬ (q_in (nI k) 0 3 = 0 ∨ S 23 k = 0) := fun q => by
      rcases q with q | q
      · exact ha (Or.inl q)
      · exact hne ((hiff k (by omega)).mpr q)
    rcases h.img hc6 h16 k (by omega) with ⟨q1, _⟩ | ⟨q1, q2, ⟨r, q3, q4⟩, q5, q6, q7⟩
    · exact absurd q1 hne
    · have := c_X11_back (M := xm n (xbk X k T') O Q G (kput S (j_s (X 2) 7 g)) L) (S := S) (J := j_s (X 2) 7 g) (L := L) (Jk := X (34 + 4 * k)) (r := r) h.1.M (nI k) (fun k0 e hk hs => by
        have : k = k0 := nI_inj (by omega) (by omega) e
        subst this
        exact ⟨q3, q4.2.1.trans h.h5.symm⟩)
      unfold q_backM at this
      rw [nI_clamp (by omega), if_neg hne', if_neg hne', kp_xm, kp_xm] at this
      refine this.weaken ?_
      rintro v2 M2 ⟨rfl, rfl⟩
      refine ⟨rfl, n, xbk X k T', O, Q, G, k_s (kbk S k) 10 (kbr r (S 10)), L, g, h.back (by omega) hx q4 (fun c' a1 a2 => ?_) q6 q7, rfl⟩
      have : c' = c := nI_inj (by omega) (by omega) (a2.symm.trans h16)
      rw [this]
      exact q5
