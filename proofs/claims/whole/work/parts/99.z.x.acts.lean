/-! ===== pairs: acts ===== -/
theorem LI.hist {n : Nat} {X : gX} {O : gO} {Q : gU} {S : gS} (h : LI n X O Q S) : HI S X := by
  obtain ⟨a, b, _, c, d, e, f, g, i, j, k⟩ := h
  exact k
theorem LI.told {n : Nat} {X : gX} {O : gO} {Q : gU} {S : gS} (h : LI n X O Q S) (ht : ¬ j_isTold (X 2) = 0) : jfit (X 2) ∧ jT (X 2) ≤ 999 := by
  rcases h.xk with z | ⟨z, _⟩
  · exact z
  · exact absurd (by unfold j_isTold; rw [z]; rfl) ht
theorem told_of {J : gJn} (h : jfit J) : ¬ j_isTold J = 0 := by
  obtain ⟨_, _, _, h4, h5, h6, _⟩ := h.1
  unfold j_isTold
  rw [if_neg (by rw [h4]; exact fun q => absurd ((nI_le0 (by omega)).mp q) (by omega))]
  decide
theorem LI.pa {n : Nat} {X : gX} {O : gO} {Q : gU} {G : gK} {S : gS} {L : gLg} {g : Nat → Int32} (h : LI n X O Q S) {d d' : Nat} (hd : d ≤ 31) (hd' : d' ≤ 31) {mc mr : gMi} {av : List Value} {w : Int32} {J' : gJn} {c : Prop} [Decidable c] (hc : ∀ nx u : Nat, X 8 0 1 = nI nx → nx < 20 → X 8 0 2 = nI u → u ≤ 20 → SX d 0 0 mc (.ref 16 :: av) (xm n X O Q G (kput S (j_s (X 2) 7 g)) L) (fun v M' => if c then (v = some (.int (-1)) ∧ M' = xm n X O Q G (kput S (j_s (X 2) 7 g)) L) else (v = some (.int w) ∧ xAct n X O Q (kput S (j_s (X 2) 7 g)) L nx u (X 2) J' M'))) (hr : ∀ (M : gM) (u : Nat) (H : Nat → gJn), 408 ≤ M.1 → kha S u H → SX d' 0 0 mr (.ref 384 :: av) (kp M (kput S (j_s (X 2) 7 g)) L) (fun v M' => if c then (v = some (.int (-1)) ∧ M' = kp M (kput S (j_s (X 2) 7 g)) L) else (v = some (.int w) ∧ kAct M S u H (X 2) J' M'))) (hJ : ¬ c → jst J' (X 2) ∧ jfit J' ∧ jT J' ≤ 999 ∧ ¬ j_isTold (X 2) = 0) : PR 0 0 mc mr av (xm n X O Q G (kput S (j_s (X 2) 7 g)) L) := by
  obtain ⟨nx, u, a1, a2, a3, a4, a5, a6⟩ := h.hist
  refine ⟨d, hd, (hc nx u a3 a1 a4 a2).weaken ?_⟩
  intro v M' hv
  by_cases hcc : c
  · rw [if_pos hcc] at hv
    obtain ⟨rfl, rfl⟩ := hv
    refine ⟨-1, d', hd', rfl, ⟨_, _, _, _, _, _, _, h.1.M, rfl⟩, ?_⟩
    have := hr (xm n X O Q G (kput S (j_s (X 2) 7 g)) L) u _ h.1.M a5
    rw [kp_xm] at this
    refine this.weaken ?_
    intro v2 M2 hv2
    rw [if_pos hcc] at hv2
    obtain ⟨rfl, rfl⟩ := hv2
    exact ⟨rfl, n, X, O, Q, G, S, L, g, h, rfl⟩
  · rw [if_neg hcc] at hv
    obtain ⟨rfl, G1, rfl⟩ := hv
    refine ⟨w, d', hd', rfl, ⟨_, _, _, _, _, _, _, h.1.M, rfl⟩, ?_⟩
    have := hr (xm n (x_r (xkp X nx u (X 2)) 2 J') O Q G1 (kput S (j_s (X 2) 7 g)) L) u _ h.1.M a5
    rw [kp_xm] at this
    refine this.weaken ?_
    intro v2 M2 hv2
    rw [if_neg hcc] at hv2
    obtain ⟨rfl, S2, L2, g2, rfl, hk, hh⟩ := hv2
    obtain ⟨b1, b2, b3, b4⟩ := hJ hcc
    refine ⟨rfl, n, x_r (xkp X nx u (X 2)) 2 J', O, Q, G1, S2, L2, g2, h.act a1 a2 a3 a4 b1 b2 b3 b4 hk hh, ?_⟩
    rw [kp_xm, x_r_eq]
theorem pr_beat {M : gM} (h : ST M) : PR 0 0 mX10_beat mX11_beat [] M := by
  obtain ⟨n, X, O, Q, G, S, L, g, h, rfl⟩ := h
  refine h.pa (by decide) (by decide) (fun nx u a b c d => c_X10_beat h.1 rfl h.xk rfl a b c d) (fun M u H hM hh => c_X11_beat hM h.kok hh) (fun hc => ?_)
  obtain ⟨t1, t2⟩ := h.told (fun q => hc (Or.inl q))
  have e : X 2 9 3 = nI (jT (X 2)) := t1.1.2.2.2.2.2.2.1
  have t3 : jT (X 2) ≠ 999 := fun q => hc (Or.inr (by rw [e, q]; rfl))
  exact ⟨jst.one _ _, t1.one _ (by omega), by rw [jone_T _ t1.1]; omega, fun q => hc (Or.inl q)⟩
theorem pr_come {M : gM} (h : ST M) (a b : Int32) : PR 0 0 mX10_come mX11_come [.int a, .int b] M := by
  obtain ⟨n, X, O, Q, G, S, L, g, h, rfl⟩ := h
  refine h.pa (by decide) (by decide) (fun nx u h1 h2 h3 h4 => c_X10_come h.1 rfl h.xk rfl h1 h2 h3 h4 a b) (fun M u H hM hh => c_X11_come hM h.kok hh a b) (fun hc => ?_)
  obtain ⟨t1, t2, r, hr, rfl⟩ := h.xk.road (fun q => hc (Or.inl q))
  obtain ⟨m, m1, m2, rfl⟩ := q_in_of (a := 1) (b := 20) ⟨by omega, by omega⟩ (fun q => hc (Or.inr q))
  have hr6 : jR (X 2) ≤ 6 := t1.1.2.1
  rw [nI_clamp (by omega)]
  exact ⟨⟨rfl, rfl, fun _ _ _ => rfl⟩, t1.addw (by omega) (by omega), t2, told_of t1⟩
theorem pr_wave {M : gM} (h : ST M) (a : Int32) : PR 0 0 mX10_wave mX11_wave [.int a] M := by
  obtain ⟨n, X, O, Q, G, S, L, g, h, rfl⟩ := h
  refine h.pa (by decide) (by decide) (fun nx u h1 h2 h3 h4 => c_X10_wave h.1 rfl h.xk rfl h1 h2 h3 h4 a) (fun M u H hM hh => c_X11_wave hM h.kok hh a) (fun hc => ?_)
  obtain ⟨t1, t2, r, hr, rfl⟩ := h.xk.road (fun q => hc (Or.inl q))
  have hr6 : jR (X 2) ≤ 6 := t1.1.2.1
  rw [nI_clamp (by omega)]
  exact ⟨⟨rfl, rfl, fun _ _ _ => rfl⟩, ⟨t1.1, t1.2.leave (by omega)⟩, t2, told_of t1⟩
theorem pr_score {M : gM} (h : ST M) (a b : Int32) : PR 0 0 mX10_score mX11_score [.int a, .int b] M := by
  obtain ⟨n, X, O, Q, G, S, L, g, h, rfl⟩ := h
  refine h.pa (by decide) (by decide) (fun nx u h1 h2 h3 h4 => c_X10_score h.1 rfl h.xk rfl h1 h2 h3 h4 a b) (fun M u H hM hh => c_X11_score hM h.kok hh a b) (fun hc => ?_)
  obtain ⟨t1, t2, r, hr, rfl⟩ := h.xk.road (fun q => hc (Or.inr q))
  exact ⟨⟨rfl, rfl, fun _ _ _ => rfl⟩, t1.s8 _, t2, told_of t1⟩
theorem jfit.tune {J : gJn} (h : jfit J) {k p : Nat} (hp : p < 12) : jfit (j_s J 2 (upd (J 2) k (nI p))) := by
  refine ⟨⟨h.1.1, h.1.2.1, fun i hi => ?_, h.1.2.2.2⟩, h.2⟩
  show upd (J 2) k (nI p) i = nI (upd (J 2) k (nI p) i).toNatClampNeg ∧ (upd (J 2) k (nI p) i).toNatClampNeg < 12
  by_cases hk : i = k
  · subst hk
    rw [upd_eq, nI_clamp (by omega)]
    exact ⟨rfl, hp⟩
  · rw [upd_ne hk]
    exact h.1.2.2.1 i hi
theorem pr_tune {M : gM} (h : ST M) (a b : Int32) : PR 0 0 mX10_tune mX11_tune [.int a, .int b] M := by
  obtain ⟨n, X, O, Q, G, S, L, g, h, rfl⟩ := h
  refine h.pa (by decide) (by decide) (fun nx u h1 h2 h3 h4 => c_X10_tune h.1 rfl h.xk rfl h1 h2 h3 h4 a b) (fun M u H hM hh => c_X11_tune hM h.kok hh a b) (fun hc => ?_)
  obtain ⟨t1, t2, r, hr, rfl⟩ := h.xk.road (fun q => hc (Or.inl q))
  obtain ⟨m, m1, m2, rfl⟩ := q_in_of (a := 0) (b := 11) ⟨by omega, by omega⟩ (fun q => hc (Or.inr (Or.inl q)))
  exact ⟨⟨rfl, rfl, fun _ _ _ => rfl⟩, t1.tune (by omega), t2, told_of t1⟩
