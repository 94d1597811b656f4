/-! ===== pairs: the class's answer is the reference's, and the invariant holds behind both: questions ===== -/
def isM (M : gM) : Prop := ∃ (n : Nat) (X : gX) (O : gO) (Q : gU) (G : gK) (S : gS) (L : gLg), 408 ≤ n ∧ M = xm n X O Q G S L
def ST (M : gM) : Prop := ∃ (n : Nat) (X : gX) (O : gO) (Q : gU) (G : gK) (S : gS) (L : gLg) (g : Nat → Int32), LI n X O Q S ∧ M = xm n X O Q G (kput S (j_s (X 2) 7 g)) L
theorem ST.isM {M : gM} (h : ST M) : isM M := by
  obtain ⟨n, X, O, Q, G, S, L, g, h, rfl⟩ := h
  exact ⟨n, X, O, Q, G, _, L, h.1.M, rfl⟩
def PR (a b : Nat) (mc mr : gMi) (av : List Value) (M : gM) : Prop := ∃ d, d ≤ 31 ∧ SX d a b mc (.ref 16 :: av) M (fun v M' => ∃ (w : Int32) (d' : Nat), d' ≤ 31 ∧ v = some (.int w) ∧ isM M' ∧ SX d' 0 0 mr (.ref 384 :: av) M' (fun v' M'' => v' = some (.int w) ∧ ST M''))
theorem LI.pq {n : Nat} {X : gX} {O : gO} {Q : gU} {G : gK} {S : gS} {L : gLg} {g : Nat → Int32} (h : LI n X O Q S) {d d' : Nat} (hd : d ≤ 31) (hd' : d' ≤ 31) {mc mr : gMi} {av : List Value} {w : Int32} (hc : SX d 0 0 mc (.ref 16 :: av) (xm n X O Q G (kput S (j_s (X 2) 7 g)) L) (fun v M' => v = some (.int w) ∧ xD n X O Q (kput S (j_s (X 2) 7 g)) L M')) (hr : ∀ M : gM, 408 ≤ M.1 → SX d' 0 0 mr (.ref 384 :: av) (kp M (kput S (j_s (X 2) 7 g)) L) (fun v M' => v = some (.int w) ∧ kD M S (X 2) M')) : PR 0 0 mc mr av (xm n X O Q G (kput S (j_s (X 2) 7 g)) L) := by
  refine ⟨d, hd, hc.weaken ?_⟩
  rintro v M' ⟨rfl, X1, G1, rfl, hx⟩
  refine ⟨w, d', hd', rfl, ⟨_, _, _, _, _, _, _, h.1.M, rfl⟩, ?_⟩
  have := hr (xm n X1 O Q G1 (kput S (j_s (X 2) 7 g)) L) h.1.M
  rw [kp_xm] at this
  refine this.weaken ?_
  rintro v2 M2 ⟨rfl, S2, L2, g2, rfl, hk⟩
  refine ⟨rfl, n, X1, O, Q, G1, S2, L2, g2, h.q hx hk, ?_⟩
  rw [kp_xm, hx.J rfl]
theorem pr_ahead {M : gM} (h : ST M) (a b c : Int32) : PR 0 0 mX10_ahead mX11_ahead [.int a, .int b, .int c] M := by
  obtain ⟨n, X, O, Q, G, S, L, g, h, rfl⟩ := h
  exact h.pq (by decide) (by decide) (c_X10_ahead h.1 rfl h.xk rfl a b c) (fun M hM => c_X11_ahead hM h.kok a b c)
theorem pr_clear {M : gM} (h : ST M) (a : Int32) : PR 0 0 mX10_clear mX11_clear [.int a] M := by
  obtain ⟨n, X, O, Q, G, S, L, g, h, rfl⟩ := h
  exact h.pq (by decide) (by decide) (c_X10_clear h.1 rfl h.xk rfl a) (fun M hM => c_X11_clear hM h.kok a)
theorem pr_cadenza {M : gM} (h : ST M) (a : Int32) : PR 0 0 mX10_cadenza mX11_cadenza [.int a] M := by
  obtain ⟨n, X, O, Q, G, S, L, g, h, rfl⟩ := h
  exact h.pq (by decide) (by decide) (c_X10_cadenza h.1 rfl h.xk rfl a) (fun M hM => c_X11_cadenza hM h.kok a)
theorem pr_leastRoom {M : gM} (h : ST M) (a : Int32) : PR 0 0 mX10_leastRoom mX11_leastRoom [.int a] M := by
  obtain ⟨n, X, O, Q, G, S, L, g, h, rfl⟩ := h
  exact h.pq (by decide) (by decide) (c_X10_leastRoom h.1 rfl h.xk rfl a) (fun M hM => c_X11_leastRoom hM h.kok a)
theorem pr_longest {M : gM} (h : ST M) (a b : Int32) : PR 0 0 mX10_longest mX11_longest [.int a, .int b] M := by
  obtain ⟨n, X, O, Q, G, S, L, g, h, rfl⟩ := h
  exact h.pq (by decide) (by decide) (c_X10_longest h.1 rfl h.xk rfl a b) (fun M hM => c_X11_longest hM h.kok a b)
theorem pr_bestScore {M : gM} (h : ST M) (a b : Int32) : PR 0 0 mX10_bestScore mX11_bestScore [.int a, .int b] M := by
  obtain ⟨n, X, O, Q, G, S, L, g, h, rfl⟩ := h
  exact h.pq (by decide) (by decide) (c_X10_bestScore h.1 rfl h.xk rfl a b) (fun M hM => c_X11_bestScore hM h.kok a b)
theorem pr_chord {M : gM} (h : ST M) (a : Int32) : PR 0 0 mX10_chord mX11_chord [.int a] M := by
  obtain ⟨n, X, O, Q, G, S, L, g, h, rfl⟩ := h
  exact h.pq (by decide) (by decide) (c_X10_chord h.1 rfl h.xk rfl a) (fun M hM => c_X11_chord hM h.kok a)
theorem pr_pence {M : gM} (h : ST M) (a b : Int32) : PR 0 0 mX10_pence mX11_pence [.int a, .int b] M := by
  obtain ⟨n, X, O, Q, G, S, L, g, h, rfl⟩ := h
  exact h.pq (by decide) (by decide) (c_X10_pence h.1 rfl h.xk rfl a b) (fun M hM => c_X11_pence hM h.kok a b)
theorem pr_ring {M : gM} (h : ST M) (a : Int32) : PR 0 0 mX10_ring mX11_ring [.int a] M := by
  obtain ⟨n, X, O, Q, G, S, L, g, h, rfl⟩ := h
  exact h.pq (by decide) (by decide) (c_X10_ring h.1 rfl h.xk rfl a) (fun M hM => c_X11_ring hM h.kok a)
theorem pr_rests {M : gM} (h : ST M) (a b c d : Int32) : PR 0 0 mX10_rests mX11_rests [.int a, .int b, .int c, .int d] M := by
  obtain ⟨n, X, O, Q, G, S, L, g, h, rfl⟩ := h
  exact h.pq (by decide) (by decide) (c_X10_rests h.1 rfl h.xk rfl a b c d) (fun M hM => c_X11_rests hM h.kok a b c d)
theorem pr_beats {M : gM} (h : ST M) (a : Int32) : PR 0 0 mX10_beats mX11_beats [.int a] M := by
  obtain ⟨n, X, O, Q, G, S, L, g, h, rfl⟩ := h
  exact h.pq (by decide) (by decide) (c_X10_beats h.1 rfl h.xk rfl a) (fun M hM => c_X11_beats hM h.kok a)
theorem pr_road {M : gM} (h : ST M) (a b : Int32) : PR 0 0 mX10_road mX11_road [.int a, .int b] M := by
  obtain ⟨n, X, O, Q, G, S, L, g, h, rfl⟩ := h
  exact h.pq (by decide) (by decide) (c_X10_road h.1 rfl h.xk rfl a b) (fun M hM => c_X11_road hM h.kok a b)
theorem pr_scored {M : gM} (h : ST M) (a : Int32) : PR 0 0 mX10_scored mX11_scored [.int a] M := by
  obtain ⟨n, X, O, Q, G, S, L, g, h, rfl⟩ := h
  exact h.pq (by decide) (by decide) (c_X10_scored h.1 rfl h.xk rfl a) (fun M hM => c_X11_scored hM h.kok a)
theorem LI.h5 {n : Nat} {X : gX} {O : gO} {Q : gU} {S : gS} (h : LI n X O Q S) : X 2 9 5 = -1 := by
  obtain ⟨a, b, _, c, d, e, f, g, i, j, k⟩ := h
  exact j.2.1
theorem pr_shut {M : gM} (h : ST M) (a b : Int32) : PR 0 0 mX10_shut mX11_shut [.int a, .int b] M := by
  obtain ⟨n, X, O, Q, G, S, L, g, h, rfl⟩ := h
  exact h.pq (by decide) (by decide) (c_X10_shut h.1 rfl h.xk rfl h.h5 a b) (fun M hM => c_X11_shut hM h.kok h.h5 a b)
theorem pr_row {M : gM} (h : ST M) (a b : Int32) : PR 0 0 mX10_row mX11_row [.int a, .int b] M := by
  obtain ⟨n, X, O, Q, G, S, L, g, h, rfl⟩ := h
  have h24 : S 0 24 = -1 := h.2.2.1.2.2.2
  exact h.pq (by decide) (by decide) (c_X10_row h.1 rfl h.xk rfl h.h5 a b) (fun M hM => c_X11_row hM h.kok h24 a b)
theorem pr_heard {M : gM} (h : ST M) : PR 0 0 mX10_heard mX11_heard [] M := by
  obtain ⟨n, X, O, Q, G, S, L, g, h, rfl⟩ := h
  refine h.pq (d' := 0) (by decide) (by decide) (c_X10_heard h.1 rfl h.xk rfl) (fun M hM => (c_X11_heard hM).weaken ?_)
  rintro v M' ⟨rfl, rfl⟩
  exact ⟨rfl, S, L, g, rfl, kq.refl S⟩
theorem pr_mornings {M : gM} (h : ST M) (a b c d : Int32) : PR 0 0 mX10_mornings mX11_mornings [.int a, .int b, .int c, .int d] M := by
  obtain ⟨n, X, O, Q, G, S, L, g, h, rfl⟩ := h
  have hk := h.kok
  have hx := h.xk
  obtain ⟨h1, h2, ⟨c1, c2, c3, c4⟩, c0, d0, e0, ⟨f1, x0, f2, f3⟩, hh⟩ := id h
  exact h.pq (by decide) (by decide) (c_X10_mornings h1 rfl hx rfl f3 f2 a b c d) (fun M hM => c_X11_mornings hM hk (c3.trans f3) f2 a b c d)
theorem pr_count {M : gM} (h : ST M) (a : Int32) : PR 0 0 mX10_count mX11_count [.int a] M := by
  obtain ⟨n, X, O, Q, G, S, L, g, h, rfl⟩ := h
  have hk := h.kok
  have hx := h.xk
  obtain ⟨h1, ⟨p, _, t1, t2, _⟩, ⟨c1, c2, c3, c4⟩, c0, d0, e0, f0, g0, i0, ⟨_, _, cn, _, j1, ⟨j2, _⟩, _⟩, nx, u, _, _, _, k1, ⟨k2, _⟩, _⟩ := id h
  refine h.pq (d' := 2) (by decide) (by decide) (c_X10_count h1 rfl hx rfl a) (fun M hM => ?_)
  have := c_X11_count (L := L) (g := g) hM hk a
  rw [c1, c2, c3, t2.trans t1.symm, j2.trans j1.symm, k2.trans k1.symm] at this
  exact this
theorem kth_any (S : gS) (J : gJn) : ∃ K, kth S J K := by
  refine ⟨fun f => if f = 0 then fun i => S 10 (60 + i) else if f = 2 then fun i => S 10 (66 + i) else if f = 4 then fun _ => 0 else if f = 5 then fun _ => 0 else if f = 6 then fun _ => -1 else if f = 8 then fun i => S 10 (78 + i) else if f = 9 then fun i => if i = 3 then 0 else if i = 4 then 0 else J 9 i else J f, fun i _ => ⟨rfl, rfl, rfl, rfl, rfl⟩, fun i _ => rfl, rfl, rfl, rfl, rfl, fun i a b => ?_⟩
  show (if i = 3 then (0 : Int32) else if i = 4 then 0 else J 9 i) = J 9 i
  rw [if_neg a, if_neg b]
theorem xtf_p {X : gX} {Q : gU} {S : gS} {c : Nat} (hc6 : c ≤ 6) (h16 : X 0 0 16 = nI c) (hR : RI S Q c) (k : Nat) (hk : k ≤ c) : kT (k_f S 21 (nI k - 1)) (xtf X Q (nI k - 1)) := by
  refine LI.kT_of (S := k_f S 21 (nI k - 1)) hc6 h16 (hR.eq rfl rfl rfl) ?_ rfl
  by_cases h0 : k = 0
  · subst h0
    exact Or.inl (by decide)
  · exact Or.inr ⟨k - 1, by omega, nI_p1 (by omega)⟩
theorem LI.look {n : Nat} {X : gX} {O : gO} {Q : gU} {S : gS} (h : LI n X O Q S) : ∃ c cn K, c ≤ 6 ∧ X 0 0 16 = nI c ∧ S 0 2 = nI c ∧ (∀ k, k ≤ c → kT (k_f S 21 (nI k - 1)) (xtf X Q (nI k - 1))) ∧ cn ≤ 10 ∧ X 29 0 3 = nI cn ∧ kn (S 10) cn (X 29 1) (X 29 2) (X 29 3) ∧ knr (jR (X 2)) cn (X 29 2) ∧ knr 6 cn (X 29 2) ∧ kth S (X 2) K ∧ (jok (X 2) → jfit K ∧ jT K = 0) ∧ (jok (X 2) → jfit (X 3) ∧ jT (X 3) = 0) ∧ (¬ j_isTold (X 2) = 0 → K = X 3) := by
  obtain ⟨h1, _, ⟨c1, c2, c3, c4⟩, c, d, e, f, g, i, ⟨j, j5, cn, n1, n2, n3, n4⟩, k⟩ := h
  have hR6 : jR (X 2) ≤ 6 := by
    rcases j with ⟨_, z, _⟩ | ⟨_, _, z⟩
    · exact z.1.2.1
    · show (X 2 9 2).toNatClampNeg ≤ 6
      rw [z]
      decide
  have n5 : knr 6 cn (X 29 2) := fun i hi => by
    obtain ⟨r, a, b⟩ := n4 i hi
    exact ⟨r, by omega, b⟩
  rcases j with ⟨_, _, _, z1, z2, z3⟩ | ⟨_, z, _⟩
  · exact ⟨c, cn, X 3, e, d, c1.trans d, xtf_p e d g, n1, n2, n3, n4, n5, z1, fun _ => ⟨z2, z3⟩, fun _ => ⟨z2, z3⟩, fun _ => rfl⟩
  · obtain ⟨K, hK⟩ := kth_any S (X 2)
    have hno : ¬ jok (X 2) := fun y => by
      have := y.2.2.2.2.1
      unfold jB at this
      rw [z] at this
      exact absurd this (by decide)
    exact ⟨c, cn, K, e, d, c1.trans d, xtf_p e d g, n1, n2, n3, n4, n5, hK, fun y => absurd y hno, fun y => absurd y hno, fun y => absurd (by unfold j_isTold; rw [z]; rfl) y⟩
theorem pr_ruled {M : gM} (h : ST M) (a : Int32) : PR 0 0 mX10_ruled mX11_ruled [.int a] M := by
  obtain ⟨n, X, O, Q, G, S, L, g, h, rfl⟩ := h
  obtain ⟨c, cn, K, e1, e2, e3, e4, e5, e6, e7, e8, e9, k1, k2, k3, k4⟩ := h.look
  refine h.pq (d' := 9) (by decide) (by decide) (c_X10_ruled h.1 rfl h.xk rfl rfl k3 rfl e6 e5 e9 e2 e1 a) (fun M hM => ?_)
  have := c_X11_ruled (L := L) (g := g) hM h.kok e3 e1 e4 k1 k2 e7 e8 a
  by_cases ht : j_isTold (X 2) = 0
  · have e : ∀ f : Nat → Int32, q_ruled (X 2) f c a = -3 := fun f => if_pos (Or.inl ht)
    rw [e] at this ⊢
    exact this
  · rw [k4 ht] at this
    exact this
theorem pr_look {M : gM} (h : ST M) (a b : Int32) : PR 0 0 mX10_look mX11_look [.int a, .int b] M := by
  obtain ⟨n, X, O, Q, G, S, L, g, h, rfl⟩ := h
  obtain ⟨c, cn, K, e1, e2, e3, e4, e5, e6, e7, e8, e9, k1, k2, k3, k4⟩ := h.look
  refine h.pq (d' := 9) (by decide) (by decide) (c_X10_look h.1 rfl h.xk rfl rfl k3 rfl e6 e5 e9 e2 e1 a b) (fun M hM => ?_)
  have := c_X11_look (L := L) (g := g) hM h.kok e3 e1 e4 k1 k2 e7 e8 a b
  by_cases ht : j_isTold (X 2) = 0
  · have e : ∀ f : Nat → Nat → Int32, q_look (X 2) f a b = -1 := fun f => if_pos (Or.inl ht)
    rw [e] at this ⊢
    exact this
  · rw [k4 ht] at this
    exact this
