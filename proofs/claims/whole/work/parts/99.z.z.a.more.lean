/-! ===== pairs: end, feed, undo, note ===== -/
theorem pr_end {M : gM} (h : ST M) (a : Int32) : PR 0 0 mX10_end mX11_end [.int a] M := by
  obtain ⟨n, X, O, Q, G, S, L, g, h, rfl⟩ := h
  obtain ⟨p, p4, t1, t2, t3, t4⟩ := h.tape
  have hc := c_X10_end (X := X) (O := O) (Q := Q) (G := G) (S := kput S (j_s (X 2) 7 g)) (L := L) h.1.M a
  by_cases ha : a < 0 ∨ ¬ a ≤ X 1 0 1
  · rw [if_pos ha] at hc
    refine h.pm (S1 := S) (g1 := g) (d' := 0) (by decide) (by decide) hc (fun M hM => ?_) h
    have hr := c_X11_end (S := S) (J := j_s (X 2) 7 g) (L := L) hM a
    unfold q_endS at hr
    rw [t2, ← t1, if_pos ha] at hr
    exact hr
  · rw [if_neg ha] at hc
    refine h.pm (S1 := k_f S 1 a) (g1 := g) (d' := 0) (by decide) (by decide) hc (fun M hM => ?_) ?_
    · have hr := c_X11_end (S := S) (J := j_s (X 2) 7 g) (L := L) hM a
      unfold q_endS at hr
      rw [t2, ← t1, if_neg ha] at hr
      exact hr
    · obtain ⟨x, hx, rfl⟩ := nn_of (Int32.not_lt.mp fun q => ha (Or.inl q))
      have hxp : x ≤ p := Nat.le_of_not_lt fun q => ha (Or.inr (by rw [t1]; exact nI_ge (a := p) (b := x) q (by omega)))
      exact h.of rfl rfl rfl h.2.2.1.2.1 h.2.2.1.2.2.1 ⟨x, by omega, rfl, rfl, t3, t4⟩ rfl rfl rfl (fun c a1 a2 => h.fc a1 a2) (fun c a1 a2 => (h.img a1 a2).eq (fun r b1 _ => x_r_ne _ _ (by omega)) rfl rfl rfl rfl) h.junc (h.hist.eq rfl (fun r b1 _ => x_r_ne _ _ (by omega)) rfl rfl rfl)
theorem tb8_by (v : Int32) (j : Nat) : tb8 (qby v j) := by
  unfold tb8 qby
  rw [Int8.toInt8_toInt32]
theorem tb8_upd {f : Nat → Int32} (h : ∀ i, tb8 (f i)) (k : Nat) {v : Int32} (hv : tb8 v) : ∀ i, tb8 (upd f k v i) := fun i => by
  by_cases hk : i = k
  · subst hk
    rw [upd_eq]
    exact hv
  · rw [upd_ne hk]
    exact h i
theorem tb8_4 {f : Nat → Int32} (h : ∀ i, tb8 (f i)) (p : Nat) (v : Int32) : ∀ i, tb8 (qf4 f p v i) := tb8_upd (tb8_upd (tb8_upd (tb8_upd h _ (tb8_by v 0)) _ (tb8_by v 1)) _ (tb8_by v 2)) _ (tb8_by v 3)
theorem pr_feed {M : gM} (h : ST M) (a b c d e : Int32) : PR 0 0 mX10_feed mX11_feed [.int a, .int b, .int c, .int d, .int e] M := by
  obtain ⟨n, X, O, Q, G, S, L, g, h, rfl⟩ := h
  obtain ⟨p, p4, t1, t2, t3, t4⟩ := h.tape
  have hc := c_X10_feed (X := X) (O := O) (Q := Q) (G := G) (S := kput S (j_s (X 2) 7 g)) (L := L) h.1.M t1 p4 a b c d e
  by_cases ha : p + 20 ≤ 400
  · rw [if_pos ha] at hc
    refine h.pm (S1 := k_f (k_s S 1 (qf20 (S 1) p a b c d e)) 1 (nI (p + 20))) (g1 := g) (d' := 1) (by decide) (by decide) hc (fun M hM => ?_) ?_
    · have hr := c_X11_feed (S := S) (J := j_s (X 2) 7 g) (L := L) hM t2 p4 a b c d e
      unfold q_feedS at hr
      rw [if_pos ha] at hr
      exact hr
    · exact h.of rfl rfl rfl h.2.2.1.2.1 h.2.2.1.2.2.1 ⟨p + 20, ha, rfl, rfl, by rw [t3]; rfl, tb8_4 (tb8_4 (tb8_4 (tb8_4 (tb8_4 t4 _ _) _ _) _ _) _ _) _ _⟩ rfl rfl rfl (fun c a1 a2 => h.fc a1 a2) (fun c a1 a2 => (h.img a1 a2).eq (fun r b1 _ => x_r_ne _ _ (by omega)) rfl rfl rfl rfl) h.junc (h.hist.eq rfl (fun r b1 _ => x_r_ne _ _ (by omega)) rfl rfl rfl)
  · rw [if_neg ha] at hc
    refine h.pm (S1 := S) (g1 := g) (d' := 1) (by decide) (by decide) hc (fun M hM => ?_) h
    have hr := c_X11_feed (S := S) (J := j_s (X 2) 7 g) (L := L) hM t2 p4 a b c d e
    unfold q_feedS at hr
    rw [if_neg ha] at hr
    exact hr
theorem hx9_pop {nx u i : Nat} (hnx : nx < 20) (hu : u ≤ 20) (hu0 : ¬ u = 0) : hx9 ((nx + 19) % 20) (u - 1) i = hx9 nx u i := by
  unfold hx9
  omega
theorem hx9_last {nx u : Nat} (hnx : nx < 20) (hu : u ≤ 20) (hu0 : ¬ u = 0) : hx9 nx u (u - 1) = 9 + (nx + 19) % 20 := by
  unfold hx9
  omega
theorem pr_undo {M : gM} (h : ST M) : PR 0 0 mX10_undo mX11_undo [] M := by
  obtain ⟨n, X, O, Q, G, S, L, g, h, rfl⟩ := h
  obtain ⟨nx, u, a1, a2, a3, a4, a5, a6⟩ := h.hist
  have hc := c_X10_undo (X := X) (O := O) (Q := Q) (G := G) (S := kput S (j_s (X 2) 7 g)) (L := L) h.1.M a3 a1 a4 a2
  by_cases hu : u = 0
  · rw [if_pos hu] at hc
    refine h.pm (S1 := S) (g1 := g) (d' := 0) (by decide) (by decide) hc (fun M hM => ?_) h
    have hr := c_X11_undo (J := j_s (X 2) 7 g) (L := L) hM a5
    unfold q_undoM at hr
    rw [if_pos hu] at hr
    exact hr
  · rw [if_neg hu] at hc
    obtain ⟨b1, b2, b3⟩ := a6 (u - 1) (by omega)
    rw [hx9_last a1 a2 hu] at b1 b2 b3
    have x2 : x_r (x_r X 8 (xhs (X 8) ((nx + 19) % 20) (u - 1))) 2 (X (9 + (nx + 19) % 20)) 2 = X (9 + (nx + 19) % 20) := x_r_eq _ _ _
    have xo : ∀ r, r ≠ 2 → r ≠ 8 → x_r (x_r X 8 (xhs (X 8) ((nx + 19) % 20) (u - 1))) 2 (X (9 + (nx + 19) % 20)) r = X r := fun r q1 q2 => by
      rw [x_r_ne _ _ q1, x_r_ne _ _ q2]
    refine h.pm (S1 := k_f S 27 (nI (u - 1))) (g1 := g) (d' := 0) (by decide) (by decide) hc (fun M hM => ?_) ?_
    · have hr := c_X11_undo (J := j_s (X 2) 7 g) (L := L) hM a5
      unfold q_undoM at hr
      rw [if_neg hu] at hr
      rw [x2]
      have e : jback (j_s (X 2) 7 g) (X (hx9 nx u (u - 1))) = j_s (X (9 + (nx + 19) % 20)) 7 g := by
        rw [hx9_last a1 a2 hu]
        exact b1.symm.back g
      simp only [e] at hr
      exact hr
    · refine h.of rfl rfl rfl h.2.2.1.2.1 h.2.2.1.2.2.1 (h.tape.eq rfl rfl rfl) rfl rfl rfl (fun c a1 a2 => h.fc a1 a2) (fun c a1 a2 => (h.img a1 a2).eq (fun r b1 _ => xo r (by omega) (by omega)) rfl rfl rfl rfl) ?_ ?_
      · obtain ⟨j1, j2, cn, j3, j4, j5, j6⟩ := h.junc
        rw [x2, xo 3 (by decide) (by decide), xo 29 (by decide) (by decide)]
        refine ⟨Or.inl ?_, (b1.2.2 5 (by decide) (by decide)).trans j2, cn, j3, j4, j5, by rw [b1.R]; exact j6⟩
        rcases j1 with ⟨z1, z2, z3, ⟨y1, y2, y3, y4, y5⟩, z5, z6⟩ | ⟨_, z, _⟩
        · exact ⟨z1, b2, b3, ⟨y1, y2, y3, y4, jst.trans b1.symm y5⟩, z5, z6⟩
        · have := b2.1.2.2.2.2.1
          unfold jB at this
          rw [b1.2.2 0 (by decide) (by decide), z] at this
          exact absurd this (by decide)
      · have hX : ∀ i, x_r (x_r X 8 (xhs (X 8) ((nx + 19) % 20) (u - 1))) 2 (X (9 + (nx + 19) % 20)) (hx9 nx u i) = X (hx9 nx u i) := fun i => xo _ (by unfold hx9; omega) (by unfold hx9; omega)
        refine ⟨(nx + 19) % 20, u - 1, by omega, by omega, rfl, rfl, ⟨rfl, by omega, fun i hi k hk => ?_⟩, fun i hi => ?_⟩
        · show S 12 (44 * i + k) = krow (x_r (x_r X 8 (xhs (X 8) ((nx + 19) % 20) (u - 1))) 2 (X (9 + (nx + 19) % 20)) (hx9 ((nx + 19) % 20) (u - 1) i)) k
          rw [hx9_pop a1 a2 hu, hX]
          exact a5.2.2 i (by omega) k hk
        · rw [hx9_pop a1 a2 hu, hX, x2]
          obtain ⟨q1, q2⟩ := a6 i (by omega)
          exact ⟨jst.trans b1.symm q1, q2⟩
theorem JI.rr {r r1 : Nat → Int32} {J K : gJn} {T : Nat → Nat → Int32} (h : JI r J K T) (hr : ∀ q, q < 121 → r1 q = r q) : JI r1 J K T := by
  obtain ⟨j1, j2, cn, j3, j4, ⟨k1, k2, k3⟩, j6⟩ := h
  refine ⟨?_, j2, cn, j3, j4, ⟨(hr 120 (by omega)).trans k1, k2, fun i hi => ?_⟩, j6⟩
  · rcases j1 with ⟨z1, z2, z3, ⟨y1, y2, y⟩, z5⟩ | ⟨z1, z2⟩
    · refine Or.inl ⟨(hr 0 (by omega)).trans z1, z2, z3, ⟨fun i hi => ?_, fun i hi => (hr _ (by omega)).trans (y2 i hi), y⟩, z5⟩
      obtain ⟨q1, q2, q3⟩ := y1 i hi
      exact ⟨(hr _ (by omega)).trans q1, (hr _ (by omega)).trans q2, q3⟩
    · exact Or.inr ⟨(hr 0 (by omega)).trans z1, z2⟩
  · obtain ⟨q1, q2, q3⟩ := k3 i hi
    exact ⟨(hr _ (by omega)).trans q1, (hr _ (by omega)).trans q2, (hr _ (by omega)).trans q3⟩
theorem JI.tt {r : Nat → Int32} {J K : gJn} {T T' : Nat → Nat → Int32} (h : JI r J K T) (hx : xnq T T') : JI r J K T' := by
  obtain ⟨j1, j2, cn, j3, j4, ⟨k1, k2, k3⟩, j6⟩ := h
  refine ⟨j1, j2, cn, j3, hx.1.trans j4, ⟨k1, k2, fun i hi => ?_⟩, fun i hi => ?_⟩
  · obtain ⟨q1, q2, q3⟩ := k3 i hi
    obtain ⟨e1, e2, e3⟩ := hx.2 i (by omega)
    exact ⟨q1.trans e1.symm, q2.trans e2.symm, q3.trans e3.symm⟩
  · rw [(hx.2 i (by omega)).2.1]
    exact j6 i hi
theorem JI.nn {r r1 : Nat → Int32} {J K : gJn} {T T' : Nat → Nat → Int32} (h : JI r J K T) (hr : ∀ q, q < 90 → r1 q = r q) (hn : ∃ c, c ≤ 10 ∧ T' 0 3 = nI c ∧ kn r1 c (T' 1) (T' 2) (T' 3) ∧ knr (jR J) c (T' 2)) : JI r1 J K T' := by
  obtain ⟨j1, j2, _⟩ := h
  refine ⟨?_, j2, hn⟩
  rcases j1 with ⟨z1, z2, z3, ⟨y1, y2, y⟩, z5⟩ | ⟨z1, z2⟩
  · refine Or.inl ⟨(hr 0 (by omega)).trans z1, z2, z3, ⟨fun i hi => ?_, fun i hi => (hr _ (by omega)).trans (y2 i hi), y⟩, z5⟩
    obtain ⟨q1, q2, q3⟩ := y1 i hi
    exact ⟨(hr _ (by omega)).trans q1, (hr _ (by omega)).trans q2, q3⟩
  · exact Or.inr ⟨(hr 0 (by omega)).trans z1, z2⟩
theorem pr_note {M : gM} (h : ST M) (a b c : Int32) : PR 0 0 mX10_note mX11_note [.int a, .int b, .int c] M := by
  obtain ⟨n, X, O, Q, G, S, L, g, h, rfl⟩ := h
  have hxk := h.xk
  obtain ⟨_, _, cn, j3, j4, j5, j6⟩ := h.junc
  have hc := c_X10_note (X := X) (O := O) (Q := Q) (G := G) (S := kput S (j_s (X 2) 7 g)) (L := L) h.1.M rfl j4 j3 a b c
  have hr := fun (M : gM) (hM : 408 ≤ M.1) => c_X11_note (S := S) (J := j_s (X 2) 7 g) (L := L) hM j5 a b c
  have hqn : q_note (j_s (X 2) 7 g) cn a b c = q_note (X 2) cn a b c := rfl
  have hL : ∀ (v : Nat → Nat → Int32) (r : Nat → Int32), JI r (X 2) (X 3) v → LI n (x_r X 29 v) O Q (k_s S 10 r) := fun v r hj => by
    exact h.of rfl rfl rfl h.2.2.1.2.1 h.2.2.1.2.2.1 (h.tape.eq rfl rfl rfl) rfl rfl rfl (fun c a1 a2 => h.fc a1 a2) (fun c a1 a2 => (h.img a1 a2).eq (fun r b1 _ => x_r_ne _ _ (by omega)) rfl rfl rfl rfl) hj (h.hist.eq rfl (fun r b1 b2 => x_r_ne _ _ (by omega)) rfl rfl rfl)
  rw [hqn] at hr
  unfold q_noteR at hr
  by_cases ha : a = -1
  · rw [if_pos ha] at hc
    rw [if_pos ha] at hr
    refine h.pm (S1 := k_s S 10 (upd (S 10) 120 0)) (g1 := g) (d' := 1) (by decide) (by decide) hc hr (hL _ _ (h.junc.nn (fun q hq => upd_ne (by omega)) ⟨0, by decide, rfl, ⟨upd_eq, by decide, fun i hi => absurd hi (by omega)⟩, fun i hi => absurd hi (by omega)⟩))
  · rw [if_neg ha] at hc
    rw [if_neg ha] at hr
    by_cases hq : qnG (X 2) cn a b c
    · rw [if_pos hq] at hc
      rw [if_pos (show qnG (j_s (X 2) 7 g) cn a b c from hq)] at hr
      have e : k_s S 10 (S 10) = S := funext fun k => by
        unfold k_s
        split
        · rename_i q
          rw [q]
        · rfl
      rw [e] at hr
      exact h.pm (S1 := S) (g1 := g) (d' := 1) (by decide) (by decide) hc hr h
    · rw [if_neg hq] at hc
      rw [if_neg (show ¬ qnG (j_s (X 2) 7 g) cn a b c from hq)] at hr
      obtain ⟨_, _, ρ, hρ, rfl⟩ := hxk.road (fun q => hq (Or.inr (Or.inl q)))
      have hc10 : cn < 10 := by
        rcases Nat.lt_or_eq_of_le j3 with q | q
        · exact q
        · exact absurd (Or.inr (Or.inr (Or.inr q))) hq
      refine h.pm (S1 := k_s S 10 (qnr (S 10) cn a (nI ρ) c)) (g1 := g) (d' := 1) (by decide) (by decide) hc hr (hL _ _ (h.junc.nn (fun q hq => ?_) ⟨cn + 1, by omega, rfl, ⟨upd_eq, by omega, fun i hi => ?_⟩, fun i hi => ?_⟩))
      · unfold qnr
        rw [upd_ne (by omega), upd_ne (by omega), upd_ne (by omega), upd_ne (by omega)]
      · show qnr (S 10) cn a (nI ρ) c (90 + 3 * i) = upd (X 29 1) cn a i ∧ qnr (S 10) cn a (nI ρ) c (90 + 3 * i + 1) = upd (X 29 2) cn (nI ρ) i ∧ qnr (S 10) cn a (nI ρ) c (90 + 3 * i + 2) = upd (X 29 3) cn c i
        unfold qnr
        by_cases hi' : i = cn
        · subst hi'
          refine ⟨?_, ?_, ?_⟩
          · rw [upd_ne (by omega), upd_ne (by omega), upd_ne (by omega), upd_eq, upd_eq]
          · rw [upd_ne (by omega), upd_ne (by omega), upd_eq, upd_eq]
          · rw [upd_ne (by omega), upd_eq, upd_eq]
        · obtain ⟨q1, q2, q3⟩ := j5.2.2 i (by omega)
          refine ⟨?_, ?_, ?_⟩
          · rw [upd_ne (by omega), upd_ne (by omega), upd_ne (by omega), upd_ne (by omega), upd_ne hi']
            exact q1
          · rw [upd_ne (by omega), upd_ne (by omega), upd_ne (by omega), upd_ne (by omega), upd_ne hi']
            exact q2
          · rw [upd_ne (by omega), upd_ne (by omega), upd_ne (by omega), upd_ne (by omega), upd_ne hi']
            exact q3
      · show ∃ ρ', ρ' < jR (X 2) ∧ upd (X 29 2) cn (nI ρ) i = nI ρ'
        by_cases hi' : i = cn
        · subst hi'
          exact ⟨ρ, hρ, upd_eq⟩
        · rw [upd_ne hi']
          exact j6 i (by omega)
