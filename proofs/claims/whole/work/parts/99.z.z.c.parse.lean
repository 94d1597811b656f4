/-! ===== a rule's length ===== -/
theorem mt_len {T : Nat → Int32} {N : Nat} : ∀ (m : Nat) (b : Bool) (O : List Nat) (p : Nat) (l : gSg) (c p' : Nat) (l' : gSg) (c' : Nat), mtR T N m b O p l c (.ok (p', l', c')) → p ≤ N → l'.length + p ≤ l.length + O.length + p' ∧ p ≤ p' ∧ p' ≤ N
  | 0, b, O, p, l, c, p', l', c', h, hp => by
    unfold mtR at h
    exact absurd h id
  | m + 1, false, O, p, l, c, p', l', c', h, hp => by
    unfold mtR at h
    rcases h with ⟨h1, h | h⟩ | ⟨h1, h2, h | h⟩ | ⟨h1, h2, r1, h3, h⟩
    · cases h.2
    · have a := nx_lt (T := T) (wd_te hp h1).1
      have b := nx_le (T := T) hp
      have := mt_len m false _ _ _ _ _ _ _ h.2 b.2
      rw [List.length_cons] at this
      omega
    · cases h.2
    · have a := nx_lt (T := T) h2.1
      have b := nx_le (T := T) hp
      have := mt_len m false _ _ _ _ _ _ _ h.2 b.2
      rw [List.length_cons] at this
      omega
    · rcases h with ⟨g, _, h⟩ | ⟨p1, l1, c1, rfl, h⟩
      · cases h
      · obtain ⟨_, b1, b2, b3, _⟩ := cpR_ty h3 hp
        have := mt_len m true _ _ _ _ _ _ _ h b3
        rw [List.length_append] at this
        omega
  | m + 1, true, O, p, l, c, p', l', c', h, hp => by
    unfold mtR at h
    have k3 := ly_len 3 O
    have k1 := ly_len 1 (lyR 3 O)
    have k2 := ly_len 2 (lyR 3 O)
    rcases h with ⟨h1, h⟩ | ⟨_, h1, h⟩ | ⟨_, _, h1, h⟩ | ⟨_, _, _, h | ⟨_, h⟩⟩
    · have b := nx_le (T := T) hp
      have := mt_len m true _ _ _ _ _ _ _ h b.2
      rw [List.length_append, List.length_append, List.length_tail] at this
      omega
    · have a := nx_lt (T := T) (wd_te hp h1).1
      have b := nx_le (T := T) hp
      have := mt_len m false _ _ _ _ _ _ _ h b.2
      rw [List.length_append, List.length_append, List.length_cons] at this
      omega
    · have a := nx_lt (T := T) (wd_te hp h1).1
      have b := nx_le (T := T) hp
      have := mt_len m false _ _ _ _ _ _ _ h b.2
      rw [List.length_append, List.length_append, List.length_cons] at this
      omega
    · cases h.2
    · injection h with h
      injection h with e1 h
      injection h with e2 e3
      subst e1 e2
      rw [List.length_append, List.length_append]
      omega
theorem cl_len {T : Nat → Int32} {N p c p' c' : Nat} {q : gCl} (h : clR T N p c (.ok (p', q, c'))) (hp : p ≤ N) : (cstep q).length + p ≤ p' + 1 ∧ p ≤ p' ∧ p' ≤ N := by
  obtain ⟨m, r1, h1, h⟩ := h
  rcases h with ⟨g, _, h⟩ | ⟨p1, l1, c1, rfl, h⟩
  · cases h
  · obtain ⟨l2, e, _, b1, b2, b3, _⟩ := smR_ty _ _ _ _ _ _ _ _ _ h1 (Or.inl rfl) (Or.inl rfl) hp
    have e0 : (opt 0).length = 0 := rfl
    rw [List.nil_append] at e
    subst e
    rcases h with ⟨_, h⟩ | ⟨h2, m', r2, h3, h⟩
    · injection h with h
      injection h with e1 h
      injection h with e2 e3
      subst e1 e2
      unfold cstep
      rw [List.length_append, List.length_map]
      show l1.length + 1 + p ≤ _ ∧ _
      omega
    · rcases h with ⟨g, _, h⟩ | ⟨p2, l2, c2, rfl, h⟩
      · cases h
      · injection h with h
        injection h with e1 h
        injection h with e2 e3
        subst e1 e2
        have a := nx_lt (T := T) (wd_te b3 h2).1
        have b := nx_le (T := T) b3
        have := mt_len _ _ _ _ _ _ _ _ _ h3 b.2
        unfold cstep
        rw [List.length_append, List.length_map]
        show l1.length + (List.map cenc l2 ++ [-34]).length + p ≤ _ ∧ _
        rw [List.length_append, List.length_map]
        simp only [List.length_nil, List.length_cons] at this ⊢
        omega
theorem rl_len {T : Nat → Int32} {N : Nat} : ∀ (m p n c : Nat) (cl cl' : List gCl), rlR T N m p n c cl (.ok cl') → p ≤ N → (csteps cl).length ≤ p → (csteps cl').length ≤ N
  | 0, p, n, c, cl, cl', h, hp, hl => by
    unfold rlR at h
    exact absurd h id
  | m + 1, p, n, c, cl, cl', h, hp, hl => by
    unfold rlR at h
    rcases h with ⟨_, h⟩ | ⟨_, _, h⟩ | ⟨h1, _, r1, h2, h⟩
    · cases h
    · cases h
    · rcases h with ⟨g, _, h⟩ | ⟨p1, q, c1, rfl, h⟩
      · cases h
      · have a := nx_lt (T := T) (wd_te hp h1).1
        have b := nx_le (T := T) hp
        have d := cl_len h2 b.2
        rcases h with ⟨_, h⟩ | ⟨_, _, h⟩ | ⟨h3, h⟩
        · injection h with h
          subst h
          rw [csteps_app, List.length_append]
          omega
        · cases h
        · have e := nx_le (T := T) d.2.2
          refine rl_len m _ _ _ _ _ h e.2 ?_
          rw [csteps_app, List.length_append]
          omega
/-! ===== pairs: rule(), junction() ===== -/
theorem kput_back {S S' : gS} {J : gJn} (h10 : S' 10 = ksaid (S 10) J) (h11 : ∀ i, i < 6 → S' 11 i = J 7 i) (h23 : S' 0 23 = J 9 5) : kput (k_s S' 10 (S 10)) J = S' := by
  funext k
  unfold kput
  by_cases k10 : k = 10
  · subst k10
    rw [if_pos rfl]
    exact h10.symm
  rw [if_neg k10]
  by_cases k11 : k = 11
  · subst k11
    rw [if_pos rfl]
    funext i
    show (if i < 6 then J 7 i else S' 11 i) = S' 11 i
    by_cases hi : i < 6
    · rw [if_pos hi, h11 i hi]
    · rw [if_neg hi]
  rw [if_neg k11]
  by_cases k0 : k = 0
  · subst k0
    rw [if_pos rfl]
    funext i
    show upd (S' 0) 23 (J 9 5) i = S' 0 i
    by_cases hi : i = 23
    · subst hi
      rw [upd_eq, h23]
    · rw [upd_ne hi]
  rw [if_neg k0]
  exact if_neg k10
theorem krel_fe {t : Nat} {S S' : gS} (h : kfe t S S') {i : Nat} (hi : i < t) {cl : List gCl} (hk : krel S i cl) : krel S' i cl := by
  obtain ⟨_, _, f2, f4, f5⟩ := h
  obtain ⟨a, b, c, d⟩ := hk
  have hp : ∀ b0 p, kprog S i b0 p → kprog S' i b0 p := fun b0 p hp => ⟨hp.1, fun j x hx => by
    have hj : j < p.length := (List.getElem?_eq_some_iff.mp hx).1
    have := hp.1
    rw [f2 _ (by omega)]
    exact hp.2 j x hx⟩
  refine ⟨(f5 i (by omega)).trans a, b, fun c0 q hq => ?_, d⟩
  have hc0 : c0 < cl.length := (List.getElem?_eq_some_iff.mp hq).1
  obtain ⟨b0, c1, c2, c3, c4, c5⟩ := c c0 q hq
  refine ⟨b0, ?_, ?_, hp _ _ c3, fun e => ?_, fun t0 e => ?_⟩
  · rw [f4 _ (by omega)]; exact c1
  · rw [f4 _ (by omega)]; exact c2
  · rw [f4 _ (by omega)]; exact c4 e
  · obtain ⟨e1, e2, e3⟩ := c5 t0 e
    refine ⟨?_, ?_, hp _ _ e3⟩
    · rw [f4 _ (by omega)]; exact e1
    · rw [f4 _ (by omega)]; exact e2
theorem krel_10 {S : gS} {r : Nat → Int32} {i : Nat} {cl : List gCl} (h : krel S i cl) : krel (k_s S 10 r) i cl := krel_eq rfl rfl rfl h
theorem krel_put {S : gS} {J : gJn} {i : Nat} {cl : List gCl} (h : krel S i cl) : krel (kput S J) i cl := krel_eq rfl rfl rfl h
theorem FI.mono {c c' : Nat} (hc : c ≤ c') {f x : Int32} (h : FI c f x) : FI c' f x := by
  obtain ⟨h1, h2⟩ := h
  refine ⟨?_, h2⟩
  rcases h1 with q | ⟨i, hi, q⟩
  · exact Or.inl q
  · exact Or.inr ⟨i, by omega, q⟩
theorem II.mono {S : gS} {X : gX} {c c' : Nat} (hc : c ≤ c') (h : II S X c) : II S X c' := fun k hk => by
  rcases h k hk with q | ⟨a, b, d, e, f⟩
  · exact Or.inl q
  · exact Or.inr ⟨a, b, d, e.mono hc, f⟩
theorem LI.ruleE {n : Nat} {X X1 : gX} {O : gO} {Q : gU} {S S' : gS} {g : Nat → Int32} (h : LI n X O Q S) {i : Nat} (h16 : X 0 0 16 = nI i) (hi : i < 6) (hx : xf X X1) (hx1 : X1 1 0 1 = 0) (hx2 : X1 1 1 = X 1 1) (hk : kfe i (kput S (j_s (X 2) 7 g)) S') (h1 : S' 0 1 = 0) (h2 : S' 0 2 = nI i) : LI n X1 O Q (k_s S' 10 (S 10)) ∧ kput (k_s S' 10 (S 10)) (j_s (X1 2) 7 g) = S' := by
  have x2 : X1 2 = X 2 := hx 2 (by decide) (by decide)
  have x0 : X1 0 = X 0 := hx 0 (by decide) (by decide)
  obtain ⟨a, ⟨p, b1, b2, b3, b4, b5⟩, ⟨c1, c2, c3, c4⟩, c, d, e, f, g0, i0, j, k⟩ := h
  have hci : c = i := nI_inj (by omega) (by omega) (d.symm.trans h16)
  subst hci
  have hrow : ∀ r, r ≠ 0 → r ≠ 2 → r ≠ 3 → r ≠ 4 → r ≠ 5 → r ≠ 7 → r ≠ 10 → r ≠ 11 → S' r = S r := fun r q0 q2 q3 q4 q5 q7 q10 q11 => by
    rw [hk.1 r q0 q2 q3 q4 q5 q7]
    show kput S _ r = _
    unfold kput
    rw [if_neg q10, if_neg q11, if_neg q0]
  have hf : ∀ r, r ≠ 1 → r ≠ 2 → r ≠ 8 → r ≠ 9 → r ≠ 10 → r ≠ 11 → r ≠ 12 → r ≠ 13 → r ≠ 14 → r ≠ 16 → r ≠ 23 → S' 0 r = S 0 r := fun r q1 q2 q3 q4 q5 q6 q7 q8 q9 q10 q11 => by
    rw [hk.2.1 r q1 q2 q3 q4 q5 q6 q7 q8 q9 q10]
    exact upd_ne q11
  have e20 := hrow 20 (by decide) (by decide) (by decide) (by decide) (by decide) (by decide) (by decide) (by decide)
  have e21 := hrow 21 (by decide) (by decide) (by decide) (by decide) (by decide) (by decide) (by decide) (by decide)
  have e22 := hrow 22 (by decide) (by decide) (by decide) (by decide) (by decide) (by decide) (by decide) (by decide)
  have e23 := hrow 23 (by decide) (by decide) (by decide) (by decide) (by decide) (by decide) (by decide) (by decide)
  have e12 := hrow 12 (by decide) (by decide) (by decide) (by decide) (by decide) (by decide) (by decide) (by decide)
  have e1 := hrow 1 (by decide) (by decide) (by decide) (by decide) (by decide) (by decide) (by decide) (by decide)
  constructor
  · refine ⟨a.eq (by rw [x0]), ⟨0, by decide, hx1, h1, ?_, fun t => by rw [hx2]; exact b5 t⟩, ⟨?_, ?_, ?_, ?_⟩, c, by rw [x0]; exact d, e, by rw [x0]; exact f, fun t ht => ?_, i0.eq (fun r q1 q2 => hx r (by omega) (by omega)) e20 e21 e22 e23, ?_, k.eq (hx 8 (by decide) (by decide)) (fun r q1 q2 => hx r (by omega) (by omega)) x2 e12 ?_⟩
    · show S' 1 = X1 1 1
      rw [e1, hx2, b4]
    · show S' 0 2 = X1 0 0 16
      rw [h2, x0, d]
    · show S' 0 21 = X1 0 0 17
      rw [hf 21 (by decide) (by decide) (by decide) (by decide) (by decide) (by decide) (by decide) (by decide) (by decide) (by decide) (by decide), x0]
      exact c2
    · show S' 0 22 = X1 0 0 18
      rw [hf 22 (by decide) (by decide) (by decide) (by decide) (by decide) (by decide) (by decide) (by decide) (by decide) (by decide) (by decide), x0]
      exact c3
    · show S' 0 24 = -1
      rw [hf 24 (by decide) (by decide) (by decide) (by decide) (by decide) (by decide) (by decide) (by decide) (by decide) (by decide) (by decide)]
      exact c4
    · obtain ⟨cl, q1, q2⟩ := g0 t ht
      exact ⟨cl, krel_10 (krel_fe hk ht (krel_put q1)), q2⟩
    · rw [x2, hx 3 (by decide) (by decide), hx 29 (by decide) (by decide)]
      exact j
    · exact hf 27 (by decide) (by decide) (by decide) (by decide) (by decide) (by decide) (by decide) (by decide) (by decide) (by decide) (by decide)
  · rw [x2]
    refine kput_back (hk.1 10 (by decide) (by decide) (by decide) (by decide) (by decide) (by decide)) (fun t ht => ?_) ?_
    · rw [hk.1 11 (by decide) (by decide) (by decide) (by decide) (by decide) (by decide)]
      exact if_pos ht
    · rw [hk.2.1 23 (by decide) (by decide) (by decide) (by decide) (by decide) (by decide) (by decide) (by decide) (by decide) (by decide)]
      rfl
theorem LI.ruleO {n : Nat} {X X1 : gX} {O : gO} {Q : gU} {S S' : gS} {g : Nat → Int32} (h : LI n X O Q S) {i : Nat} (h16 : X 0 0 16 = nI i) (hi : i < 6) (hx : ∀ r, r ≠ 0 → r ≠ 1 → r ≠ 6 → X1 r = X r) (hx0 : X1 0 = j_f (X 0) 16 (nI (i + 1))) (hx1 : X1 1 0 1 = 0) (hx2 : X1 1 1 = X 1 1) (hk : kfe i (kput S (j_s (X 2) 7 g)) S') (h1 : S' 0 1 = 0) (h2 : S' 0 2 = nI (i + 1)) {cl : List gCl} {f : Nat → Int32} {m : Nat} (hm : m ≤ 400) (hcr : crel f m cl) (hkr : krel S' i cl) : LI (n + 3) X1 (va_up O i (some n)) (q_u Q i (m, f)) (k_s S' 10 (S 10)) ∧ kput (k_s S' 10 (S 10)) (j_s (X1 2) 7 g) = S' := by
  have x2 : X1 2 = X 2 := hx 2 (by decide) (by decide) (by decide)
  obtain ⟨⟨c', a1, a2, a3, a4⟩, ⟨p, b1, b2, b3, b4, b5⟩, ⟨c1, c2, c3, c4⟩, c, d, e, f0, g0, i0, j, k⟩ := h
  have hci : c = i := nI_inj (by omega) (by omega) (d.symm.trans h16)
  have hci' : c' = i := nI_inj (by omega) (by omega) (a2.symm.trans h16)
  subst hci
  subst hci'
  have hrow : ∀ r, r ≠ 0 → r ≠ 2 → r ≠ 3 → r ≠ 4 → r ≠ 5 → r ≠ 7 → r ≠ 10 → r ≠ 11 → S' r = S r := fun r q0 q2 q3 q4 q5 q7 q10 q11 => by
    rw [hk.1 r q0 q2 q3 q4 q5 q7]
    show kput S _ r = _
    unfold kput
    rw [if_neg q10, if_neg q11, if_neg q0]
  have hf : ∀ r, r ≠ 1 → r ≠ 2 → r ≠ 8 → r ≠ 9 → r ≠ 10 → r ≠ 11 → r ≠ 12 → r ≠ 13 → r ≠ 14 → r ≠ 16 → r ≠ 23 → S' 0 r = S 0 r := fun r q1 q2 q3 q4 q5 q6 q7 q8 q9 q10 q11 => by
    rw [hk.2.1 r q1 q2 q3 q4 q5 q6 q7 q8 q9 q10]
    exact upd_ne q11
  have e20 := hrow 20 (by decide) (by decide) (by decide) (by decide) (by decide) (by decide) (by decide) (by decide)
  have e21 := hrow 21 (by decide) (by decide) (by decide) (by decide) (by decide) (by decide) (by decide) (by decide)
  have e22 := hrow 22 (by decide) (by decide) (by decide) (by decide) (by decide) (by decide) (by decide) (by decide)
  have e23 := hrow 23 (by decide) (by decide) (by decide) (by decide) (by decide) (by decide) (by decide) (by decide)
  have e12 := hrow 12 (by decide) (by decide) (by decide) (by decide) (by decide) (by decide) (by decide) (by decide)
  have e1 := hrow 1 (by decide) (by decide) (by decide) (by decide) (by decide) (by decide) (by decide) (by decide)
  have x16 : X1 0 0 16 = nI (c' + 1) := by rw [hx0]; rfl
  have x17 : X1 0 0 17 = X 0 0 17 := by rw [hx0]; rfl
  have x18 : X1 0 0 18 = X 0 0 18 := by rw [hx0]; rfl
  constructor
  · refine ⟨⟨c' + 1, by omega, x16, by omega, fun t ht => ?_⟩, ⟨0, by decide, hx1, h1, ?_, fun t => by rw [hx2]; exact b5 t⟩, ⟨?_, ?_, ?_, ?_⟩, c' + 1, x16, by omega, by rw [x17, x18]; exact f0.mono (by omega), fun t ht => ?_, (i0.eq (fun r q1 q2 => hx r (by omega) (by omega) (by omega)) e20 e21 e22 e23).mono (by omega), ?_, k.eq (hx 8 (by decide) (by decide) (by decide)) (fun r q1 q2 => hx r (by omega) (by omega) (by omega)) x2 e12 ?_⟩
    · by_cases htc : t = c'
      · subst htc
        refine ⟨?_, ?_⟩
        · unfold va_up
          rw [if_pos rfl, a3]
        · unfold q_u
          rw [if_pos rfl]
          exact hm
      · have := a4 t (by omega)
        refine ⟨?_, ?_⟩
        · unfold va_up
          rw [if_neg htc]
          exact this.1
        · unfold q_u
          rw [if_neg htc]
          exact this.2
    · show S' 1 = X1 1 1
      rw [e1, hx2, b4]
    · show S' 0 2 = X1 0 0 16
      rw [h2, x16]
    · show S' 0 21 = X1 0 0 17
      rw [hf 21 (by decide) (by decide) (by decide) (by decide) (by decide) (by decide) (by decide) (by decide) (by decide) (by decide) (by decide), x17]
      exact c2
    · show S' 0 22 = X1 0 0 18
      rw [hf 22 (by decide) (by decide) (by decide) (by decide) (by decide) (by decide) (by decide) (by decide) (by decide) (by decide) (by decide), x18]
      exact c3
    · show S' 0 24 = -1
      rw [hf 24 (by decide) (by decide) (by decide) (by decide) (by decide) (by decide) (by decide) (by decide) (by decide) (by decide) (by decide)]
      exact c4
    · by_cases htc : t = c'
      · subst htc
        refine ⟨cl, krel_10 hkr, ?_⟩
        unfold q_u
        rw [if_pos rfl]
        exact hcr
      · obtain ⟨cl', q1, q2⟩ := g0 t (by omega)
        refine ⟨cl', krel_10 (krel_fe hk (by omega) (krel_put q1)), ?_⟩
        unfold q_u
        rw [if_neg htc]
        exact q2
    · rw [x2, hx 3 (by decide) (by decide) (by decide), hx 29 (by decide) (by decide) (by decide)]
      exact j
    · exact hf 27 (by decide) (by decide) (by decide) (by decide) (by decide) (by decide) (by decide) (by decide) (by decide) (by decide) (by decide)
  · rw [x2]
    refine kput_back (hk.1 10 (by decide) (by decide) (by decide) (by decide) (by decide) (by decide)) (fun t ht => ?_) ?_
    · rw [hk.1 11 (by decide) (by decide) (by decide) (by decide) (by decide) (by decide)]
      exact if_pos ht
    · rw [hk.2.1 23 (by decide) (by decide) (by decide) (by decide) (by decide) (by decide) (by decide) (by decide) (by decide) (by decide)]
      rfl
theorem pr_rule {M : gM} (h : ST M) : PR 0 0 mX10_rule mX11_rule [] M ∨ ∃ b, b ≤ 500 ∧ PR 3 b mX10_rule mX11_rule [] M := by
  obtain ⟨n, X, O, Q, G, S, L, g, h, rfl⟩ := h
  obtain ⟨p, p4, t1, t2, t3, t4⟩ := h.tape
  obtain ⟨c, hc6, h16⟩ := h.cnt
  have hs2 : S 0 2 = nI c := h.2.2.1.1.trans h16
  by_cases hc : c = 6
  · left
    refine ⟨0, by decide, (c_X10_ruleF h.1.M p4 t4 t1 rfl h16 hc).weaken ?_⟩
    rintro v M' ⟨rfl, rfl⟩
    refine ⟨-1, 0, by decide, rfl, ⟨_, _, _, _, _, _, _, h.1.M, rfl⟩, ?_⟩
    have := c_X11_ruleF (M := xm n X O Q G (kput S (j_s (X 2) 7 g)) L) (S := kput S (j_s (X 2) 7 g)) (L := L) (T := X 1 1) (N := p) (i := c) h.1.M p4 t4 t2 t3 hs2 hc
    rw [kp_xm] at this
    refine this.weaken ?_
    rintro v2 M2 ⟨rfl, rfl⟩
    exact ⟨rfl, n, X, O, Q, G, S, L, g, h, rfl⟩
  · by_cases hok : ∃ cl m, rlR (X 1 1) p m (sk (X 1 1) p 0) 0 0 [] (.ok cl)
    · right
      obtain ⟨cl, m, hok⟩ := hok
      have hn : n = 408 + 3 * c := by
        obtain ⟨c', _, a2, a3, _⟩ := h.1
        rw [a3, nI_inj (a := c') (b := c) (by omega) (by omega) (a2.symm.trans h16)]
      have hlen : (csteps cl).length ≤ 400 := Nat.le_trans (rl_len _ _ _ _ _ _ hok (sk_le (Nat.zero_le _)).2 (Nat.zero_le _)) p4
      · refine ⟨_, ?_, 31, by decide, (c_X10_ruleO h.1.M p4 t4 t1 rfl h16 (by omega) hn hok).weaken ?_⟩
        · omega
        · rintro v M' ⟨rfl, X1, f, rfl, x1, x2, x3, x4, x5, x6⟩
          have h408 := h.1.M
          refine ⟨nI c, 12, by decide, rfl, ⟨_, _, _, _, _, _, _, by omega, rfl⟩, ?_⟩
          have := c_X11_rule (M := xm (n + 3) X1 (va_up O c (some n)) (q_u Q c ((csteps cl).length, f)) (k_g G c (fun _ => 0)) (kput S (j_s (X 2) 7 g)) L) (S := kput S (j_s (X 2) 7 g)) (L := L) (T := X 1 1) (N := p) (i := c) (show 408 ≤ n + 3 by omega) p4 t4 t2 t3 hs2 (by omega) hok (fun g hg => by cases hg)
          rw [kp_xm] at this
          refine this.weaken ?_
          rintro v2 M2 ⟨S', rfl, hk, s1, hs⟩
          rcases hs with ⟨g', hg', _⟩ | ⟨cl', hcl, rfl, s2, s3, s4, s5, s6⟩
          · cases hg'
          · cases hcl
            obtain ⟨y1, y2⟩ := h.ruleO h16 (by omega) x1 x2 x3 x4 hk s1 s2 x6 x5 (krel_of s3 s4 s5 s6 x5.2.2)
            refine ⟨rfl, _, X1, _, _, k_g G c (fun _ => 0), _, L, g, y1, ?_⟩
            rw [kp_xm, y2]
    · left
      refine ⟨31, by decide, (c_X10_ruleE h.1.M p4 t4 t1 rfl h16 (by omega) (fun cl m q => hok ⟨cl, m, q⟩)).weaken ?_⟩
      rintro v M' ⟨e, X1, rfl, he, ⟨m, hm⟩, rfl, x1, x2, x3⟩
      refine ⟨-2 - e, 12, by decide, rfl, ⟨_, _, _, _, _, _, _, h.1.M, rfl⟩, ?_⟩
      have := c_X11_rule (M := xm n X1 O Q G (kput S (j_s (X 2) 7 g)) L) (S := kput S (j_s (X 2) 7 g)) (L := L) (T := X 1 1) (N := p) (i := c) h.1.M p4 t4 t2 t3 hs2 (by omega) hm (fun g hg => by cases hg; exact he)
      rw [kp_xm] at this
      refine this.weaken ?_
      rintro v2 M2 ⟨S', rfl, hk, s1, hs⟩
      rcases hs with ⟨g', hg', rfl, s2⟩ | ⟨cl', hcl, _⟩
      · cases hg'
        obtain ⟨y1, y2⟩ := h.ruleE h16 (by omega) x1 x2 x3 hk s1 s2
        refine ⟨rfl, n, X1, O, Q, G, _, L, g, y1, ?_⟩
        rw [kp_xm, y2]
      · cases hcl
